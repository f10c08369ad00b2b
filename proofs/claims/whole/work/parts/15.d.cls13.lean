def cnC (da pe de no pa : Int32) (bn : Nat → Nat) (ln : Int32) (wh : Nat) : Int32 := if wh = 0 then pe else if wh = 1 then da else if wh = 2 then nI (ct (owS bn).testBit 31) else if wh = 3 then de else if wh = 4 then no else if wh = 5 then pa else ln
def dc1 (da pe de no pa : Int32) (bn : Nat → Nat) (ln : Int32) : Nat → Int64
  | 0 => 1201
  | k + 1 => lh (dc1 da pe de no pa bn ln k) (cnC da pe de no pa bn ln k)
def dgC (kd pl bn dn dp nt : Nat → Nat) (da pa : Int32) (n u v : Nat) (ln : Int32) (ab be : Int64) : Int64 := 31 * (31 * mx3 nt (mx2 dn dp (mx1 kd pl bn n (dc1 da (nI n) (nI u) (nI v) pa bn ln 7) n) u) (v * 5) + ab) + be

set_option maxHeartbeats 600000 in
set_option maxRecDepth 100000 in
theorem f_X11_part_0 (l : Launch) (E : Ew) (x : Nat → Nat) (h : Nat → Nat) (dr : Nat → Nat) (ab : Int64) (be : Int64)  : Fn l E 2 yX11_part cX11_part 2 (some .long) [.ref (x 0), .int (nI 0)] [(x 0, .inr (11, oL x h dr)), (x 6, .inr (4, oF x ab be))] (some (.long ab)) [(x 0, .inr (11, oL x h dr)), (x 6, .inr (4, oF x ab be))] := by
  refine fn_L (by decide) (Nat.le_of_ble_eq_true rfl) rfl ?_
  intro K hC hR
  show G K E 2 [(x 0, .inr (11, oL x h dr)), (x 6, .inr (4, oF x ab be))] [(0, .ref (x 0)), (1, .int (nI 0))] 0 []
  refine g_iload_n hC dX11_part_0 rfl 1 rfl ?_
  refine g_iconst (v := (nI 2)) hC dX11_part_1 (by decide) ?_
  refine g_callS hC (f_X11_within (kl K) E (nI 0) 2 (by omega)) wX11_within m2_13 dX11_part_2 [] [(x 0, .inr (11, oL x h dr)), (x 6, .inr (4, oF x ab be))] (by decide) rfl (Nat.le_of_ble_eq_true rfl) rfl rfl rfl rfl rfl ?_
  refine g_if_neB (tgt := 16) hC dX11_part_5 (by decide) (fun h_5 => ?_) (fun h_5 => ?_)
  · refine g_iload_n hC dX11_part_16 rfl 1 rfl ?_
    refine g_if_neN (tgt := 30) hC dX11_part_17 (by decide) (by omega) (fun h_17 => ?_) (fun h_17 => ?_)
    · omega
    · refine g_aload_n hC dX11_part_20 rfl 0 rfl ?_
      refine g_get hC 0 11 5 inX11 m1_226 dX11_part_21 rfl rfl (by decide) rfl ?_
      refine g_get hC 1 4 0 inX4 m1_129 dX11_part_24 rfl rfl (by decide) rfl ?_
      refine g_goto (tgt := 37) hC dX11_part_27 (by decide) ?_
      exact g_val (rfl) (g_ws (rfl) (hR _ _ dX11_part_37))
  · exact Bool.noConfusion ((inB_ok (by omega) (by omega)).symm.trans h_5)
set_option maxHeartbeats 600000 in
set_option maxRecDepth 100000 in
theorem f_X11_part_1 (l : Launch) (E : Ew) (x : Nat → Nat) (h : Nat → Nat) (dr : Nat → Nat) (ab : Int64) (be : Int64)  : Fn l E 2 yX11_part cX11_part 2 (some .long) [.ref (x 0), .int (nI 1)] [(x 0, .inr (11, oL x h dr)), (x 6, .inr (4, oF x ab be))] (some (.long be)) [(x 0, .inr (11, oL x h dr)), (x 6, .inr (4, oF x ab be))] := by
  refine fn_L (by decide) (Nat.le_of_ble_eq_true rfl) rfl ?_
  intro K hC hR
  show G K E 2 [(x 0, .inr (11, oL x h dr)), (x 6, .inr (4, oF x ab be))] [(0, .ref (x 0)), (1, .int (nI 1))] 0 []
  refine g_iload_n hC dX11_part_0 rfl 1 rfl ?_
  refine g_iconst (v := (nI 2)) hC dX11_part_1 (by decide) ?_
  refine g_callS hC (f_X11_within (kl K) E (nI 1) 2 (by omega)) wX11_within m2_13 dX11_part_2 [] [(x 0, .inr (11, oL x h dr)), (x 6, .inr (4, oF x ab be))] (by decide) rfl (Nat.le_of_ble_eq_true rfl) rfl rfl rfl rfl rfl ?_
  refine g_if_neB (tgt := 16) hC dX11_part_5 (by decide) (fun h_5 => ?_) (fun h_5 => ?_)
  · refine g_iload_n hC dX11_part_16 rfl 1 rfl ?_
    refine g_if_neN (tgt := 30) hC dX11_part_17 (by decide) (by omega) (fun h_17 => ?_) (fun h_17 => ?_)
    · refine g_aload_n hC dX11_part_30 rfl 0 rfl ?_
      refine g_get hC 0 11 5 inX11 m1_226 dX11_part_31 rfl rfl (by decide) rfl ?_
      refine g_get hC 1 4 1 inX4 m1_131 dX11_part_34 rfl rfl (by decide) rfl ?_
      exact g_val (rfl) (g_ws (rfl) (hR _ _ dX11_part_37))
    · omega
  · exact Bool.noConfusion ((inB_ok (by omega) (by omega)).symm.trans h_5)
set_option maxHeartbeats 600000 in
set_option maxRecDepth 100000 in
theorem f_X11_part_bad (l : Launch) (E : Ew) (x : Nat → Nat) (h : Nat → Nat) (dr : Nat → Nat) (r : Nat → Int32) (wh : Int32) (hb : inB wh 2 = false) : Fn l E 2 yX11_part cX11_part 2 (some .long) [.ref (x 0), .int wh] [(x 0, .inr (11, oL x h dr)), (x 3, .inl (E.2.1 0, 3, .inl r))] (some (.long ((-2 : Int32).toInt64))) [(x 0, .inr (11, oL x h dr)), (x 3, .inl (E.2.1 0, 3, .inl (upd r 0 (r 0 + nI 1))))] := by
  refine fn_L (by decide) (Nat.le_of_ble_eq_true rfl) rfl ?_
  intro K hC hR
  show G K E 2 [(x 0, .inr (11, oL x h dr)), (x 3, .inl (E.2.1 0, 3, .inl r))] [(0, .ref (x 0)), (1, .int wh)] 0 []
  refine g_iload_n hC dX11_part_0 rfl 1 rfl ?_
  refine g_iconst (v := (nI 2)) hC dX11_part_1 (by decide) ?_
  refine g_callS hC (f_X11_within (kl K) E wh 2 (by omega)) wX11_within m2_13 dX11_part_2 [] [(x 0, .inr (11, oL x h dr)), (x 3, .inl (E.2.1 0, 3, .inl r))] (by decide) rfl (Nat.le_of_ble_eq_true rfl) rfl rfl rfl rfl rfl ?_
  refine g_if_neB (tgt := 16) hC dX11_part_5 (by decide) (fun h_5 => ?_) (fun h_5 => ?_)
  · exact absurd h_5 (by rw [hb]; decide)
  · refine g_aload_n hC dX11_part_8 rfl 0 rfl ?_
    refine g_bipush (v := (-2)) hC dX11_part_9 (by decide) ?_
    refine g_callV hC (f_X11_refuse_bad (kl K) E x h dr r) wX11_refuse m2_16 dX11_part_11 [0, 1] [(x 0, .inr (11, oL x h dr)), (x 3, .inl (E.2.1 0, 3, .inl (upd r 0 (r 0 + nI 1))))] 0 11 rfl rfl (by decide) rfl (Nat.le_of_ble_eq_true rfl) rfl rfl rfl rfl rfl ?_
    refine g_i2l hC dX11_part_14 ?_
    exact g_val (rfl) (g_ws (rfl) (hR _ _ dX11_part_15))
set_option maxHeartbeats 600000 in
set_option maxRecDepth 100000 in
theorem f_X11_status_bad (l : Launch) (E : Ew) (x : Nat → Nat) (h : Nat → Nat) (dr : Nat → Nat) (r : Nat → Int32) (wh : Int32) (hb : inB wh 3 = false) : Fn l E 2 yX11_status cX11_status 2 (some .int) [.ref (x 0), .int wh] [(x 0, .inr (11, oL x h dr)), (x 3, .inl (E.2.1 0, 3, .inl r))] (some (.int (-1))) [(x 0, .inr (11, oL x h dr)), (x 3, .inl (E.2.1 0, 3, .inl (upd r 0 (r 0 + nI 1))))] := by
  refine fn_I (by decide) (Nat.le_of_ble_eq_true rfl) rfl ?_
  intro K hC hR
  show G K E 2 [(x 0, .inr (11, oL x h dr)), (x 3, .inl (E.2.1 0, 3, .inl r))] [(0, .ref (x 0)), (1, .int wh)] 0 []
  refine g_iload_n hC dX11_status_0 rfl 1 rfl ?_
  refine g_iconst (v := (nI 3)) hC dX11_status_1 (by decide) ?_
  refine g_callS hC (f_X11_within (kl K) E wh 3 (by omega)) wX11_within m2_13 dX11_status_2 [] [(x 0, .inr (11, oL x h dr)), (x 3, .inl (E.2.1 0, 3, .inl r))] (by decide) rfl (Nat.le_of_ble_eq_true rfl) rfl rfl rfl rfl rfl ?_
  refine g_if_neB (tgt := 17) hC dX11_status_5 (by decide) (fun h_5 => ?_) (fun h_5 => ?_)
  · exact absurd h_5 (by rw [hb]; decide)
  · refine g_aload_n hC dX11_status_8 rfl 0 rfl ?_
    refine g_bipush (v := (-2)) hC dX11_status_9 (by decide) ?_
    refine g_callV hC (f_X11_refuse_bad (kl K) E x h dr r) wX11_refuse m2_16 dX11_status_11 [0, 1] [(x 0, .inr (11, oL x h dr)), (x 3, .inl (E.2.1 0, 3, .inl (upd r 0 (r 0 + nI 1))))] 0 11 rfl rfl (by decide) rfl (Nat.le_of_ble_eq_true rfl) rfl rfl rfl rfl rfl ?_
    refine g_pop hC dX11_status_14 rfl ?_
    refine g_iconst (v := (-1)) hC dX11_status_15 (by decide) ?_
    exact g_val (rfl) (g_ws (rfl) (hR _ _ dX11_status_16))
set_option maxHeartbeats 600000 in
set_option maxRecDepth 100000 in
theorem f_X11_status_ok (l : Launch) (E : Ew) (x : Nat → Nat) (h : Nat → Nat) (dr : Nat → Nat) (r : Nat → Int32) (wh : Nat) (hwh : wh < 3) : Fn l E 2 yX11_status cX11_status 2 (some .int) [.ref (x 0), .int (nI wh)] [(x 0, .inr (11, oL x h dr)), (x 3, .inl (E.2.1 0, 3, .inl r))] (some (.int (r wh))) [(x 0, .inr (11, oL x h dr)), (x 3, .inl (E.2.1 0, 3, .inl r))] := by
  refine fn_I (by decide) (Nat.le_of_ble_eq_true rfl) rfl ?_
  intro K hC hR
  show G K E 2 [(x 0, .inr (11, oL x h dr)), (x 3, .inl (E.2.1 0, 3, .inl r))] [(0, .ref (x 0)), (1, .int (nI wh))] 0 []
  refine g_iload_n hC dX11_status_0 rfl 1 rfl ?_
  refine g_iconst (v := (nI 3)) hC dX11_status_1 (by decide) ?_
  refine g_callS hC (f_X11_within (kl K) E (nI wh) 3 (by omega)) wX11_within m2_13 dX11_status_2 [] [(x 0, .inr (11, oL x h dr)), (x 3, .inl (E.2.1 0, 3, .inl r))] (by decide) rfl (Nat.le_of_ble_eq_true rfl) rfl rfl rfl rfl rfl ?_
  refine g_if_neB (tgt := 17) hC dX11_status_5 (by decide) (fun h_5 => ?_) (fun h_5 => ?_)
  · refine g_aload_n hC dX11_status_17 rfl 0 rfl ?_
    refine g_get hC 0 11 8 inX11 m1_229 dX11_status_18 rfl rfl (by decide) rfl ?_
    refine g_iload_n hC dX11_status_21 rfl 1 rfl ?_
    refine g_ialdN hC 1 dX11_status_22 rfl (by decide) (by omega) ?_
    exact g_val (rfl) (g_ws (rfl) (hR _ _ dX11_status_23))
  · exact Bool.noConfusion ((inB_ok (by omega) (by omega)).symm.trans h_5)
set_option maxHeartbeats 600000 in
set_option maxRecDepth 100000 in
theorem f_X11_image_0 (l : Launch) (E : Ew) (x : Nat → Nat) (h : Nat → Nat) (dr : Nat → Nat) (g0 : Nat → Nat) (g1 : Nat → Nat) (ik : Nat → Int32) (da : Int32) (pe : Int32) (de : Int32) (no : Int32) (pa : Int32) (kd : Nat → Nat) (pl : Nat → Nat) (bn : Nat → Nat) (dn : Nat → Nat) (dp : Nat → Nat) (nt : Nat → Nat) (ps : Nat → Int32) (da2 : Int32) (pe2 : Int32) (de2 : Int32) (no2 : Int32) (pa2 : Int32) (kd2 : Nat → Nat) (pl2 : Nat → Nat) (bn2 : Nat → Nat) (dn2 : Nat → Nat) (dp2 : Nat → Nat) (nt2 : Nat → Nat) (ps2 : Nat → Int32)  : Fn l E 2 yX11_image cX11_image 2 (some .int) [.ref (x 0), .int (nI 0)] [(x 0, .inr (11, oL x h dr)), (x 1, .inl (E.2.1 3, 2, .inr (.inr (.inr (.inr (fun j => some ((if j = 0 then g0 else g1) 0))))))), (x 2, .inl (E.2.1 2, 2, .inl ik)), (h 0, .inr (5, oH h da pe de no pa)), (h 1, .inl (E.2.1 0, 7, .inl (nf kd))), (h 2, .inl (E.2.1 0, 7, .inl (nf pl))), (h 3, .inl (E.2.1 0, 7, .inl (nf bn))), (h 4, .inl (E.2.1 0, 6, .inl (nf dn))), (h 5, .inl (E.2.1 0, 6, .inl (nf dp))), (h 6, .inl (E.2.1 0, 30, .inl (nf nt))), (h 7, .inl (E.2.1 0, 120, .inl ps)), (g0 0, .inr (5, oH g0 da2 pe2 de2 no2 pa2)), (g0 1, .inl (E.2.1 0, 7, .inl (nf kd2))), (g0 2, .inl (E.2.1 0, 7, .inl (nf pl2))), (g0 3, .inl (E.2.1 0, 7, .inl (nf bn2))), (g0 4, .inl (E.2.1 0, 6, .inl (nf dn2))), (g0 5, .inl (E.2.1 0, 6, .inl (nf dp2))), (g0 6, .inl (E.2.1 0, 30, .inl (nf nt2))), (g0 7, .inl (E.2.1 0, 120, .inl ps2))] (some (.int (nI 1))) [(x 0, .inr (11, oL x h dr)), (x 1, .inl (E.2.1 3, 2, .inr (.inr (.inr (.inr (fun j => some ((if j = 0 then g0 else g1) 0))))))), (x 2, .inl (E.2.1 2, 2, .inl (upd ik 0 (nI 1)))), (h 0, .inr (5, oH h da pe de no pa)), (h 1, .inl (E.2.1 0, 7, .inl (nf kd))), (h 2, .inl (E.2.1 0, 7, .inl (nf pl))), (h 3, .inl (E.2.1 0, 7, .inl (nf bn))), (h 4, .inl (E.2.1 0, 6, .inl (nf dn))), (h 5, .inl (E.2.1 0, 6, .inl (nf dp))), (h 6, .inl (E.2.1 0, 30, .inl (nf nt))), (h 7, .inl (E.2.1 0, 120, .inl ps)), (g0 0, .inr (5, oH g0 da pe de no pa)), (g0 1, .inl (E.2.1 0, 7, .inl (nf kd))), (g0 2, .inl (E.2.1 0, 7, .inl (nf pl))), (g0 3, .inl (E.2.1 0, 7, .inl (nf bn))), (g0 4, .inl (E.2.1 0, 6, .inl (nf dn))), (g0 5, .inl (E.2.1 0, 6, .inl (nf dp))), (g0 6, .inl (E.2.1 0, 30, .inl (nf nt))), (g0 7, .inl (E.2.1 0, 120, .inl ps))] := by
  refine fn_I (by decide) (Nat.le_of_ble_eq_true rfl) rfl ?_
  intro K hC hR
  show G K E 2 [(x 0, .inr (11, oL x h dr)), (x 1, .inl (E.2.1 3, 2, .inr (.inr (.inr (.inr (fun j => some ((if j = 0 then g0 else g1) 0))))))), (x 2, .inl (E.2.1 2, 2, .inl ik)), (h 0, .inr (5, oH h da pe de no pa)), (h 1, .inl (E.2.1 0, 7, .inl (nf kd))), (h 2, .inl (E.2.1 0, 7, .inl (nf pl))), (h 3, .inl (E.2.1 0, 7, .inl (nf bn))), (h 4, .inl (E.2.1 0, 6, .inl (nf dn))), (h 5, .inl (E.2.1 0, 6, .inl (nf dp))), (h 6, .inl (E.2.1 0, 30, .inl (nf nt))), (h 7, .inl (E.2.1 0, 120, .inl ps)), (g0 0, .inr (5, oH g0 da2 pe2 de2 no2 pa2)), (g0 1, .inl (E.2.1 0, 7, .inl (nf kd2))), (g0 2, .inl (E.2.1 0, 7, .inl (nf pl2))), (g0 3, .inl (E.2.1 0, 7, .inl (nf bn2))), (g0 4, .inl (E.2.1 0, 6, .inl (nf dn2))), (g0 5, .inl (E.2.1 0, 6, .inl (nf dp2))), (g0 6, .inl (E.2.1 0, 30, .inl (nf nt2))), (g0 7, .inl (E.2.1 0, 120, .inl ps2))] [(0, .ref (x 0)), (1, .int (nI 0))] 0 []
  refine g_iload_n hC dX11_image_0 rfl 1 rfl ?_
  refine g_iconst (v := (nI 2)) hC dX11_image_1 (by decide) ?_
  refine g_callS hC (f_X11_within (kl K) E (nI 0) 2 (by omega)) wX11_within m2_13 dX11_image_2 [] [(x 0, .inr (11, oL x h dr)), (x 1, .inl (E.2.1 3, 2, .inr (.inr (.inr (.inr (fun j => some ((if j = 0 then g0 else g1) 0))))))), (x 2, .inl (E.2.1 2, 2, .inl ik)), (h 0, .inr (5, oH h da pe de no pa)), (h 1, .inl (E.2.1 0, 7, .inl (nf kd))), (h 2, .inl (E.2.1 0, 7, .inl (nf pl))), (h 3, .inl (E.2.1 0, 7, .inl (nf bn))), (h 4, .inl (E.2.1 0, 6, .inl (nf dn))), (h 5, .inl (E.2.1 0, 6, .inl (nf dp))), (h 6, .inl (E.2.1 0, 30, .inl (nf nt))), (h 7, .inl (E.2.1 0, 120, .inl ps)), (g0 0, .inr (5, oH g0 da2 pe2 de2 no2 pa2)), (g0 1, .inl (E.2.1 0, 7, .inl (nf kd2))), (g0 2, .inl (E.2.1 0, 7, .inl (nf pl2))), (g0 3, .inl (E.2.1 0, 7, .inl (nf bn2))), (g0 4, .inl (E.2.1 0, 6, .inl (nf dn2))), (g0 5, .inl (E.2.1 0, 6, .inl (nf dp2))), (g0 6, .inl (E.2.1 0, 30, .inl (nf nt2))), (g0 7, .inl (E.2.1 0, 120, .inl ps2))] (by decide) rfl (Nat.le_of_ble_eq_true rfl) rfl rfl rfl rfl rfl ?_
  refine g_if_neB (tgt := 15) hC dX11_image_5 (by decide) (fun h_5 => ?_) (fun h_5 => ?_)
  · refine g_aload_n hC dX11_image_15 rfl 0 rfl ?_
    refine g_get hC 0 11 2 inX11 m1_223 dX11_image_16 rfl rfl (by decide) rfl ?_
    refine g_iload_n hC dX11_image_19 rfl 1 rfl ?_
    refine g_aald hC 1 3 dX11_image_20 rfl rfl (by decide) (by omega) (rfl) ?_
    refine g_aload_n hC dX11_image_21 rfl 0 rfl ?_
    refine g_get hC 0 11 0 inX11 m1_221 dX11_image_22 rfl rfl (by decide) rfl ?_
    refine g_callV hC (f_X5_copyFrom (kl K) E g0 h da2 pe2 de2 no2 pa2 da pe de no pa kd2 pl2 bn2 dn2 dp2 nt2 ps2 kd pl bn dn dp nt ps) wX5_copyFrom m2_145 dX11_image_25 [11, 12, 13, 14, 15, 16, 17, 18, 3, 4, 5, 6, 7, 8, 9, 10] [(x 0, .inr (11, oL x h dr)), (x 1, .inl (E.2.1 3, 2, .inr (.inr (.inr (.inr (fun j => some ((if j = 0 then g0 else g1) 0))))))), (x 2, .inl (E.2.1 2, 2, .inl ik)), (h 0, .inr (5, oH h da pe de no pa)), (h 1, .inl (E.2.1 0, 7, .inl (nf kd))), (h 2, .inl (E.2.1 0, 7, .inl (nf pl))), (h 3, .inl (E.2.1 0, 7, .inl (nf bn))), (h 4, .inl (E.2.1 0, 6, .inl (nf dn))), (h 5, .inl (E.2.1 0, 6, .inl (nf dp))), (h 6, .inl (E.2.1 0, 30, .inl (nf nt))), (h 7, .inl (E.2.1 0, 120, .inl ps)), (g0 0, .inr (5, oH g0 da pe de no pa)), (g0 1, .inl (E.2.1 0, 7, .inl (nf kd))), (g0 2, .inl (E.2.1 0, 7, .inl (nf pl))), (g0 3, .inl (E.2.1 0, 7, .inl (nf bn))), (g0 4, .inl (E.2.1 0, 6, .inl (nf dn))), (g0 5, .inl (E.2.1 0, 6, .inl (nf dp))), (g0 6, .inl (E.2.1 0, 30, .inl (nf nt))), (g0 7, .inl (E.2.1 0, 120, .inl ps))] 11 5 rfl rfl (by decide) rfl (Nat.le_of_ble_eq_true rfl) rfl rfl rfl rfl rfl ?_
    refine g_aload_n hC dX11_image_28 rfl 0 rfl ?_
    refine g_get hC 0 11 3 inX11 m1_224 dX11_image_29 rfl rfl (by decide) rfl ?_
    refine g_iload_n hC dX11_image_32 rfl 1 rfl ?_
    refine g_iconst (v := (nI 1)) hC dX11_image_33 (by decide) ?_
    refine g_zastN hC 2 [(x 0, .inr (11, oL x h dr)), (x 1, .inl (E.2.1 3, 2, .inr (.inr (.inr (.inr (fun j => some ((if j = 0 then g0 else g1) 0))))))), (x 2, .inl (E.2.1 2, 2, .inl (upd ik 0 (vp_nar .boolean (nI 1))))), (h 0, .inr (5, oH h da pe de no pa)), (h 1, .inl (E.2.1 0, 7, .inl (nf kd))), (h 2, .inl (E.2.1 0, 7, .inl (nf pl))), (h 3, .inl (E.2.1 0, 7, .inl (nf bn))), (h 4, .inl (E.2.1 0, 6, .inl (nf dn))), (h 5, .inl (E.2.1 0, 6, .inl (nf dp))), (h 6, .inl (E.2.1 0, 30, .inl (nf nt))), (h 7, .inl (E.2.1 0, 120, .inl ps)), (g0 0, .inr (5, oH g0 da pe de no pa)), (g0 1, .inl (E.2.1 0, 7, .inl (nf kd))), (g0 2, .inl (E.2.1 0, 7, .inl (nf pl))), (g0 3, .inl (E.2.1 0, 7, .inl (nf bn))), (g0 4, .inl (E.2.1 0, 6, .inl (nf dn))), (g0 5, .inl (E.2.1 0, 6, .inl (nf dp))), (g0 6, .inl (E.2.1 0, 30, .inl (nf nt))), (g0 7, .inl (E.2.1 0, 120, .inl ps))] dX11_image_34 rfl (by decide) (by omega) rfl ?_
    refine g_iconst (v := (nI 1)) hC dX11_image_35 (by decide) ?_
    exact g_val (rfl) (g_ws (rfl) (hR _ _ dX11_image_36))
  · exact Bool.noConfusion ((inB_ok (by omega) (by omega)).symm.trans h_5)
set_option maxHeartbeats 600000 in
set_option maxRecDepth 100000 in
theorem f_X11_from_0 (l : Launch) (E : Ew) (x : Nat → Nat) (h : Nat → Nat) (dr : Nat → Nat) (g0 : Nat → Nat) (g1 : Nat → Nat) (ik : Nat → Int32) (da : Int32) (pe : Int32) (de : Int32) (no : Int32) (pa : Int32) (kd : Nat → Nat) (pl : Nat → Nat) (bn : Nat → Nat) (dn : Nat → Nat) (dp : Nat → Nat) (nt : Nat → Nat) (ps : Nat → Int32) (da2 : Int32) (pe2 : Int32) (de2 : Int32) (no2 : Int32) (pa2 : Int32) (kd2 : Nat → Nat) (pl2 : Nat → Nat) (bn2 : Nat → Nat) (dn2 : Nat → Nat) (dp2 : Nat → Nat) (nt2 : Nat → Nat) (ps2 : Nat → Int32) (hk1 : ik 0 = nI 1) : Fn l E 2 yX11_from cX11_from 2 (some .int) [.ref (x 0), .int (nI 0)] [(x 0, .inr (11, oL x h dr)), (x 1, .inl (E.2.1 3, 2, .inr (.inr (.inr (.inr (fun j => some ((if j = 0 then g0 else g1) 0))))))), (x 2, .inl (E.2.1 2, 2, .inl ik)), (h 0, .inr (5, oH h da pe de no pa)), (h 1, .inl (E.2.1 0, 7, .inl (nf kd))), (h 2, .inl (E.2.1 0, 7, .inl (nf pl))), (h 3, .inl (E.2.1 0, 7, .inl (nf bn))), (h 4, .inl (E.2.1 0, 6, .inl (nf dn))), (h 5, .inl (E.2.1 0, 6, .inl (nf dp))), (h 6, .inl (E.2.1 0, 30, .inl (nf nt))), (h 7, .inl (E.2.1 0, 120, .inl ps)), (g0 0, .inr (5, oH g0 da2 pe2 de2 no2 pa2)), (g0 1, .inl (E.2.1 0, 7, .inl (nf kd2))), (g0 2, .inl (E.2.1 0, 7, .inl (nf pl2))), (g0 3, .inl (E.2.1 0, 7, .inl (nf bn2))), (g0 4, .inl (E.2.1 0, 6, .inl (nf dn2))), (g0 5, .inl (E.2.1 0, 6, .inl (nf dp2))), (g0 6, .inl (E.2.1 0, 30, .inl (nf nt2))), (g0 7, .inl (E.2.1 0, 120, .inl ps2))] (some (.int (nI 1))) [(x 0, .inr (11, oL x h dr)), (x 1, .inl (E.2.1 3, 2, .inr (.inr (.inr (.inr (fun j => some ((if j = 0 then g0 else g1) 0))))))), (x 2, .inl (E.2.1 2, 2, .inl ik)), (h 0, .inr (5, oH h da2 pe2 de2 no2 pa2)), (h 1, .inl (E.2.1 0, 7, .inl (nf kd2))), (h 2, .inl (E.2.1 0, 7, .inl (nf pl2))), (h 3, .inl (E.2.1 0, 7, .inl (nf bn2))), (h 4, .inl (E.2.1 0, 6, .inl (nf dn2))), (h 5, .inl (E.2.1 0, 6, .inl (nf dp2))), (h 6, .inl (E.2.1 0, 30, .inl (nf nt2))), (h 7, .inl (E.2.1 0, 120, .inl ps2)), (g0 0, .inr (5, oH g0 da2 pe2 de2 no2 pa2)), (g0 1, .inl (E.2.1 0, 7, .inl (nf kd2))), (g0 2, .inl (E.2.1 0, 7, .inl (nf pl2))), (g0 3, .inl (E.2.1 0, 7, .inl (nf bn2))), (g0 4, .inl (E.2.1 0, 6, .inl (nf dn2))), (g0 5, .inl (E.2.1 0, 6, .inl (nf dp2))), (g0 6, .inl (E.2.1 0, 30, .inl (nf nt2))), (g0 7, .inl (E.2.1 0, 120, .inl ps2))] := by
  refine fn_I (by decide) (Nat.le_of_ble_eq_true rfl) rfl ?_
  intro K hC hR
  show G K E 2 [(x 0, .inr (11, oL x h dr)), (x 1, .inl (E.2.1 3, 2, .inr (.inr (.inr (.inr (fun j => some ((if j = 0 then g0 else g1) 0))))))), (x 2, .inl (E.2.1 2, 2, .inl ik)), (h 0, .inr (5, oH h da pe de no pa)), (h 1, .inl (E.2.1 0, 7, .inl (nf kd))), (h 2, .inl (E.2.1 0, 7, .inl (nf pl))), (h 3, .inl (E.2.1 0, 7, .inl (nf bn))), (h 4, .inl (E.2.1 0, 6, .inl (nf dn))), (h 5, .inl (E.2.1 0, 6, .inl (nf dp))), (h 6, .inl (E.2.1 0, 30, .inl (nf nt))), (h 7, .inl (E.2.1 0, 120, .inl ps)), (g0 0, .inr (5, oH g0 da2 pe2 de2 no2 pa2)), (g0 1, .inl (E.2.1 0, 7, .inl (nf kd2))), (g0 2, .inl (E.2.1 0, 7, .inl (nf pl2))), (g0 3, .inl (E.2.1 0, 7, .inl (nf bn2))), (g0 4, .inl (E.2.1 0, 6, .inl (nf dn2))), (g0 5, .inl (E.2.1 0, 6, .inl (nf dp2))), (g0 6, .inl (E.2.1 0, 30, .inl (nf nt2))), (g0 7, .inl (E.2.1 0, 120, .inl ps2))] [(0, .ref (x 0)), (1, .int (nI 0))] 0 []
  refine g_iload_n hC dX11_from_0 rfl 1 rfl ?_
  refine g_iconst (v := (nI 2)) hC dX11_from_1 (by decide) ?_
  refine g_callS hC (f_X11_within (kl K) E (nI 0) 2 (by omega)) wX11_within m2_13 dX11_from_2 [] [(x 0, .inr (11, oL x h dr)), (x 1, .inl (E.2.1 3, 2, .inr (.inr (.inr (.inr (fun j => some ((if j = 0 then g0 else g1) 0))))))), (x 2, .inl (E.2.1 2, 2, .inl ik)), (h 0, .inr (5, oH h da pe de no pa)), (h 1, .inl (E.2.1 0, 7, .inl (nf kd))), (h 2, .inl (E.2.1 0, 7, .inl (nf pl))), (h 3, .inl (E.2.1 0, 7, .inl (nf bn))), (h 4, .inl (E.2.1 0, 6, .inl (nf dn))), (h 5, .inl (E.2.1 0, 6, .inl (nf dp))), (h 6, .inl (E.2.1 0, 30, .inl (nf nt))), (h 7, .inl (E.2.1 0, 120, .inl ps)), (g0 0, .inr (5, oH g0 da2 pe2 de2 no2 pa2)), (g0 1, .inl (E.2.1 0, 7, .inl (nf kd2))), (g0 2, .inl (E.2.1 0, 7, .inl (nf pl2))), (g0 3, .inl (E.2.1 0, 7, .inl (nf bn2))), (g0 4, .inl (E.2.1 0, 6, .inl (nf dn2))), (g0 5, .inl (E.2.1 0, 6, .inl (nf dp2))), (g0 6, .inl (E.2.1 0, 30, .inl (nf nt2))), (g0 7, .inl (E.2.1 0, 120, .inl ps2))] (by decide) rfl (Nat.le_of_ble_eq_true rfl) rfl rfl rfl rfl rfl ?_
  refine g_if_neB (tgt := 15) hC dX11_from_5 (by decide) (fun h_5 => ?_) (fun h_5 => ?_)
  · refine g_aload_n hC dX11_from_15 rfl 0 rfl ?_
    refine g_get hC 0 11 3 inX11 m1_224 dX11_from_16 rfl rfl (by decide) rfl ?_
    refine g_iload_n hC dX11_from_19 rfl 1 rfl ?_
    refine g_zaldN hC 2 dX11_from_20 rfl (by decide) (by omega) ?_
    refine g_val (v' := .int (nI 1)) (by rw [hk1]) ?_
    refine g_if_neN (tgt := 31) hC dX11_from_21 (by decide) (by omega) (fun h_21 => ?_) (fun h_21 => ?_)
    · refine g_aload_n hC dX11_from_31 rfl 0 rfl ?_
      refine g_get hC 0 11 0 inX11 m1_221 dX11_from_32 rfl rfl (by decide) rfl ?_
      refine g_aload_n hC dX11_from_35 rfl 0 rfl ?_
      refine g_get hC 0 11 2 inX11 m1_223 dX11_from_36 rfl rfl (by decide) rfl ?_
      refine g_iload_n hC dX11_from_39 rfl 1 rfl ?_
      refine g_aald hC 1 3 dX11_from_40 rfl rfl (by decide) (by omega) (rfl) ?_
      refine g_callV hC (f_X5_copyFrom (kl K) E h g0 da pe de no pa da2 pe2 de2 no2 pa2 kd pl bn dn dp nt ps kd2 pl2 bn2 dn2 dp2 nt2 ps2) wX5_copyFrom m2_145 dX11_from_41 [3, 4, 5, 6, 7, 8, 9, 10, 11, 12, 13, 14, 15, 16, 17, 18] [(x 0, .inr (11, oL x h dr)), (x 1, .inl (E.2.1 3, 2, .inr (.inr (.inr (.inr (fun j => some ((if j = 0 then g0 else g1) 0))))))), (x 2, .inl (E.2.1 2, 2, .inl ik)), (h 0, .inr (5, oH h da2 pe2 de2 no2 pa2)), (h 1, .inl (E.2.1 0, 7, .inl (nf kd2))), (h 2, .inl (E.2.1 0, 7, .inl (nf pl2))), (h 3, .inl (E.2.1 0, 7, .inl (nf bn2))), (h 4, .inl (E.2.1 0, 6, .inl (nf dn2))), (h 5, .inl (E.2.1 0, 6, .inl (nf dp2))), (h 6, .inl (E.2.1 0, 30, .inl (nf nt2))), (h 7, .inl (E.2.1 0, 120, .inl ps2)), (g0 0, .inr (5, oH g0 da2 pe2 de2 no2 pa2)), (g0 1, .inl (E.2.1 0, 7, .inl (nf kd2))), (g0 2, .inl (E.2.1 0, 7, .inl (nf pl2))), (g0 3, .inl (E.2.1 0, 7, .inl (nf bn2))), (g0 4, .inl (E.2.1 0, 6, .inl (nf dn2))), (g0 5, .inl (E.2.1 0, 6, .inl (nf dp2))), (g0 6, .inl (E.2.1 0, 30, .inl (nf nt2))), (g0 7, .inl (E.2.1 0, 120, .inl ps2))] 3 5 rfl rfl (by decide) rfl (Nat.le_of_ble_eq_true rfl) rfl rfl rfl rfl rfl ?_
      refine g_iconst (v := (nI 1)) hC dX11_from_44 (by decide) ?_
      exact g_val (rfl) (g_ws (rfl) (hR _ _ dX11_from_45))
    · omega
  · exact Bool.noConfusion ((inB_ok (by omega) (by omega)).symm.trans h_5)
set_option maxHeartbeats 600000 in
set_option maxRecDepth 100000 in
theorem f_X11_from_no0 (l : Launch) (E : Ew) (x : Nat → Nat) (h : Nat → Nat) (dr : Nat → Nat) (r : Nat → Int32) (ik : Nat → Int32) (hk0 : ik 0 = nI 0) : Fn l E 2 yX11_from cX11_from 2 (some .int) [.ref (x 0), .int (nI 0)] [(x 0, .inr (11, oL x h dr)), (x 2, .inl (E.2.1 2, 2, .inl ik)), (x 3, .inl (E.2.1 0, 3, .inl r))] (some (.int (-3))) [(x 0, .inr (11, oL x h dr)), (x 2, .inl (E.2.1 2, 2, .inl ik)), (x 3, .inl (E.2.1 0, 3, .inl (upd r 1 (r 1 + nI 1))))] := by
  refine fn_I (by decide) (Nat.le_of_ble_eq_true rfl) rfl ?_
  intro K hC hR
  show G K E 2 [(x 0, .inr (11, oL x h dr)), (x 2, .inl (E.2.1 2, 2, .inl ik)), (x 3, .inl (E.2.1 0, 3, .inl r))] [(0, .ref (x 0)), (1, .int (nI 0))] 0 []
  refine g_iload_n hC dX11_from_0 rfl 1 rfl ?_
  refine g_iconst (v := (nI 2)) hC dX11_from_1 (by decide) ?_
  refine g_callS hC (f_X11_within (kl K) E (nI 0) 2 (by omega)) wX11_within m2_13 dX11_from_2 [] [(x 0, .inr (11, oL x h dr)), (x 2, .inl (E.2.1 2, 2, .inl ik)), (x 3, .inl (E.2.1 0, 3, .inl r))] (by decide) rfl (Nat.le_of_ble_eq_true rfl) rfl rfl rfl rfl rfl ?_
  refine g_if_neB (tgt := 15) hC dX11_from_5 (by decide) (fun h_5 => ?_) (fun h_5 => ?_)
  · refine g_aload_n hC dX11_from_15 rfl 0 rfl ?_
    refine g_get hC 0 11 3 inX11 m1_224 dX11_from_16 rfl rfl (by decide) rfl ?_
    refine g_iload_n hC dX11_from_19 rfl 1 rfl ?_
    refine g_zaldN hC 1 dX11_from_20 rfl (by decide) (by omega) ?_
    refine g_val (v' := .int (nI 0)) (by rw [hk0]) ?_
    refine g_if_neN (tgt := 31) hC dX11_from_21 (by decide) (by omega) (fun h_21 => ?_) (fun h_21 => ?_)
    · omega
    · refine g_aload_n hC dX11_from_24 rfl 0 rfl ?_
      refine g_bipush (v := (-3)) hC dX11_from_25 (by decide) ?_
      refine g_callV hC (f_X11_refuse_no (kl K) E x h dr r) wX11_refuse m2_16 dX11_from_27 [0, 2] [(x 0, .inr (11, oL x h dr)), (x 2, .inl (E.2.1 2, 2, .inl ik)), (x 3, .inl (E.2.1 0, 3, .inl (upd r 1 (r 1 + nI 1))))] 0 11 rfl rfl (by decide) rfl (Nat.le_of_ble_eq_true rfl) rfl rfl rfl rfl rfl ?_
      exact g_val (rfl) (g_ws (rfl) (hR _ _ dX11_from_30))
  · exact Bool.noConfusion ((inB_ok (by omega) (by omega)).symm.trans h_5)
set_option maxHeartbeats 600000 in
set_option maxRecDepth 100000 in
theorem f_X11_image_1 (l : Launch) (E : Ew) (x : Nat → Nat) (h : Nat → Nat) (dr : Nat → Nat) (g0 : Nat → Nat) (g1 : Nat → Nat) (ik : Nat → Int32) (da : Int32) (pe : Int32) (de : Int32) (no : Int32) (pa : Int32) (kd : Nat → Nat) (pl : Nat → Nat) (bn : Nat → Nat) (dn : Nat → Nat) (dp : Nat → Nat) (nt : Nat → Nat) (ps : Nat → Int32) (da2 : Int32) (pe2 : Int32) (de2 : Int32) (no2 : Int32) (pa2 : Int32) (kd2 : Nat → Nat) (pl2 : Nat → Nat) (bn2 : Nat → Nat) (dn2 : Nat → Nat) (dp2 : Nat → Nat) (nt2 : Nat → Nat) (ps2 : Nat → Int32)  : Fn l E 2 yX11_image cX11_image 2 (some .int) [.ref (x 0), .int (nI 1)] [(x 0, .inr (11, oL x h dr)), (x 1, .inl (E.2.1 3, 2, .inr (.inr (.inr (.inr (fun j => some ((if j = 0 then g0 else g1) 0))))))), (x 2, .inl (E.2.1 2, 2, .inl ik)), (h 0, .inr (5, oH h da pe de no pa)), (h 1, .inl (E.2.1 0, 7, .inl (nf kd))), (h 2, .inl (E.2.1 0, 7, .inl (nf pl))), (h 3, .inl (E.2.1 0, 7, .inl (nf bn))), (h 4, .inl (E.2.1 0, 6, .inl (nf dn))), (h 5, .inl (E.2.1 0, 6, .inl (nf dp))), (h 6, .inl (E.2.1 0, 30, .inl (nf nt))), (h 7, .inl (E.2.1 0, 120, .inl ps)), (g1 0, .inr (5, oH g1 da2 pe2 de2 no2 pa2)), (g1 1, .inl (E.2.1 0, 7, .inl (nf kd2))), (g1 2, .inl (E.2.1 0, 7, .inl (nf pl2))), (g1 3, .inl (E.2.1 0, 7, .inl (nf bn2))), (g1 4, .inl (E.2.1 0, 6, .inl (nf dn2))), (g1 5, .inl (E.2.1 0, 6, .inl (nf dp2))), (g1 6, .inl (E.2.1 0, 30, .inl (nf nt2))), (g1 7, .inl (E.2.1 0, 120, .inl ps2))] (some (.int (nI 1))) [(x 0, .inr (11, oL x h dr)), (x 1, .inl (E.2.1 3, 2, .inr (.inr (.inr (.inr (fun j => some ((if j = 0 then g0 else g1) 0))))))), (x 2, .inl (E.2.1 2, 2, .inl (upd ik 1 (nI 1)))), (h 0, .inr (5, oH h da pe de no pa)), (h 1, .inl (E.2.1 0, 7, .inl (nf kd))), (h 2, .inl (E.2.1 0, 7, .inl (nf pl))), (h 3, .inl (E.2.1 0, 7, .inl (nf bn))), (h 4, .inl (E.2.1 0, 6, .inl (nf dn))), (h 5, .inl (E.2.1 0, 6, .inl (nf dp))), (h 6, .inl (E.2.1 0, 30, .inl (nf nt))), (h 7, .inl (E.2.1 0, 120, .inl ps)), (g1 0, .inr (5, oH g1 da pe de no pa)), (g1 1, .inl (E.2.1 0, 7, .inl (nf kd))), (g1 2, .inl (E.2.1 0, 7, .inl (nf pl))), (g1 3, .inl (E.2.1 0, 7, .inl (nf bn))), (g1 4, .inl (E.2.1 0, 6, .inl (nf dn))), (g1 5, .inl (E.2.1 0, 6, .inl (nf dp))), (g1 6, .inl (E.2.1 0, 30, .inl (nf nt))), (g1 7, .inl (E.2.1 0, 120, .inl ps))] := by
  refine fn_I (by decide) (Nat.le_of_ble_eq_true rfl) rfl ?_
  intro K hC hR
  show G K E 2 [(x 0, .inr (11, oL x h dr)), (x 1, .inl (E.2.1 3, 2, .inr (.inr (.inr (.inr (fun j => some ((if j = 0 then g0 else g1) 0))))))), (x 2, .inl (E.2.1 2, 2, .inl ik)), (h 0, .inr (5, oH h da pe de no pa)), (h 1, .inl (E.2.1 0, 7, .inl (nf kd))), (h 2, .inl (E.2.1 0, 7, .inl (nf pl))), (h 3, .inl (E.2.1 0, 7, .inl (nf bn))), (h 4, .inl (E.2.1 0, 6, .inl (nf dn))), (h 5, .inl (E.2.1 0, 6, .inl (nf dp))), (h 6, .inl (E.2.1 0, 30, .inl (nf nt))), (h 7, .inl (E.2.1 0, 120, .inl ps)), (g1 0, .inr (5, oH g1 da2 pe2 de2 no2 pa2)), (g1 1, .inl (E.2.1 0, 7, .inl (nf kd2))), (g1 2, .inl (E.2.1 0, 7, .inl (nf pl2))), (g1 3, .inl (E.2.1 0, 7, .inl (nf bn2))), (g1 4, .inl (E.2.1 0, 6, .inl (nf dn2))), (g1 5, .inl (E.2.1 0, 6, .inl (nf dp2))), (g1 6, .inl (E.2.1 0, 30, .inl (nf nt2))), (g1 7, .inl (E.2.1 0, 120, .inl ps2))] [(0, .ref (x 0)), (1, .int (nI 1))] 0 []
  refine g_iload_n hC dX11_image_0 rfl 1 rfl ?_
  refine g_iconst (v := (nI 2)) hC dX11_image_1 (by decide) ?_
  refine g_callS hC (f_X11_within (kl K) E (nI 1) 2 (by omega)) wX11_within m2_13 dX11_image_2 [] [(x 0, .inr (11, oL x h dr)), (x 1, .inl (E.2.1 3, 2, .inr (.inr (.inr (.inr (fun j => some ((if j = 0 then g0 else g1) 0))))))), (x 2, .inl (E.2.1 2, 2, .inl ik)), (h 0, .inr (5, oH h da pe de no pa)), (h 1, .inl (E.2.1 0, 7, .inl (nf kd))), (h 2, .inl (E.2.1 0, 7, .inl (nf pl))), (h 3, .inl (E.2.1 0, 7, .inl (nf bn))), (h 4, .inl (E.2.1 0, 6, .inl (nf dn))), (h 5, .inl (E.2.1 0, 6, .inl (nf dp))), (h 6, .inl (E.2.1 0, 30, .inl (nf nt))), (h 7, .inl (E.2.1 0, 120, .inl ps)), (g1 0, .inr (5, oH g1 da2 pe2 de2 no2 pa2)), (g1 1, .inl (E.2.1 0, 7, .inl (nf kd2))), (g1 2, .inl (E.2.1 0, 7, .inl (nf pl2))), (g1 3, .inl (E.2.1 0, 7, .inl (nf bn2))), (g1 4, .inl (E.2.1 0, 6, .inl (nf dn2))), (g1 5, .inl (E.2.1 0, 6, .inl (nf dp2))), (g1 6, .inl (E.2.1 0, 30, .inl (nf nt2))), (g1 7, .inl (E.2.1 0, 120, .inl ps2))] (by decide) rfl (Nat.le_of_ble_eq_true rfl) rfl rfl rfl rfl rfl ?_
  refine g_if_neB (tgt := 15) hC dX11_image_5 (by decide) (fun h_5 => ?_) (fun h_5 => ?_)
  · refine g_aload_n hC dX11_image_15 rfl 0 rfl ?_
    refine g_get hC 0 11 2 inX11 m1_223 dX11_image_16 rfl rfl (by decide) rfl ?_
    refine g_iload_n hC dX11_image_19 rfl 1 rfl ?_
    refine g_aald hC 1 3 dX11_image_20 rfl rfl (by decide) (by omega) (rfl) ?_
    refine g_aload_n hC dX11_image_21 rfl 0 rfl ?_
    refine g_get hC 0 11 0 inX11 m1_221 dX11_image_22 rfl rfl (by decide) rfl ?_
    refine g_callV hC (f_X5_copyFrom (kl K) E g1 h da2 pe2 de2 no2 pa2 da pe de no pa kd2 pl2 bn2 dn2 dp2 nt2 ps2 kd pl bn dn dp nt ps) wX5_copyFrom m2_145 dX11_image_25 [11, 12, 13, 14, 15, 16, 17, 18, 3, 4, 5, 6, 7, 8, 9, 10] [(x 0, .inr (11, oL x h dr)), (x 1, .inl (E.2.1 3, 2, .inr (.inr (.inr (.inr (fun j => some ((if j = 0 then g0 else g1) 0))))))), (x 2, .inl (E.2.1 2, 2, .inl ik)), (h 0, .inr (5, oH h da pe de no pa)), (h 1, .inl (E.2.1 0, 7, .inl (nf kd))), (h 2, .inl (E.2.1 0, 7, .inl (nf pl))), (h 3, .inl (E.2.1 0, 7, .inl (nf bn))), (h 4, .inl (E.2.1 0, 6, .inl (nf dn))), (h 5, .inl (E.2.1 0, 6, .inl (nf dp))), (h 6, .inl (E.2.1 0, 30, .inl (nf nt))), (h 7, .inl (E.2.1 0, 120, .inl ps)), (g1 0, .inr (5, oH g1 da pe de no pa)), (g1 1, .inl (E.2.1 0, 7, .inl (nf kd))), (g1 2, .inl (E.2.1 0, 7, .inl (nf pl))), (g1 3, .inl (E.2.1 0, 7, .inl (nf bn))), (g1 4, .inl (E.2.1 0, 6, .inl (nf dn))), (g1 5, .inl (E.2.1 0, 6, .inl (nf dp))), (g1 6, .inl (E.2.1 0, 30, .inl (nf nt))), (g1 7, .inl (E.2.1 0, 120, .inl ps))] 11 5 rfl rfl (by decide) rfl (Nat.le_of_ble_eq_true rfl) rfl rfl rfl rfl rfl ?_
    refine g_aload_n hC dX11_image_28 rfl 0 rfl ?_
    refine g_get hC 0 11 3 inX11 m1_224 dX11_image_29 rfl rfl (by decide) rfl ?_
    refine g_iload_n hC dX11_image_32 rfl 1 rfl ?_
    refine g_iconst (v := (nI 1)) hC dX11_image_33 (by decide) ?_
    refine g_zastN hC 2 [(x 0, .inr (11, oL x h dr)), (x 1, .inl (E.2.1 3, 2, .inr (.inr (.inr (.inr (fun j => some ((if j = 0 then g0 else g1) 0))))))), (x 2, .inl (E.2.1 2, 2, .inl (upd ik 1 (vp_nar .boolean (nI 1))))), (h 0, .inr (5, oH h da pe de no pa)), (h 1, .inl (E.2.1 0, 7, .inl (nf kd))), (h 2, .inl (E.2.1 0, 7, .inl (nf pl))), (h 3, .inl (E.2.1 0, 7, .inl (nf bn))), (h 4, .inl (E.2.1 0, 6, .inl (nf dn))), (h 5, .inl (E.2.1 0, 6, .inl (nf dp))), (h 6, .inl (E.2.1 0, 30, .inl (nf nt))), (h 7, .inl (E.2.1 0, 120, .inl ps)), (g1 0, .inr (5, oH g1 da pe de no pa)), (g1 1, .inl (E.2.1 0, 7, .inl (nf kd))), (g1 2, .inl (E.2.1 0, 7, .inl (nf pl))), (g1 3, .inl (E.2.1 0, 7, .inl (nf bn))), (g1 4, .inl (E.2.1 0, 6, .inl (nf dn))), (g1 5, .inl (E.2.1 0, 6, .inl (nf dp))), (g1 6, .inl (E.2.1 0, 30, .inl (nf nt))), (g1 7, .inl (E.2.1 0, 120, .inl ps))] dX11_image_34 rfl (by decide) (by omega) rfl ?_
    refine g_iconst (v := (nI 1)) hC dX11_image_35 (by decide) ?_
    exact g_val (rfl) (g_ws (rfl) (hR _ _ dX11_image_36))
  · exact Bool.noConfusion ((inB_ok (by omega) (by omega)).symm.trans h_5)
set_option maxHeartbeats 600000 in
set_option maxRecDepth 100000 in
theorem f_X11_from_1 (l : Launch) (E : Ew) (x : Nat → Nat) (h : Nat → Nat) (dr : Nat → Nat) (g0 : Nat → Nat) (g1 : Nat → Nat) (ik : Nat → Int32) (da : Int32) (pe : Int32) (de : Int32) (no : Int32) (pa : Int32) (kd : Nat → Nat) (pl : Nat → Nat) (bn : Nat → Nat) (dn : Nat → Nat) (dp : Nat → Nat) (nt : Nat → Nat) (ps : Nat → Int32) (da2 : Int32) (pe2 : Int32) (de2 : Int32) (no2 : Int32) (pa2 : Int32) (kd2 : Nat → Nat) (pl2 : Nat → Nat) (bn2 : Nat → Nat) (dn2 : Nat → Nat) (dp2 : Nat → Nat) (nt2 : Nat → Nat) (ps2 : Nat → Int32) (hk1 : ik 1 = nI 1) : Fn l E 2 yX11_from cX11_from 2 (some .int) [.ref (x 0), .int (nI 1)] [(x 0, .inr (11, oL x h dr)), (x 1, .inl (E.2.1 3, 2, .inr (.inr (.inr (.inr (fun j => some ((if j = 0 then g0 else g1) 0))))))), (x 2, .inl (E.2.1 2, 2, .inl ik)), (h 0, .inr (5, oH h da pe de no pa)), (h 1, .inl (E.2.1 0, 7, .inl (nf kd))), (h 2, .inl (E.2.1 0, 7, .inl (nf pl))), (h 3, .inl (E.2.1 0, 7, .inl (nf bn))), (h 4, .inl (E.2.1 0, 6, .inl (nf dn))), (h 5, .inl (E.2.1 0, 6, .inl (nf dp))), (h 6, .inl (E.2.1 0, 30, .inl (nf nt))), (h 7, .inl (E.2.1 0, 120, .inl ps)), (g1 0, .inr (5, oH g1 da2 pe2 de2 no2 pa2)), (g1 1, .inl (E.2.1 0, 7, .inl (nf kd2))), (g1 2, .inl (E.2.1 0, 7, .inl (nf pl2))), (g1 3, .inl (E.2.1 0, 7, .inl (nf bn2))), (g1 4, .inl (E.2.1 0, 6, .inl (nf dn2))), (g1 5, .inl (E.2.1 0, 6, .inl (nf dp2))), (g1 6, .inl (E.2.1 0, 30, .inl (nf nt2))), (g1 7, .inl (E.2.1 0, 120, .inl ps2))] (some (.int (nI 1))) [(x 0, .inr (11, oL x h dr)), (x 1, .inl (E.2.1 3, 2, .inr (.inr (.inr (.inr (fun j => some ((if j = 0 then g0 else g1) 0))))))), (x 2, .inl (E.2.1 2, 2, .inl ik)), (h 0, .inr (5, oH h da2 pe2 de2 no2 pa2)), (h 1, .inl (E.2.1 0, 7, .inl (nf kd2))), (h 2, .inl (E.2.1 0, 7, .inl (nf pl2))), (h 3, .inl (E.2.1 0, 7, .inl (nf bn2))), (h 4, .inl (E.2.1 0, 6, .inl (nf dn2))), (h 5, .inl (E.2.1 0, 6, .inl (nf dp2))), (h 6, .inl (E.2.1 0, 30, .inl (nf nt2))), (h 7, .inl (E.2.1 0, 120, .inl ps2)), (g1 0, .inr (5, oH g1 da2 pe2 de2 no2 pa2)), (g1 1, .inl (E.2.1 0, 7, .inl (nf kd2))), (g1 2, .inl (E.2.1 0, 7, .inl (nf pl2))), (g1 3, .inl (E.2.1 0, 7, .inl (nf bn2))), (g1 4, .inl (E.2.1 0, 6, .inl (nf dn2))), (g1 5, .inl (E.2.1 0, 6, .inl (nf dp2))), (g1 6, .inl (E.2.1 0, 30, .inl (nf nt2))), (g1 7, .inl (E.2.1 0, 120, .inl ps2))] := by
  refine fn_I (by decide) (Nat.le_of_ble_eq_true rfl) rfl ?_
  intro K hC hR
  show G K E 2 [(x 0, .inr (11, oL x h dr)), (x 1, .inl (E.2.1 3, 2, .inr (.inr (.inr (.inr (fun j => some ((if j = 0 then g0 else g1) 0))))))), (x 2, .inl (E.2.1 2, 2, .inl ik)), (h 0, .inr (5, oH h da pe de no pa)), (h 1, .inl (E.2.1 0, 7, .inl (nf kd))), (h 2, .inl (E.2.1 0, 7, .inl (nf pl))), (h 3, .inl (E.2.1 0, 7, .inl (nf bn))), (h 4, .inl (E.2.1 0, 6, .inl (nf dn))), (h 5, .inl (E.2.1 0, 6, .inl (nf dp))), (h 6, .inl (E.2.1 0, 30, .inl (nf nt))), (h 7, .inl (E.2.1 0, 120, .inl ps)), (g1 0, .inr (5, oH g1 da2 pe2 de2 no2 pa2)), (g1 1, .inl (E.2.1 0, 7, .inl (nf kd2))), (g1 2, .inl (E.2.1 0, 7, .inl (nf pl2))), (g1 3, .inl (E.2.1 0, 7, .inl (nf bn2))), (g1 4, .inl (E.2.1 0, 6, .inl (nf dn2))), (g1 5, .inl (E.2.1 0, 6, .inl (nf dp2))), (g1 6, .inl (E.2.1 0, 30, .inl (nf nt2))), (g1 7, .inl (E.2.1 0, 120, .inl ps2))] [(0, .ref (x 0)), (1, .int (nI 1))] 0 []
  refine g_iload_n hC dX11_from_0 rfl 1 rfl ?_
  refine g_iconst (v := (nI 2)) hC dX11_from_1 (by decide) ?_
  refine g_callS hC (f_X11_within (kl K) E (nI 1) 2 (by omega)) wX11_within m2_13 dX11_from_2 [] [(x 0, .inr (11, oL x h dr)), (x 1, .inl (E.2.1 3, 2, .inr (.inr (.inr (.inr (fun j => some ((if j = 0 then g0 else g1) 0))))))), (x 2, .inl (E.2.1 2, 2, .inl ik)), (h 0, .inr (5, oH h da pe de no pa)), (h 1, .inl (E.2.1 0, 7, .inl (nf kd))), (h 2, .inl (E.2.1 0, 7, .inl (nf pl))), (h 3, .inl (E.2.1 0, 7, .inl (nf bn))), (h 4, .inl (E.2.1 0, 6, .inl (nf dn))), (h 5, .inl (E.2.1 0, 6, .inl (nf dp))), (h 6, .inl (E.2.1 0, 30, .inl (nf nt))), (h 7, .inl (E.2.1 0, 120, .inl ps)), (g1 0, .inr (5, oH g1 da2 pe2 de2 no2 pa2)), (g1 1, .inl (E.2.1 0, 7, .inl (nf kd2))), (g1 2, .inl (E.2.1 0, 7, .inl (nf pl2))), (g1 3, .inl (E.2.1 0, 7, .inl (nf bn2))), (g1 4, .inl (E.2.1 0, 6, .inl (nf dn2))), (g1 5, .inl (E.2.1 0, 6, .inl (nf dp2))), (g1 6, .inl (E.2.1 0, 30, .inl (nf nt2))), (g1 7, .inl (E.2.1 0, 120, .inl ps2))] (by decide) rfl (Nat.le_of_ble_eq_true rfl) rfl rfl rfl rfl rfl ?_
  refine g_if_neB (tgt := 15) hC dX11_from_5 (by decide) (fun h_5 => ?_) (fun h_5 => ?_)
  · refine g_aload_n hC dX11_from_15 rfl 0 rfl ?_
    refine g_get hC 0 11 3 inX11 m1_224 dX11_from_16 rfl rfl (by decide) rfl ?_
    refine g_iload_n hC dX11_from_19 rfl 1 rfl ?_
    refine g_zaldN hC 2 dX11_from_20 rfl (by decide) (by omega) ?_
    refine g_val (v' := .int (nI 1)) (by rw [hk1]) ?_
    refine g_if_neN (tgt := 31) hC dX11_from_21 (by decide) (by omega) (fun h_21 => ?_) (fun h_21 => ?_)
    · refine g_aload_n hC dX11_from_31 rfl 0 rfl ?_
      refine g_get hC 0 11 0 inX11 m1_221 dX11_from_32 rfl rfl (by decide) rfl ?_
      refine g_aload_n hC dX11_from_35 rfl 0 rfl ?_
      refine g_get hC 0 11 2 inX11 m1_223 dX11_from_36 rfl rfl (by decide) rfl ?_
      refine g_iload_n hC dX11_from_39 rfl 1 rfl ?_
      refine g_aald hC 1 3 dX11_from_40 rfl rfl (by decide) (by omega) (rfl) ?_
      refine g_callV hC (f_X5_copyFrom (kl K) E h g1 da pe de no pa da2 pe2 de2 no2 pa2 kd pl bn dn dp nt ps kd2 pl2 bn2 dn2 dp2 nt2 ps2) wX5_copyFrom m2_145 dX11_from_41 [3, 4, 5, 6, 7, 8, 9, 10, 11, 12, 13, 14, 15, 16, 17, 18] [(x 0, .inr (11, oL x h dr)), (x 1, .inl (E.2.1 3, 2, .inr (.inr (.inr (.inr (fun j => some ((if j = 0 then g0 else g1) 0))))))), (x 2, .inl (E.2.1 2, 2, .inl ik)), (h 0, .inr (5, oH h da2 pe2 de2 no2 pa2)), (h 1, .inl (E.2.1 0, 7, .inl (nf kd2))), (h 2, .inl (E.2.1 0, 7, .inl (nf pl2))), (h 3, .inl (E.2.1 0, 7, .inl (nf bn2))), (h 4, .inl (E.2.1 0, 6, .inl (nf dn2))), (h 5, .inl (E.2.1 0, 6, .inl (nf dp2))), (h 6, .inl (E.2.1 0, 30, .inl (nf nt2))), (h 7, .inl (E.2.1 0, 120, .inl ps2)), (g1 0, .inr (5, oH g1 da2 pe2 de2 no2 pa2)), (g1 1, .inl (E.2.1 0, 7, .inl (nf kd2))), (g1 2, .inl (E.2.1 0, 7, .inl (nf pl2))), (g1 3, .inl (E.2.1 0, 7, .inl (nf bn2))), (g1 4, .inl (E.2.1 0, 6, .inl (nf dn2))), (g1 5, .inl (E.2.1 0, 6, .inl (nf dp2))), (g1 6, .inl (E.2.1 0, 30, .inl (nf nt2))), (g1 7, .inl (E.2.1 0, 120, .inl ps2))] 3 5 rfl rfl (by decide) rfl (Nat.le_of_ble_eq_true rfl) rfl rfl rfl rfl rfl ?_
      refine g_iconst (v := (nI 1)) hC dX11_from_44 (by decide) ?_
      exact g_val (rfl) (g_ws (rfl) (hR _ _ dX11_from_45))
    · omega
  · exact Bool.noConfusion ((inB_ok (by omega) (by omega)).symm.trans h_5)
set_option maxHeartbeats 600000 in
set_option maxRecDepth 100000 in
theorem f_X11_from_no1 (l : Launch) (E : Ew) (x : Nat → Nat) (h : Nat → Nat) (dr : Nat → Nat) (r : Nat → Int32) (ik : Nat → Int32) (hk0 : ik 1 = nI 0) : Fn l E 2 yX11_from cX11_from 2 (some .int) [.ref (x 0), .int (nI 1)] [(x 0, .inr (11, oL x h dr)), (x 2, .inl (E.2.1 2, 2, .inl ik)), (x 3, .inl (E.2.1 0, 3, .inl r))] (some (.int (-3))) [(x 0, .inr (11, oL x h dr)), (x 2, .inl (E.2.1 2, 2, .inl ik)), (x 3, .inl (E.2.1 0, 3, .inl (upd r 1 (r 1 + nI 1))))] := by
  refine fn_I (by decide) (Nat.le_of_ble_eq_true rfl) rfl ?_
  intro K hC hR
  show G K E 2 [(x 0, .inr (11, oL x h dr)), (x 2, .inl (E.2.1 2, 2, .inl ik)), (x 3, .inl (E.2.1 0, 3, .inl r))] [(0, .ref (x 0)), (1, .int (nI 1))] 0 []
  refine g_iload_n hC dX11_from_0 rfl 1 rfl ?_
  refine g_iconst (v := (nI 2)) hC dX11_from_1 (by decide) ?_
  refine g_callS hC (f_X11_within (kl K) E (nI 1) 2 (by omega)) wX11_within m2_13 dX11_from_2 [] [(x 0, .inr (11, oL x h dr)), (x 2, .inl (E.2.1 2, 2, .inl ik)), (x 3, .inl (E.2.1 0, 3, .inl r))] (by decide) rfl (Nat.le_of_ble_eq_true rfl) rfl rfl rfl rfl rfl ?_
  refine g_if_neB (tgt := 15) hC dX11_from_5 (by decide) (fun h_5 => ?_) (fun h_5 => ?_)
  · refine g_aload_n hC dX11_from_15 rfl 0 rfl ?_
    refine g_get hC 0 11 3 inX11 m1_224 dX11_from_16 rfl rfl (by decide) rfl ?_
    refine g_iload_n hC dX11_from_19 rfl 1 rfl ?_
    refine g_zaldN hC 1 dX11_from_20 rfl (by decide) (by omega) ?_
    refine g_val (v' := .int (nI 0)) (by rw [hk0]) ?_
    refine g_if_neN (tgt := 31) hC dX11_from_21 (by decide) (by omega) (fun h_21 => ?_) (fun h_21 => ?_)
    · omega
    · refine g_aload_n hC dX11_from_24 rfl 0 rfl ?_
      refine g_bipush (v := (-3)) hC dX11_from_25 (by decide) ?_
      refine g_callV hC (f_X11_refuse_no (kl K) E x h dr r) wX11_refuse m2_16 dX11_from_27 [0, 2] [(x 0, .inr (11, oL x h dr)), (x 2, .inl (E.2.1 2, 2, .inl ik)), (x 3, .inl (E.2.1 0, 3, .inl (upd r 1 (r 1 + nI 1))))] 0 11 rfl rfl (by decide) rfl (Nat.le_of_ble_eq_true rfl) rfl rfl rfl rfl rfl ?_
      exact g_val (rfl) (g_ws (rfl) (hR _ _ dX11_from_30))
  · exact Bool.noConfusion ((inB_ok (by omega) (by omega)).symm.trans h_5)
set_option maxHeartbeats 600000 in
set_option maxRecDepth 100000 in
theorem f_X11_image_bad (l : Launch) (E : Ew) (x : Nat → Nat) (h : Nat → Nat) (dr : Nat → Nat) (r : Nat → Int32) (i : Int32) (hb : inB i 2 = false) : Fn l E 2 yX11_image cX11_image 2 (some .int) [.ref (x 0), .int i] [(x 0, .inr (11, oL x h dr)), (x 3, .inl (E.2.1 0, 3, .inl r))] (some (.int (-2))) [(x 0, .inr (11, oL x h dr)), (x 3, .inl (E.2.1 0, 3, .inl (upd r 0 (r 0 + nI 1))))] := by
  refine fn_I (by decide) (Nat.le_of_ble_eq_true rfl) rfl ?_
  intro K hC hR
  show G K E 2 [(x 0, .inr (11, oL x h dr)), (x 3, .inl (E.2.1 0, 3, .inl r))] [(0, .ref (x 0)), (1, .int i)] 0 []
  refine g_iload_n hC dX11_image_0 rfl 1 rfl ?_
  refine g_iconst (v := (nI 2)) hC dX11_image_1 (by decide) ?_
  refine g_callS hC (f_X11_within (kl K) E i 2 (by omega)) wX11_within m2_13 dX11_image_2 [] [(x 0, .inr (11, oL x h dr)), (x 3, .inl (E.2.1 0, 3, .inl r))] (by decide) rfl (Nat.le_of_ble_eq_true rfl) rfl rfl rfl rfl rfl ?_
  refine g_if_neB (tgt := 15) hC dX11_image_5 (by decide) (fun h_5 => ?_) (fun h_5 => ?_)
  · exact absurd h_5 (by rw [hb]; decide)
  · refine g_aload_n hC dX11_image_8 rfl 0 rfl ?_
    refine g_bipush (v := (-2)) hC dX11_image_9 (by decide) ?_
    refine g_callV hC (f_X11_refuse_bad (kl K) E x h dr r) wX11_refuse m2_16 dX11_image_11 [0, 1] [(x 0, .inr (11, oL x h dr)), (x 3, .inl (E.2.1 0, 3, .inl (upd r 0 (r 0 + nI 1))))] 0 11 rfl rfl (by decide) rfl (Nat.le_of_ble_eq_true rfl) rfl rfl rfl rfl rfl ?_
    exact g_val (rfl) (g_ws (rfl) (hR _ _ dX11_image_14))
set_option maxHeartbeats 600000 in
set_option maxRecDepth 100000 in
theorem f_X11_from_bad (l : Launch) (E : Ew) (x : Nat → Nat) (h : Nat → Nat) (dr : Nat → Nat) (r : Nat → Int32) (i : Int32) (hb : inB i 2 = false) : Fn l E 2 yX11_from cX11_from 2 (some .int) [.ref (x 0), .int i] [(x 0, .inr (11, oL x h dr)), (x 3, .inl (E.2.1 0, 3, .inl r))] (some (.int (-2))) [(x 0, .inr (11, oL x h dr)), (x 3, .inl (E.2.1 0, 3, .inl (upd r 0 (r 0 + nI 1))))] := by
  refine fn_I (by decide) (Nat.le_of_ble_eq_true rfl) rfl ?_
  intro K hC hR
  show G K E 2 [(x 0, .inr (11, oL x h dr)), (x 3, .inl (E.2.1 0, 3, .inl r))] [(0, .ref (x 0)), (1, .int i)] 0 []
  refine g_iload_n hC dX11_from_0 rfl 1 rfl ?_
  refine g_iconst (v := (nI 2)) hC dX11_from_1 (by decide) ?_
  refine g_callS hC (f_X11_within (kl K) E i 2 (by omega)) wX11_within m2_13 dX11_from_2 [] [(x 0, .inr (11, oL x h dr)), (x 3, .inl (E.2.1 0, 3, .inl r))] (by decide) rfl (Nat.le_of_ble_eq_true rfl) rfl rfl rfl rfl rfl ?_
  refine g_if_neB (tgt := 15) hC dX11_from_5 (by decide) (fun h_5 => ?_) (fun h_5 => ?_)
  · exact absurd h_5 (by rw [hb]; decide)
  · refine g_aload_n hC dX11_from_8 rfl 0 rfl ?_
    refine g_bipush (v := (-2)) hC dX11_from_9 (by decide) ?_
    refine g_callV hC (f_X11_refuse_bad (kl K) E x h dr r) wX11_refuse m2_16 dX11_from_11 [0, 1] [(x 0, .inr (11, oL x h dr)), (x 3, .inl (E.2.1 0, 3, .inl (upd r 0 (r 0 + nI 1))))] 0 11 rfl rfl (by decide) rfl (Nat.le_of_ble_eq_true rfl) rfl rfl rfl rfl rfl ?_
    exact g_val (rfl) (g_ws (rfl) (hR _ _ dX11_from_14))
set_option maxHeartbeats 600000 in
set_option maxRecDepth 100000 in
theorem f_X11_amount (l : Launch) (E : Ew) (x : Nat → Nat) (h : Nat → Nat) (dr : Nat → Nat) (da : Int32) (pe : Int32) (de : Int32) (no : Int32) (pa : Int32) (bn : Nat → Nat) (sr : Int32) (sa : Int32) (en : Int32) (vl : Int32) (ln : Int32) (wh : Nat) (hwh : wh < 7) : Fn l E 1 yX11_amount cX11_amount 2 (some .int) [.ref (x 0), .int (nI wh)] [(x 0, .inr (11, oL x h dr)), (h 0, .inr (5, oH h da pe de no pa)), (h 3, .inl (E.2.1 0, 7, .inl (nf bn))), (x 4, .inr (10, oT x ln sr sa en vl))] (some (.int (cnC da pe de no pa bn ln wh))) [(x 0, .inr (11, oL x h dr)), (h 0, .inr (5, oH h da pe de no pa)), (h 3, .inl (E.2.1 0, 7, .inl (nf bn))), (x 4, .inr (10, oT x ln sr sa en vl))] := by
  refine fn_I (by decide) (Nat.le_of_ble_eq_true rfl) rfl ?_
  intro K hC hR
  show G K E 2 [(x 0, .inr (11, oL x h dr)), (h 0, .inr (5, oH h da pe de no pa)), (h 3, .inl (E.2.1 0, 7, .inl (nf bn))), (x 4, .inr (10, oT x ln sr sa en vl))] [(0, .ref (x 0)), (1, .int (nI wh))] 0 []
  refine g_iload_n hC dX11_amount_0 rfl 1 rfl ?_
  by_cases hs_0 : wh = 0
  · refine g_val (v' := .int (nI 0)) (by rw [hs_0]) ?_
    refine g_tabIn hC dX11_amount_1 (by decide) (by decide) (off := 39) (by decide) (tgt := 40) (by decide) ?_
    refine g_aload_n hC dX11_amount_40 rfl 0 rfl ?_
    refine g_get hC 0 11 0 inX11 m1_221 dX11_amount_41 rfl rfl (by decide) rfl ?_
    refine g_get hC 1 5 1 inX5 m1_40 dX11_amount_44 rfl rfl (by decide) rfl ?_
    exact g_val (by unfold cnC; simp [hs_0]) (g_ws (rfl) (hR _ _ dX11_amount_47))
  by_cases hs_1 : wh = 1
  · refine g_val (v' := .int (nI 1)) (by rw [hs_1]) ?_
    refine g_tabIn hC dX11_amount_1 (by decide) (by decide) (off := 47) (by decide) (tgt := 48) (by decide) ?_
    refine g_aload_n hC dX11_amount_48 rfl 0 rfl ?_
    refine g_get hC 0 11 0 inX11 m1_221 dX11_amount_49 rfl rfl (by decide) rfl ?_
    refine g_get hC 1 5 0 inX5 m1_38 dX11_amount_52 rfl rfl (by decide) rfl ?_
    exact g_val (by unfold cnC; simp [hs_0, hs_1]) (g_ws (rfl) (hR _ _ dX11_amount_55))
  by_cases hs_2 : wh = 2
  · refine g_val (v' := .int (nI 2)) (by rw [hs_2]) ?_
    refine g_tabIn hC dX11_amount_1 (by decide) (by decide) (off := 55) (by decide) (tgt := 56) (by decide) ?_
    refine g_aload_n hC dX11_amount_56 rfl 0 rfl ?_
    refine g_get hC 0 11 0 inX11 m1_221 dX11_amount_57 rfl rfl (by decide) rfl ?_
    refine g_get hC 1 5 4 inX5 m1_52 dX11_amount_60 rfl rfl (by decide) rfl ?_
    refine g_callS hC (f_X11_owners (kl K) E (h 3) bn) wX11_owners m3_186 dX11_amount_63 [2] [(x 0, .inr (11, oL x h dr)), (h 0, .inr (5, oH h da pe de no pa)), (h 3, .inl (E.2.1 0, 7, .inl (nf bn))), (x 4, .inr (10, oT x ln sr sa en vl))] (by decide) rfl (Nat.le_of_ble_eq_true rfl) rfl rfl rfl rfl rfl ?_
    refine g_val (v' := .int (nI (owS bn))) (rfl) ?_
    refine g_callS hC (f_J6_bitCount_0f7a4 (kl K) E (owS bn) (Nat.lt_trans (owS_128 bn) (by decide))) wJ6_bitCount_0f7a4 m3_11 dX11_amount_66 [] [(x 0, .inr (11, oL x h dr)), (h 0, .inr (5, oH h da pe de no pa)), (h 3, .inl (E.2.1 0, 7, .inl (nf bn))), (x 4, .inr (10, oT x ln sr sa en vl))] (by decide) rfl (Nat.le_of_ble_eq_true rfl) rfl rfl rfl rfl rfl ?_
    exact g_val (by unfold cnC; simp [hs_0, hs_1, hs_2]) (g_ws (rfl) (hR _ _ dX11_amount_69))
  by_cases hs_3 : wh = 3
  · refine g_val (v' := .int (nI 3)) (by rw [hs_3]) ?_
    refine g_tabIn hC dX11_amount_1 (by decide) (by decide) (off := 69) (by decide) (tgt := 70) (by decide) ?_
    refine g_aload_n hC dX11_amount_70 rfl 0 rfl ?_
    refine g_get hC 0 11 0 inX11 m1_221 dX11_amount_71 rfl rfl (by decide) rfl ?_
    refine g_get hC 1 5 5 inX5 m1_54 dX11_amount_74 rfl rfl (by decide) rfl ?_
    exact g_val (by unfold cnC; simp [hs_0, hs_1, hs_2, hs_3]) (g_ws (rfl) (hR _ _ dX11_amount_77))
  by_cases hs_4 : wh = 4
  · refine g_val (v' := .int (nI 4)) (by rw [hs_4]) ?_
    refine g_tabIn hC dX11_amount_1 (by decide) (by decide) (off := 77) (by decide) (tgt := 78) (by decide) ?_
    refine g_aload_n hC dX11_amount_78 rfl 0 rfl ?_
    refine g_get hC 0 11 0 inX11 m1_221 dX11_amount_79 rfl rfl (by decide) rfl ?_
    refine g_get hC 1 5 8 inX5 m1_60 dX11_amount_82 rfl rfl (by decide) rfl ?_
    exact g_val (by unfold cnC; simp [hs_0, hs_1, hs_2, hs_3, hs_4]) (g_ws (rfl) (hR _ _ dX11_amount_85))
  by_cases hs_5 : wh = 5
  · refine g_val (v' := .int (nI 5)) (by rw [hs_5]) ?_
    refine g_tabIn hC dX11_amount_1 (by decide) (by decide) (off := 85) (by decide) (tgt := 86) (by decide) ?_
    refine g_aload_n hC dX11_amount_86 rfl 0 rfl ?_
    refine g_get hC 0 11 0 inX11 m1_221 dX11_amount_87 rfl rfl (by decide) rfl ?_
    refine g_get hC 1 5 10 inX5 m1_64 dX11_amount_90 rfl rfl (by decide) rfl ?_
    exact g_val (by unfold cnC; simp [hs_0, hs_1, hs_2, hs_3, hs_4, hs_5]) (g_ws (rfl) (hR _ _ dX11_amount_93))
  refine g_tabOut hC dX11_amount_1 (tab_out (lo := 0) (hi := 5) (by omega) (by omega)) (tgt := 94) (by decide) ?_
  refine g_aload_n hC dX11_amount_94 rfl 0 rfl ?_
  refine g_get hC 0 11 4 inX11 m1_225 dX11_amount_95 rfl rfl (by decide) rfl ?_
  refine g_get hC 3 10 1 inX10 m1_101 dX11_amount_98 rfl rfl (by decide) rfl ?_
  exact g_val (by unfold cnC; simp [hs_0, hs_1, hs_2, hs_3, hs_4, hs_5]) (g_ws (rfl) (hR _ _ dX11_amount_101))
set_option maxHeartbeats 600000 in
set_option maxRecDepth 100000 in
theorem f_X11_count_ok (l : Launch) (E : Ew) (x : Nat → Nat) (h : Nat → Nat) (dr : Nat → Nat) (da : Int32) (pe : Int32) (de : Int32) (no : Int32) (pa : Int32) (bn : Nat → Nat) (sr : Int32) (sa : Int32) (en : Int32) (vl : Int32) (ln : Int32) (wh : Nat) (hwh : wh < 7) : Fn l E 2 yX11_count cX11_count 2 (some .int) [.ref (x 0), .int (nI wh)] [(x 0, .inr (11, oL x h dr)), (h 0, .inr (5, oH h da pe de no pa)), (h 3, .inl (E.2.1 0, 7, .inl (nf bn))), (x 4, .inr (10, oT x ln sr sa en vl))] (some (.int (cnC da pe de no pa bn ln wh))) [(x 0, .inr (11, oL x h dr)), (h 0, .inr (5, oH h da pe de no pa)), (h 3, .inl (E.2.1 0, 7, .inl (nf bn))), (x 4, .inr (10, oT x ln sr sa en vl))] := by
  refine fn_I (by decide) (Nat.le_of_ble_eq_true rfl) rfl ?_
  intro K hC hR
  show G K E 2 [(x 0, .inr (11, oL x h dr)), (h 0, .inr (5, oH h da pe de no pa)), (h 3, .inl (E.2.1 0, 7, .inl (nf bn))), (x 4, .inr (10, oT x ln sr sa en vl))] [(0, .ref (x 0)), (1, .int (nI wh))] 0 []
  refine g_iload_n hC dX11_count_0 rfl 1 rfl ?_
  refine g_bipush (v := (nI 7)) hC dX11_count_1 (by decide) ?_
  refine g_callS hC (f_X11_within (kl K) E (nI wh) 7 (by omega)) wX11_within m2_13 dX11_count_3 [] [(x 0, .inr (11, oL x h dr)), (h 0, .inr (5, oH h da pe de no pa)), (h 3, .inl (E.2.1 0, 7, .inl (nf bn))), (x 4, .inr (10, oT x ln sr sa en vl))] (by decide) rfl (Nat.le_of_ble_eq_true rfl) rfl rfl rfl rfl rfl ?_
  refine g_if_eqB (tgt := 17) hC dX11_count_6 (by decide) (fun h_6 => ?_) (fun h_6 => ?_)
  · exact Bool.noConfusion ((inB_ok (by omega) (by omega)).symm.trans h_6)
  · refine g_aload_n hC dX11_count_9 rfl 0 rfl ?_
    refine g_iload_n hC dX11_count_10 rfl 1 rfl ?_
    refine g_callV hC (f_X11_amount (kl K) E x h dr da pe de no pa bn sr sa en vl ln wh (by omega)) wX11_amount m3_182 dX11_count_11 [0, 1, 2, 3] [(x 0, .inr (11, oL x h dr)), (h 0, .inr (5, oH h da pe de no pa)), (h 3, .inl (E.2.1 0, 7, .inl (nf bn))), (x 4, .inr (10, oT x ln sr sa en vl))] 0 11 rfl rfl (by decide) rfl (Nat.le_of_ble_eq_true rfl) rfl rfl rfl rfl rfl ?_
    refine g_goto (tgt := 23) hC dX11_count_14 (by decide) ?_
    exact g_val (rfl) (g_ws (rfl) (hR _ _ dX11_count_23))
set_option maxHeartbeats 600000 in
set_option maxRecDepth 100000 in
theorem f_X11_count_bad (l : Launch) (E : Ew) (x : Nat → Nat) (h : Nat → Nat) (dr : Nat → Nat) (r : Nat → Int32) (wh : Int32) (hb : inB wh 7 = false) : Fn l E 2 yX11_count cX11_count 2 (some .int) [.ref (x 0), .int wh] [(x 0, .inr (11, oL x h dr)), (x 3, .inl (E.2.1 0, 3, .inl r))] (some (.int (-2))) [(x 0, .inr (11, oL x h dr)), (x 3, .inl (E.2.1 0, 3, .inl (upd r 0 (r 0 + nI 1))))] := by
  refine fn_I (by decide) (Nat.le_of_ble_eq_true rfl) rfl ?_
  intro K hC hR
  show G K E 2 [(x 0, .inr (11, oL x h dr)), (x 3, .inl (E.2.1 0, 3, .inl r))] [(0, .ref (x 0)), (1, .int wh)] 0 []
  refine g_iload_n hC dX11_count_0 rfl 1 rfl ?_
  refine g_bipush (v := (nI 7)) hC dX11_count_1 (by decide) ?_
  refine g_callS hC (f_X11_within (kl K) E wh 7 (by omega)) wX11_within m2_13 dX11_count_3 [] [(x 0, .inr (11, oL x h dr)), (x 3, .inl (E.2.1 0, 3, .inl r))] (by decide) rfl (Nat.le_of_ble_eq_true rfl) rfl rfl rfl rfl rfl ?_
  refine g_if_eqB (tgt := 17) hC dX11_count_6 (by decide) (fun h_6 => ?_) (fun h_6 => ?_)
  · refine g_aload_n hC dX11_count_17 rfl 0 rfl ?_
    refine g_bipush (v := (-2)) hC dX11_count_18 (by decide) ?_
    refine g_callV hC (f_X11_refuse_bad (kl K) E x h dr r) wX11_refuse m2_16 dX11_count_20 [0, 1] [(x 0, .inr (11, oL x h dr)), (x 3, .inl (E.2.1 0, 3, .inl (upd r 0 (r 0 + nI 1))))] 0 11 rfl rfl (by decide) rfl (Nat.le_of_ble_eq_true rfl) rfl rfl rfl rfl rfl ?_
    exact g_val (rfl) (g_ws (rfl) (hR _ _ dX11_count_23))
  · exact absurd h_6 (by rw [hb]; decide)
set_option maxHeartbeats 600000 in
set_option maxRecDepth 100000 in
theorem f_X11_digest (l : Launch) (E : Ew) (x : Nat → Nat) (h : Nat → Nat) (dr : Nat → Nat) (da : Int32) (pa : Int32) (kd : Nat → Nat) (pl : Nat → Nat) (bn : Nat → Nat) (dn : Nat → Nat) (dp : Nat → Nat) (nt : Nat → Nat) (n : Nat) (u : Nat) (v : Nat) (sr : Int32) (sa : Int32) (en : Int32) (vl : Int32) (ln : Int32) (ab : Int64) (be : Int64) (hn7 : n ≤ 7) (hu : u ≤ 6) (hv : v ≤ 6) (hb : ∀ j, j < 7 → bn j < 2147483648) : Fn l E 3 yX11_digest cX11_digest 4 (some .long) [.ref (x 0)] [(x 0, .inr (11, oL x h dr)), (h 0, .inr (5, oH h da (nI n) (nI u) (nI v) pa)), (h 1, .inl (E.2.1 0, 7, .inl (nf kd))), (h 2, .inl (E.2.1 0, 7, .inl (nf pl))), (h 3, .inl (E.2.1 0, 7, .inl (nf bn))), (h 4, .inl (E.2.1 0, 6, .inl (nf dn))), (h 5, .inl (E.2.1 0, 6, .inl (nf dp))), (h 6, .inl (E.2.1 0, 30, .inl (nf nt))), (x 4, .inr (10, oT x ln sr sa en vl)), (x 6, .inr (4, oF x ab be))] (some (.long (dgC kd pl bn dn dp nt da pa n u v ln ab be))) [(x 0, .inr (11, oL x h dr)), (h 0, .inr (5, oH h da (nI n) (nI u) (nI v) pa)), (h 1, .inl (E.2.1 0, 7, .inl (nf kd))), (h 2, .inl (E.2.1 0, 7, .inl (nf pl))), (h 3, .inl (E.2.1 0, 7, .inl (nf bn))), (h 4, .inl (E.2.1 0, 6, .inl (nf dn))), (h 5, .inl (E.2.1 0, 6, .inl (nf dp))), (h 6, .inl (E.2.1 0, 30, .inl (nf nt))), (x 4, .inr (10, oT x ln sr sa en vl)), (x 6, .inr (4, oF x ab be))] := by
  refine fn_L (by decide) (Nat.le_of_ble_eq_true rfl) rfl ?_
  intro K hC hR
  show G K E 4 [(x 0, .inr (11, oL x h dr)), (h 0, .inr (5, oH h da (nI n) (nI u) (nI v) pa)), (h 1, .inl (E.2.1 0, 7, .inl (nf kd))), (h 2, .inl (E.2.1 0, 7, .inl (nf pl))), (h 3, .inl (E.2.1 0, 7, .inl (nf bn))), (h 4, .inl (E.2.1 0, 6, .inl (nf dn))), (h 5, .inl (E.2.1 0, 6, .inl (nf dp))), (h 6, .inl (E.2.1 0, 30, .inl (nf nt))), (x 4, .inr (10, oT x ln sr sa en vl)), (x 6, .inr (4, oF x ab be))] [(0, .ref (x 0))] 0 []
  refine g_ldc2 (v := 1201) hC dX11_digest_0 m3_191 ?_
  refine g_lstore_n hC [(1, .long 1201), (0, .ref (x 0))] dX11_digest_3 rfl (by decide) rfl ?_
  refine g_iconst (v := (nI 0)) hC dX11_digest_4 (by decide) ?_
  refine g_istore_n hC [(3, .int (nI 0)), (1, .long 1201), (0, .ref (x 0))] dX11_digest_5 rfl (by decide) rfl ?_
  have L_6 : ∀ (fu : Nat) (k : Nat) (hk : k ≤ 7), 7 - k < fu → G K E 4 [(x 0, .inr (11, oL x h dr)), (h 0, .inr (5, oH h da (nI n) (nI u) (nI v) pa)), (h 1, .inl (E.2.1 0, 7, .inl (nf kd))), (h 2, .inl (E.2.1 0, 7, .inl (nf pl))), (h 3, .inl (E.2.1 0, 7, .inl (nf bn))), (h 4, .inl (E.2.1 0, 6, .inl (nf dn))), (h 5, .inl (E.2.1 0, 6, .inl (nf dp))), (h 6, .inl (E.2.1 0, 30, .inl (nf nt))), (x 4, .inr (10, oT x ln sr sa en vl)), (x 6, .inr (4, oF x ab be))] [(3, .int (nI k)), (1, .long (dc1 da (nI n) (nI u) (nI v) pa bn ln k)), (0, .ref (x 0))] 6 [] := by
    intro fu
    induction fu with
    | zero => intro k hk hm_6; exact absurd hm_6 (Nat.not_lt_zero _)
    | succ fu ih_6 =>
      intro k hk hm_6
      refine g_iload_n hC dX11_digest_6 rfl 0 rfl ?_
      refine g_bipush (v := (nI 7)) hC dX11_digest_7 (by decide) ?_
      refine g_icmp_geN (tgt := 31) hC dX11_digest_9 (by decide) (by omega) (by omega) (fun h_9 => ?_) (fun h_9 => ?_)
      · refine g_aload_n hC dX11_digest_31 rfl 2 rfl ?_
        refine g_get hC 0 11 0 inX11 m1_221 dX11_digest_32 rfl rfl (by decide) rfl ?_
        refine g_lload_n hC dX11_digest_35 rfl 1 rfl ?_
        refine g_callV hC (f_X5_mixInto (kl K) E h da pa kd pl bn dn dp nt n u v (dc1 da (nI n) (nI u) (nI v) pa bn ln k) (by omega) (by omega) (by omega) (hb)) wX5_mixInto m3_193 dX11_digest_36 [1, 2, 3, 4, 5, 6, 7] [(x 0, .inr (11, oL x h dr)), (h 0, .inr (5, oH h da (nI n) (nI u) (nI v) pa)), (h 1, .inl (E.2.1 0, 7, .inl (nf kd))), (h 2, .inl (E.2.1 0, 7, .inl (nf pl))), (h 3, .inl (E.2.1 0, 7, .inl (nf bn))), (h 4, .inl (E.2.1 0, 6, .inl (nf dn))), (h 5, .inl (E.2.1 0, 6, .inl (nf dp))), (h 6, .inl (E.2.1 0, 30, .inl (nf nt))), (x 4, .inr (10, oT x ln sr sa en vl)), (x 6, .inr (4, oF x ab be))] 1 5 rfl rfl (by decide) rfl (Nat.le_of_ble_eq_true rfl) rfl rfl rfl rfl rfl ?_
        refine g_lstore_n hC [(1, .long (mx3 nt (mx2 dn dp (mx1 kd pl bn n (dc1 da (nI n) (nI u) (nI v) pa bn ln k) n) u) (v * 5))), (3, .int (nI k)), (0, .ref (x 0))] dX11_digest_39 rfl (by decide) rfl ?_
        refine g_ldc2 (v := 31) hC dX11_digest_40 m3_192 ?_
        refine g_lload_n hC dX11_digest_43 rfl 0 rfl ?_
        refine g_lmul hC dX11_digest_44 ?_
        refine g_aload_n hC dX11_digest_45 rfl 2 rfl ?_
        refine g_get hC 0 11 5 inX11 m1_226 dX11_digest_46 rfl rfl (by decide) rfl ?_
        refine g_get hC 9 4 0 inX4 m1_129 dX11_digest_49 rfl rfl (by decide) rfl ?_
        refine g_ladd hC dX11_digest_52 ?_
        refine g_lstore_n hC [(1, .long ((31 * mx3 nt (mx2 dn dp (mx1 kd pl bn n (dc1 da (nI n) (nI u) (nI v) pa bn ln k) n) u) (v * 5)) + ab)), (3, .int (nI k)), (0, .ref (x 0))] dX11_digest_53 rfl (by decide) rfl ?_
        refine g_ldc2 (v := 31) hC dX11_digest_54 m3_192 ?_
        refine g_lload_n hC dX11_digest_57 rfl 0 rfl ?_
        refine g_lmul hC dX11_digest_58 ?_
        refine g_aload_n hC dX11_digest_59 rfl 2 rfl ?_
        refine g_get hC 0 11 5 inX11 m1_226 dX11_digest_60 rfl rfl (by decide) rfl ?_
        refine g_get hC 9 4 1 inX4 m1_131 dX11_digest_63 rfl rfl (by decide) rfl ?_
        refine g_ladd hC dX11_digest_66 ?_
        exact g_val (by unfold dgC; rw [show k = 7 by omega]) (g_ws (rfl) (hR _ _ dX11_digest_67))
      · refine g_ldc2 (v := 31) hC dX11_digest_12 m3_192 ?_
        refine g_lload_n hC dX11_digest_15 rfl 1 rfl ?_
        refine g_lmul hC dX11_digest_16 ?_
        refine g_aload_n hC dX11_digest_17 rfl 2 rfl ?_
        refine g_iload_n hC dX11_digest_18 rfl 0 rfl ?_
        refine g_callV hC (f_X11_amount (kl K) E x h dr da (nI n) (nI u) (nI v) pa bn sr sa en vl ln k (by omega)) wX11_amount m3_182 dX11_digest_19 [0, 1, 4, 8] [(x 0, .inr (11, oL x h dr)), (h 0, .inr (5, oH h da (nI n) (nI u) (nI v) pa)), (h 1, .inl (E.2.1 0, 7, .inl (nf kd))), (h 2, .inl (E.2.1 0, 7, .inl (nf pl))), (h 3, .inl (E.2.1 0, 7, .inl (nf bn))), (h 4, .inl (E.2.1 0, 6, .inl (nf dn))), (h 5, .inl (E.2.1 0, 6, .inl (nf dp))), (h 6, .inl (E.2.1 0, 30, .inl (nf nt))), (x 4, .inr (10, oT x ln sr sa en vl)), (x 6, .inr (4, oF x ab be))] 0 11 rfl rfl (by decide) rfl (Nat.le_of_ble_eq_true rfl) rfl rfl rfl rfl rfl ?_
        refine g_i2l hC dX11_digest_22 ?_
        refine g_ladd hC dX11_digest_23 ?_
        refine g_lstore_n hC [(1, .long ((31 * (dc1 da (nI n) (nI u) (nI v) pa bn ln k)) + (cnC da (nI n) (nI u) (nI v) pa bn ln k).toInt64)), (3, .int (nI k)), (0, .ref (x 0))] dX11_digest_24 rfl (by decide) rfl ?_
        refine g_iincN hC (q := 1) 1 [(3, .int (nI (k + 1))), (1, .long ((31 * (dc1 da (nI n) (nI u) (nI v) pa bn ln k)) + (cnC da (nI n) (nI u) (nI v) pa bn ln k).toInt64)), (0, .ref (x 0))] dX11_digest_25 rfl rfl (by decide) rfl ?_
        refine g_goto (tgt := 6) hC dX11_digest_28 (by decide) ?_
        refine g_lv (lv' := [(3, .int (nI (k + 1))), (1, .long ((31 * (dc1 da (nI n) (nI u) (nI v) pa bn ln k)) + (cnC da (nI n) (nI u) (nI v) pa bn ln k).toInt64)), (0, .ref (x 0))]) [0, 1, 2] rfl ?_
        refine g_lve (lv' := [(3, .int (nI (k + 1))), (1, .long (dc1 da (nI n) (nI u) (nI v) pa bn ln (k + 1))), (0, .ref (x 0))]) (rfl) ?_
        exact ih_6 (k + 1) (by omega) (by omega)
  refine g_lv (lv' := [(3, .int (nI 0)), (1, .long 1201), (0, .ref (x 0))]) [0, 1, 2] rfl ?_
  refine g_lve (lv' := [(3, .int (nI 0)), (1, .long (dc1 da (nI n) (nI u) (nI v) pa bn ln 0)), (0, .ref (x 0))]) (rfl) ?_
  exact L_6 ((7 - 0) + 1) 0 (by omega) (Nat.lt_succ_self _)
