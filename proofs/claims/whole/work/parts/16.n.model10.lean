set_option maxHeartbeats 600000 in
set_option maxRecDepth 100000 in
theorem f_X12_ring_bad (l : Launch) (E : Ew) (q : Nat → Nat) (ab : Int64) (be : Int64) (fe : Int32) (fc : Int32) (mo : Int32) (bl : Int32) (ta : Int32) (tl : Int32) (tkn : Int32) (va : Int32) (a : Nat → Int32) (r : Nat → Int32) (n : Nat) (p : Int32) (hn : a 0 = nI n) (hn7 : n ≤ 7) (hb : inB p n = false) : Fn l E 2 yX12_ring cX12_ring 4 (some .int) [.ref (q 0), .int p] [(q 0, .inr (12, oM q ab be fe fc mo bl ta tl tkn va)), (q 1, .inl (E.2.1 0, 188, .inl a)), (q 4, .inl (E.2.1 0, 3, .inl r))] (some (.int (-2))) [(q 0, .inr (12, oM q ab be fe fc mo bl ta tl tkn va)), (q 1, .inl (E.2.1 0, 188, .inl a)), (q 4, .inl (E.2.1 0, 3, .inl (upd r 0 (r 0 + nI 1))))] := by
  refine fn_I (by decide) (Nat.le_of_ble_eq_true rfl) rfl ?_
  intro K hC hR
  show G K E 4 [(q 0, .inr (12, oM q ab be fe fc mo bl ta tl tkn va)), (q 1, .inl (E.2.1 0, 188, .inl a)), (q 4, .inl (E.2.1 0, 3, .inl r))] [(0, .ref (q 0)), (1, .int p)] 0 []
  refine g_aload_n hC dX12_ring_0 rfl 0 rfl ?_
  refine g_iload_n hC dX12_ring_1 rfl 1 rfl ?_
  refine g_callV hC (f_X12_isOne (kl K) E q ab be fe fc mo bl ta tl tkn va a n p (hn) (by omega)) wX12_isOne m4_62 dX12_ring_2 [0, 1] [(q 0, .inr (12, oM q ab be fe fc mo bl ta tl tkn va)), (q 1, .inl (E.2.1 0, 188, .inl a)), (q 4, .inl (E.2.1 0, 3, .inl r))] 0 12 rfl rfl (by decide) rfl (Nat.le_of_ble_eq_true rfl) rfl rfl rfl rfl rfl ?_
  refine g_if_neB (tgt := 15) hC dX12_ring_5 (by decide) (fun h_5 => ?_) (fun h_5 => ?_)
  · exact absurd h_5 (by rw [hb]; decide)
  · refine g_aload_n hC dX12_ring_8 rfl 0 rfl ?_
    refine g_bipush (v := (-2)) hC dX12_ring_9 (by decide) ?_
    refine g_callV hC (f_X12_bad (kl K) E q ab be fe fc mo bl ta tl tkn va r (-2)) wX12_bad m4_34 dX12_ring_11 [0, 2] [(q 0, .inr (12, oM q ab be fe fc mo bl ta tl tkn va)), (q 1, .inl (E.2.1 0, 188, .inl a)), (q 4, .inl (E.2.1 0, 3, .inl (upd r 0 (r 0 + nI 1))))] 0 12 rfl rfl (by decide) rfl (Nat.le_of_ble_eq_true rfl) rfl rfl rfl rfl rfl ?_
    exact g_val (rfl) (g_ws (rfl) (hR _ _ dX12_ring_14))
set_option maxHeartbeats 600000 in
set_option maxRecDepth 100000 in
theorem f_X12_ears_bad (l : Launch) (E : Ew) (q : Nat → Nat) (ab : Int64) (be : Int64) (fe : Int32) (fc : Int32) (mo : Int32) (bl : Int32) (ta : Int32) (tl : Int32) (tkn : Int32) (va : Int32) (a : Nat → Int32) (r : Nat → Int32) (n : Nat) (p1 : Int32) (p2 : Int32) (x : Int32) (pl : Int32) (hn : a 0 = nI n) (hn7 : n ≤ 7) (hb : (inB p1 n && inB p2 n && decide (¬ p1 = p2) && inB x n && inB pl 10) = false) : Fn l E 2 yX12_ears cX12_ears 9 (some .int) [.ref (q 0), .int p1, .int p2, .int x, .int pl] [(q 0, .inr (12, oM q ab be fe fc mo bl ta tl tkn va)), (q 1, .inl (E.2.1 0, 188, .inl a)), (q 4, .inl (E.2.1 0, 3, .inl r))] (some (.int (-2))) [(q 0, .inr (12, oM q ab be fe fc mo bl ta tl tkn va)), (q 1, .inl (E.2.1 0, 188, .inl a)), (q 4, .inl (E.2.1 0, 3, .inl (upd r 0 (r 0 + nI 1))))] := by
  refine fn_I (by decide) (Nat.le_of_ble_eq_true rfl) rfl ?_
  intro K hC hR
  show G K E 9 [(q 0, .inr (12, oM q ab be fe fc mo bl ta tl tkn va)), (q 1, .inl (E.2.1 0, 188, .inl a)), (q 4, .inl (E.2.1 0, 3, .inl r))] [(0, .ref (q 0)), (1, .int p1), (2, .int p2), (3, .int x), (4, .int pl)] 0 []
  refine g_aload_n hC dX12_ears_0 rfl 0 rfl ?_
  refine g_iload_n hC dX12_ears_1 rfl 1 rfl ?_
  refine g_callV hC (f_X12_isOne (kl K) E q ab be fe fc mo bl ta tl tkn va a n p1 (hn) (by omega)) wX12_isOne m4_62 dX12_ears_2 [0, 1] [(q 0, .inr (12, oM q ab be fe fc mo bl ta tl tkn va)), (q 1, .inl (E.2.1 0, 188, .inl a)), (q 4, .inl (E.2.1 0, 3, .inl r))] 0 12 rfl rfl (by decide) rfl (Nat.le_of_ble_eq_true rfl) rfl rfl rfl rfl rfl ?_
  refine g_if_eqB (tgt := 37) hC dX12_ears_5 (by decide) (fun h_5 => ?_) (fun h_5 => ?_)
  · refine g_aload_n hC dX12_ears_37 rfl 0 rfl ?_
    refine g_bipush (v := (-2)) hC dX12_ears_38 (by decide) ?_
    refine g_callV hC (f_X12_bad (kl K) E q ab be fe fc mo bl ta tl tkn va r (-2)) wX12_bad m4_34 dX12_ears_40 [0, 2] [(q 0, .inr (12, oM q ab be fe fc mo bl ta tl tkn va)), (q 1, .inl (E.2.1 0, 188, .inl a)), (q 4, .inl (E.2.1 0, 3, .inl (upd r 0 (r 0 + nI 1))))] 0 12 rfl rfl (by decide) rfl (Nat.le_of_ble_eq_true rfl) rfl rfl rfl rfl rfl ?_
    exact g_val (rfl) (g_ws (rfl) (hR _ _ dX12_ears_43))
  · refine g_aload_n hC dX12_ears_8 rfl 0 rfl ?_
    refine g_iload_n hC dX12_ears_9 rfl 2 rfl ?_
    refine g_callV hC (f_X12_isOne (kl K) E q ab be fe fc mo bl ta tl tkn va a n p2 (hn) (by omega)) wX12_isOne m4_62 dX12_ears_10 [0, 1] [(q 0, .inr (12, oM q ab be fe fc mo bl ta tl tkn va)), (q 1, .inl (E.2.1 0, 188, .inl a)), (q 4, .inl (E.2.1 0, 3, .inl r))] 0 12 rfl rfl (by decide) rfl (Nat.le_of_ble_eq_true rfl) rfl rfl rfl rfl rfl ?_
    refine g_if_eqB (tgt := 37) hC dX12_ears_13 (by decide) (fun h_13 => ?_) (fun h_13 => ?_)
    · refine g_aload_n hC dX12_ears_37 rfl 0 rfl ?_
      refine g_bipush (v := (-2)) hC dX12_ears_38 (by decide) ?_
      refine g_callV hC (f_X12_bad (kl K) E q ab be fe fc mo bl ta tl tkn va r (-2)) wX12_bad m4_34 dX12_ears_40 [0, 2] [(q 0, .inr (12, oM q ab be fe fc mo bl ta tl tkn va)), (q 1, .inl (E.2.1 0, 188, .inl a)), (q 4, .inl (E.2.1 0, 3, .inl (upd r 0 (r 0 + nI 1))))] 0 12 rfl rfl (by decide) rfl (Nat.le_of_ble_eq_true rfl) rfl rfl rfl rfl rfl ?_
      exact g_val (rfl) (g_ws (rfl) (hR _ _ dX12_ears_43))
    · refine g_iload_n hC dX12_ears_16 rfl 1 rfl ?_
      refine g_iload_n hC dX12_ears_17 rfl 2 rfl ?_
      refine g_icmp_eq (tgt := 37) hC dX12_ears_18 (by decide) (fun h_18 => ?_) (fun h_18 => ?_)
      · refine g_aload_n hC dX12_ears_37 rfl 0 rfl ?_
        refine g_bipush (v := (-2)) hC dX12_ears_38 (by decide) ?_
        refine g_callV hC (f_X12_bad (kl K) E q ab be fe fc mo bl ta tl tkn va r (-2)) wX12_bad m4_34 dX12_ears_40 [0, 2] [(q 0, .inr (12, oM q ab be fe fc mo bl ta tl tkn va)), (q 1, .inl (E.2.1 0, 188, .inl a)), (q 4, .inl (E.2.1 0, 3, .inl (upd r 0 (r 0 + nI 1))))] 0 12 rfl rfl (by decide) rfl (Nat.le_of_ble_eq_true rfl) rfl rfl rfl rfl rfl ?_
        exact g_val (rfl) (g_ws (rfl) (hR _ _ dX12_ears_43))
      · refine g_aload_n hC dX12_ears_21 rfl 0 rfl ?_
        refine g_iload_n hC dX12_ears_22 rfl 3 rfl ?_
        refine g_callV hC (f_X12_isOne (kl K) E q ab be fe fc mo bl ta tl tkn va a n x (hn) (by omega)) wX12_isOne m4_62 dX12_ears_23 [0, 1] [(q 0, .inr (12, oM q ab be fe fc mo bl ta tl tkn va)), (q 1, .inl (E.2.1 0, 188, .inl a)), (q 4, .inl (E.2.1 0, 3, .inl r))] 0 12 rfl rfl (by decide) rfl (Nat.le_of_ble_eq_true rfl) rfl rfl rfl rfl rfl ?_
        refine g_if_eqB (tgt := 37) hC dX12_ears_26 (by decide) (fun h_26 => ?_) (fun h_26 => ?_)
        · refine g_aload_n hC dX12_ears_37 rfl 0 rfl ?_
          refine g_bipush (v := (-2)) hC dX12_ears_38 (by decide) ?_
          refine g_callV hC (f_X12_bad (kl K) E q ab be fe fc mo bl ta tl tkn va r (-2)) wX12_bad m4_34 dX12_ears_40 [0, 2] [(q 0, .inr (12, oM q ab be fe fc mo bl ta tl tkn va)), (q 1, .inl (E.2.1 0, 188, .inl a)), (q 4, .inl (E.2.1 0, 3, .inl (upd r 0 (r 0 + nI 1))))] 0 12 rfl rfl (by decide) rfl (Nat.le_of_ble_eq_true rfl) rfl rfl rfl rfl rfl ?_
          exact g_val (rfl) (g_ws (rfl) (hR _ _ dX12_ears_43))
        · refine g_iload hC dX12_ears_29 4 rfl ?_
          refine g_callS hC (f_X12_isPlace (kl K) E pl) wX12_isPlace m4_47 dX12_ears_31 [] [(q 0, .inr (12, oM q ab be fe fc mo bl ta tl tkn va)), (q 1, .inl (E.2.1 0, 188, .inl a)), (q 4, .inl (E.2.1 0, 3, .inl r))] (by decide) rfl (Nat.le_of_ble_eq_true rfl) rfl rfl rfl rfl rfl ?_
          refine g_if_neB (tgt := 44) hC dX12_ears_34 (by decide) (fun h_34 => ?_) (fun h_34 => ?_)
          · exact absurd hb (by simp [h_5, h_13, h_18, h_26, h_34])
          · refine g_aload_n hC dX12_ears_37 rfl 0 rfl ?_
            refine g_bipush (v := (-2)) hC dX12_ears_38 (by decide) ?_
            refine g_callV hC (f_X12_bad (kl K) E q ab be fe fc mo bl ta tl tkn va r (-2)) wX12_bad m4_34 dX12_ears_40 [0, 2] [(q 0, .inr (12, oM q ab be fe fc mo bl ta tl tkn va)), (q 1, .inl (E.2.1 0, 188, .inl a)), (q 4, .inl (E.2.1 0, 3, .inl (upd r 0 (r 0 + nI 1))))] 0 12 rfl rfl (by decide) rfl (Nat.le_of_ble_eq_true rfl) rfl rfl rfl rfl rfl ?_
            exact g_val (rfl) (g_ws (rfl) (hR _ _ dX12_ears_43))
