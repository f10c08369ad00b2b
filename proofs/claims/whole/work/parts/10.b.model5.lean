theorem ct_pos {p : Nat → Bool} : ∀ {n k : Nat}, k < n → p k = true → 0 < ct p n
  | 0, k, h, _ => absurd h (Nat.not_lt_zero k)
  | n + 1, k, h, hp => by
    rw [ct]
    by_cases e : k = n
    · subst e; rw [hp]; simp
    · have := ct_pos (p := p) (n := n) (show k < n by omega) hp
      omega
set_option maxHeartbeats 4000000 in
set_option maxRecDepth 100000 in
theorem f_X12_ring_ok (l : Launch) (E : Ew) (q : Nat → Nat) (ab : Int64) (be : Int64) (fe : Int32) (fc : Int32) (mo : Int32) (bl : Int32) (ta : Int32) (tl : Int32) (tkn : Int32) (va : Int32) (a : Nat → Int32) (r : Nat → Int32) (n : Nat) (p : Nat) (hn : a 0 = nI n) (hn7 : n ≤ 7) (hnm : ∀ p, p < n → a (5 + p) = -1 ∨ isN (a (5 + p)) n) (hp : p < n) : Fn l E 2 yX12_ring cX12_ring 4 (some .int) [.ref (q 0), .int (nI p)] [(q 0, .inr (12, oM q ab be fe fc mo bl ta tl tkn va)), (q 1, .inl (E.2.1 0, 188, .inl a)), (q 4, .inl (E.2.1 0, 3, .inl r))] (some (.int (nI (rgF a p 7 p 1)))) [(q 0, .inr (12, oM q ab be fe fc mo bl ta tl tkn va)), (q 1, .inl (E.2.1 0, 188, .inl a)), (q 4, .inl (E.2.1 0, 3, .inl r))] := by
  refine fn_I (by decide) (Nat.le_of_ble_eq_true rfl) rfl ?_
  intro K hC hR
  show G K E 4 [(q 0, .inr (12, oM q ab be fe fc mo bl ta tl tkn va)), (q 1, .inl (E.2.1 0, 188, .inl a)), (q 4, .inl (E.2.1 0, 3, .inl r))] [(0, .ref (q 0)), (1, .int (nI p))] 0 []
  refine g_aload_n hC dX12_ring_0 rfl 0 rfl ?_
  refine g_iload_n hC dX12_ring_1 rfl 1 rfl ?_
  refine g_callV hC (f_X12_isOne (kl K) E q ab be fe fc mo bl ta tl tkn va a n (nI p) (hn) (by omega)) wX12_isOne m4_62 dX12_ring_2 [0, 1] [(q 0, .inr (12, oM q ab be fe fc mo bl ta tl tkn va)), (q 1, .inl (E.2.1 0, 188, .inl a)), (q 4, .inl (E.2.1 0, 3, .inl r))] 0 12 rfl rfl (by decide) rfl (Nat.le_of_ble_eq_true rfl) rfl rfl rfl rfl rfl ?_
  refine g_if_neB (tgt := 15) hC dX12_ring_5 (by decide) (fun h_5 => ?_) (fun h_5 => ?_)
  · refine g_iload_n hC dX12_ring_15 rfl 1 rfl ?_
    refine g_istore_n hC [(2, .int (nI p)), (0, .ref (q 0)), (1, .int (nI p))] dX12_ring_16 rfl (by decide) rfl ?_
    refine g_iconst (v := (nI 1)) hC dX12_ring_17 (by decide) ?_
    refine g_istore_n hC [(3, .int (nI 1)), (2, .int (nI p)), (0, .ref (q 0)), (1, .int (nI p))] dX12_ring_18 rfl (by decide) rfl ?_
    have L_19 : ∀ (fu : Nat) (k : Nat) (at1 : Nat) (hk : k ≤ 8) (hat1 : at1 < n) (hr : rgF a p (8 - k) at1 k = rgF a p 7 p 1), 8 - k < fu → G K E 4 [(q 0, .inr (12, oM q ab be fe fc mo bl ta tl tkn va)), (q 1, .inl (E.2.1 0, 188, .inl a)), (q 4, .inl (E.2.1 0, 3, .inl r))] [(3, .int (nI k)), (2, .int (nI at1)), (0, .ref (q 0)), (1, .int (nI p))] 19 [] := by
      intro fu
      induction fu with
      | zero => intro k at1 hk hat1 hr hm_19; exact absurd hm_19 (Nat.not_lt_zero _)
      | succ fu ih_19 =>
        intro k at1 hk hat1 hr hm_19
        refine g_iload_n hC dX12_ring_19 rfl 0 rfl ?_
        refine g_bipush (v := (nI 7)) hC dX12_ring_20 (by decide) ?_
        refine g_icmp_gtN (tgt := 61) hC dX12_ring_22 (by decide) (by omega) (by omega) (fun h_22 => ?_) (fun h_22 => ?_)
        · refine g_iconst (v := (nI 0)) hC dX12_ring_61 (by decide) ?_
          exact g_val (by rw [← hr, show 8 - k = 0 by omega]; rfl) (g_ws (rfl) (hR _ _ dX12_ring_62))
        · refine g_aload_n hC dX12_ring_25 rfl 2 rfl ?_
          refine g_get hC 0 12 0 inX12 m3_208 dX12_ring_26 rfl rfl (by decide) rfl ?_
          refine g_iconst (v := (nI 5)) hC dX12_ring_29 (by decide) ?_
          refine g_iload_n hC dX12_ring_30 rfl 1 rfl ?_
          refine g_iaddN hC dX12_ring_31 ?_
          refine g_ialdN hC 1 dX12_ring_32 rfl (by decide) (by omega) ?_
          refine g_istore_n hC [(2, .int (a (5 + at1))), (3, .int (nI k)), (0, .ref (q 0)), (1, .int (nI p))] dX12_ring_33 rfl (by decide) rfl ?_
          refine g_iload_n hC dX12_ring_34 rfl 0 rfl ?_
          refine g_iconst (v := (-1)) hC dX12_ring_35 (by decide) ?_
          refine g_icmp_eq (tgt := 44) hC dX12_ring_36 (by decide) (fun h_36 => ?_) (fun h_36 => ?_)
          · refine g_iload_n hC dX12_ring_44 rfl 0 rfl ?_
            refine g_iload_n hC dX12_ring_45 rfl 3 rfl ?_
            refine g_icmp_ne (tgt := 53) hC dX12_ring_46 (by decide) (fun h_46 => ?_) (fun h_46 => ?_)
            · refine g_iconst (v := (nI 0)) hC dX12_ring_53 (by decide) ?_
              exact g_val (by rw [← hr, show 8 - k = (7 - k) + 1 by omega, rgF, if_pos h_36]) (g_ws (rfl) (hR _ _ dX12_ring_54))
            · exact absurd (h_36.symm.trans h_46) (fun e => nI_m1 (by omega) e.symm)
          · have hat := (hnm at1 hat1).resolve_left h_36
            refine g_iload_n hC dX12_ring_39 rfl 0 rfl ?_
            refine g_iload_n hC dX12_ring_40 rfl 3 rfl ?_
            refine g_icmp_ne (tgt := 55) hC dX12_ring_41 (by decide) (fun h_41 => ?_) (fun h_41 => ?_)
            · refine g_iincN hC (q := 1) 1 [(3, .int (nI (k + 1))), (2, .int (a (5 + at1))), (0, .ref (q 0)), (1, .int (nI p))] dX12_ring_55 rfl rfl (by decide) rfl ?_
              refine g_goto (tgt := 19) hC dX12_ring_58 (by decide) ?_
              refine g_lv (lv' := [(3, .int (nI (k + 1))), (2, .int (a (5 + at1))), (0, .ref (q 0)), (1, .int (nI p))]) [0, 1, 2, 3] rfl ?_
              refine g_lve (lv' := [(3, .int (nI (k + 1))), (2, .int (nI (tn (a (5 + at1))))), (0, .ref (q 0)), (1, .int (nI p))]) (by rw [← hat.1]) ?_
              exact ih_19 (k + 1) (tn (a (5 + at1))) (by omega) (hat.2) (by rw [← hr, show 8 - k = (8 - (k + 1)) + 1 by omega, rgF, if_neg h_36, if_neg h_41]) (by omega)
            · refine g_iload_n hC dX12_ring_44 rfl 0 rfl ?_
              refine g_iload_n hC dX12_ring_45 rfl 3 rfl ?_
              refine g_icmp_ne (tgt := 53) hC dX12_ring_46 (by decide) (fun h_46 => ?_) (fun h_46 => ?_)
              · exact absurd h_41 h_46
              · refine g_iload_n hC dX12_ring_49 rfl 1 rfl ?_
                refine g_goto (tgt := 54) hC dX12_ring_50 (by decide) ?_
                exact g_val (by rw [← hr, show 8 - k = (7 - k) + 1 by omega, rgF, if_neg h_36, if_pos h_41]) (g_ws (rfl) (hR _ _ dX12_ring_54))
    refine g_lv (lv' := [(3, .int (nI 1)), (2, .int (nI p)), (0, .ref (q 0)), (1, .int (nI p))]) [0, 1, 2, 3] rfl ?_
    exact L_19 ((8 - 1) + 1) 1 p (by omega) (hp) (rfl) (Nat.lt_succ_self _)
  · exact Bool.noConfusion ((inB_ok (by omega) (by omega)).symm.trans h_5)
set_option maxHeartbeats 4000000 in
set_option maxRecDepth 100000 in
theorem f_X12_deed_ok (l : Launch) (E : Ew) (q : Nat → Nat) (ab : Int64) (be : Int64) (fe : Int32) (fc : Int32) (mo : Int32) (bl : Int32) (ta : Int32) (tl : Int32) (tkn : Int32) (va : Int32) (a : Nat → Int32) (r : Nat → Int32) (n : Nat) (u : Nat) (x : Nat) (pe : Nat) (hn : a 0 = nI n) (hn7 : n ≤ 7) (hu : a 2 = nI u) (hu6 : u < 6) (hx : x < n) (hp1 : 1 ≤ pe) (hp2 : pe ≤ 60) : Fn l E 2 yX12_deed cX12_deed 3 (some .int) [.ref (q 0), .int (nI x), .int (nI pe)] [(q 0, .inr (12, oM q ab be fe fc mo bl ta tl tkn va)), (q 1, .inl (E.2.1 0, 188, .inl a)), (q 4, .inl (E.2.1 0, 3, .inl r))] (some (.int (nI (u + 1)))) [(q 0, .inr (12, oM q ab be fe fc mo bl ta tl tkn va)), (q 1, .inl (E.2.1 0, 188, .inl (ddF a x pe u))), (q 4, .inl (E.2.1 0, 3, .inl r))] := by
  refine fn_I (by decide) (Nat.le_of_ble_eq_true rfl) rfl ?_
  intro K hC hR
  show G K E 3 [(q 0, .inr (12, oM q ab be fe fc mo bl ta tl tkn va)), (q 1, .inl (E.2.1 0, 188, .inl a)), (q 4, .inl (E.2.1 0, 3, .inl r))] [(0, .ref (q 0)), (1, .int (nI x)), (2, .int (nI pe))] 0 []
  refine g_aload_n hC dX12_deed_0 rfl 0 rfl ?_
  refine g_iload_n hC dX12_deed_1 rfl 1 rfl ?_
  refine g_callV hC (f_X12_isOne (kl K) E q ab be fe fc mo bl ta tl tkn va a n (nI x) (hn) (by omega)) wX12_isOne m4_62 dX12_deed_2 [0, 1] [(q 0, .inr (12, oM q ab be fe fc mo bl ta tl tkn va)), (q 1, .inl (E.2.1 0, 188, .inl a)), (q 4, .inl (E.2.1 0, 3, .inl r))] 0 12 rfl rfl (by decide) rfl (Nat.le_of_ble_eq_true rfl) rfl rfl rfl rfl rfl ?_
  refine g_if_eqB (tgt := 20) hC dX12_deed_5 (by decide) (fun h_5 => ?_) (fun h_5 => ?_)
  · exact Bool.noConfusion ((inB_ok (by omega) (by omega)).symm.trans h_5)
  · refine g_iload_n hC dX12_deed_8 rfl 2 rfl ?_
    refine g_i2l hC dX12_deed_9 ?_
    refine g_lconst (v := 1) hC dX12_deed_10 (by decide) ?_
    refine g_ldc2 (v := 60) hC dX12_deed_11 m4_171 ?_
    refine g_callS hC (f_X12_in (kl K) E ((nI pe).toInt64) 1 60) wX12_in m4_31 dX12_deed_14 [] [(q 0, .inr (12, oM q ab be fe fc mo bl ta tl tkn va)), (q 1, .inl (E.2.1 0, 188, .inl a)), (q 4, .inl (E.2.1 0, 3, .inl r))] (by decide) rfl (Nat.le_of_ble_eq_true rfl) rfl rfl rfl rfl rfl ?_
    refine g_val (v' := .int (bI (pB (nI pe)))) (by rw [inl_p]) ?_
    refine g_if_neB (tgt := 27) hC dX12_deed_17 (by decide) (fun h_17 => ?_) (fun h_17 => ?_)
    · refine g_aload_n hC dX12_deed_27 rfl 0 rfl ?_
      refine g_get hC 0 12 0 inX12 m3_208 dX12_deed_28 rfl rfl (by decide) rfl ?_
      refine g_iconst (v := (nI 2)) hC dX12_deed_31 (by decide) ?_
      refine g_ialdN hC 1 dX12_deed_32 rfl (by decide) (by omega) ?_
      refine g_val (v' := .int (nI u)) (by rw [hu]) ?_
      refine g_bipush (v := (nI 6)) hC dX12_deed_33 (by decide) ?_
      refine g_icmp_neN (tgt := 43) hC dX12_deed_35 (by decide) (by omega) (by omega) (fun h_35 => ?_) (fun h_35 => ?_)
      · refine g_aload_n hC dX12_deed_43 rfl 0 rfl ?_
        refine g_get hC 0 12 0 inX12 m3_208 dX12_deed_44 rfl rfl (by decide) rfl ?_
        refine g_bipush (v := (nI 26)) hC dX12_deed_47 (by decide) ?_
        refine g_iconst (v := (nI 2)) hC dX12_deed_49 (by decide) ?_
        refine g_aload_n hC dX12_deed_50 rfl 0 rfl ?_
        refine g_get hC 0 12 0 inX12 m3_208 dX12_deed_51 rfl rfl (by decide) rfl ?_
        refine g_iconst (v := (nI 2)) hC dX12_deed_54 (by decide) ?_
        refine g_ialdN hC 1 dX12_deed_55 rfl (by decide) (by omega) ?_
        refine g_val (v' := .int (nI u)) (by rw [hu]) ?_
        refine g_imulN hC dX12_deed_56 ?_
        refine g_iaddN hC dX12_deed_57 ?_
        refine g_iload_n hC dX12_deed_58 rfl 1 rfl ?_
        refine g_iastN hC 1 [(q 0, .inr (12, oM q ab be fe fc mo bl ta tl tkn va)), (q 1, .inl (E.2.1 0, 188, .inl (upd a (26 + (2 * u)) (nI x)))), (q 4, .inl (E.2.1 0, 3, .inl r))] dX12_deed_59 rfl (by decide) (by omega) rfl ?_
        refine g_aload_n hC dX12_deed_60 rfl 0 rfl ?_
        refine g_get hC 0 12 0 inX12 m3_208 dX12_deed_61 rfl rfl (by decide) rfl ?_
        refine g_bipush (v := (nI 26)) hC dX12_deed_64 (by decide) ?_
        refine g_iconst (v := (nI 2)) hC dX12_deed_66 (by decide) ?_
        refine g_aload_n hC dX12_deed_67 rfl 0 rfl ?_
        refine g_get hC 0 12 0 inX12 m3_208 dX12_deed_68 rfl rfl (by decide) rfl ?_
        refine g_iconst (v := (nI 2)) hC dX12_deed_71 (by decide) ?_
        refine g_ialdN hC 1 dX12_deed_72 rfl (by decide) (by omega) ?_
        refine g_val (v' := .int (nI u)) (by rw [upd_n (by omega), hu]) ?_
        refine g_imulN hC dX12_deed_73 ?_
        refine g_iaddN hC dX12_deed_74 ?_
        refine g_iconst (v := (nI 1)) hC dX12_deed_75 (by decide) ?_
        refine g_iaddN hC dX12_deed_76 ?_
        refine g_iload_n hC dX12_deed_77 rfl 2 rfl ?_
        refine g_iastN hC 1 [(q 0, .inr (12, oM q ab be fe fc mo bl ta tl tkn va)), (q 1, .inl (E.2.1 0, 188, .inl (upd (upd a (26 + (2 * u)) (nI x)) ((26 + (2 * u)) + 1) (nI pe)))), (q 4, .inl (E.2.1 0, 3, .inl r))] dX12_deed_78 rfl (by decide) (by omega) rfl ?_
        refine g_aload_n hC dX12_deed_79 rfl 0 rfl ?_
        refine g_get hC 0 12 0 inX12 m3_208 dX12_deed_80 rfl rfl (by decide) rfl ?_
        refine g_iconst (v := (nI 2)) hC dX12_deed_83 (by decide) ?_
        refine g_dup2 hC dX12_deed_84 rfl rfl ?_
        refine g_ialdN hC 1 dX12_deed_85 rfl (by decide) (by omega) ?_
        refine g_val (v' := .int (nI u)) (by rw [upd_n (by omega), upd_n (by omega), hu]) ?_
        refine g_iconst (v := (nI 1)) hC dX12_deed_86 (by decide) ?_
        refine g_iaddN hC dX12_deed_87 ?_
        refine g_iastN hC 1 [(q 0, .inr (12, oM q ab be fe fc mo bl ta tl tkn va)), (q 1, .inl (E.2.1 0, 188, .inl (upd (upd (upd a (26 + (2 * u)) (nI x)) ((26 + (2 * u)) + 1) (nI pe)) 2 (nI (u + 1))))), (q 4, .inl (E.2.1 0, 3, .inl r))] dX12_deed_88 rfl (by decide) (by omega) rfl ?_
        refine g_aload_n hC dX12_deed_89 rfl 0 rfl ?_
        refine g_get hC 0 12 0 inX12 m3_208 dX12_deed_90 rfl rfl (by decide) rfl ?_
        refine g_iconst (v := (nI 2)) hC dX12_deed_93 (by decide) ?_
        refine g_ialdN hC 1 dX12_deed_94 rfl (by decide) (by omega) ?_
        refine g_val (v' := .int (nI (u + 1))) (by rw [upd_s]) ?_
        exact g_val (rfl) (g_ws (rfl) (hR _ _ dX12_deed_95))
      · omega
    · exact Bool.noConfusion ((pB_ok hp1 hp2).symm.trans h_17)
set_option maxHeartbeats 4000000 in
set_option maxRecDepth 100000 in
theorem f_X12_deed_full (l : Launch) (E : Ew) (q : Nat → Nat) (ab : Int64) (be : Int64) (fe : Int32) (fc : Int32) (mo : Int32) (bl : Int32) (ta : Int32) (tl : Int32) (tkn : Int32) (va : Int32) (a : Nat → Int32) (r : Nat → Int32) (n : Nat) (x : Nat) (pe : Nat) (hn : a 0 = nI n) (hn7 : n ≤ 7) (hu : a 2 = nI 6) (hx : x < n) (hp1 : 1 ≤ pe) (hp2 : pe ≤ 60) : Fn l E 2 yX12_deed cX12_deed 3 (some .int) [.ref (q 0), .int (nI x), .int (nI pe)] [(q 0, .inr (12, oM q ab be fe fc mo bl ta tl tkn va)), (q 1, .inl (E.2.1 0, 188, .inl a)), (q 4, .inl (E.2.1 0, 3, .inl r))] (some (.int (-4))) [(q 0, .inr (12, oM q ab be fe fc mo bl ta tl tkn va)), (q 1, .inl (E.2.1 0, 188, .inl a)), (q 4, .inl (E.2.1 0, 3, .inl (upd r 2 (r 2 + nI 1))))] := by
  refine fn_I (by decide) (Nat.le_of_ble_eq_true rfl) rfl ?_
  intro K hC hR
  show G K E 3 [(q 0, .inr (12, oM q ab be fe fc mo bl ta tl tkn va)), (q 1, .inl (E.2.1 0, 188, .inl a)), (q 4, .inl (E.2.1 0, 3, .inl r))] [(0, .ref (q 0)), (1, .int (nI x)), (2, .int (nI pe))] 0 []
  refine g_aload_n hC dX12_deed_0 rfl 0 rfl ?_
  refine g_iload_n hC dX12_deed_1 rfl 1 rfl ?_
  refine g_callV hC (f_X12_isOne (kl K) E q ab be fe fc mo bl ta tl tkn va a n (nI x) (hn) (by omega)) wX12_isOne m4_62 dX12_deed_2 [0, 1] [(q 0, .inr (12, oM q ab be fe fc mo bl ta tl tkn va)), (q 1, .inl (E.2.1 0, 188, .inl a)), (q 4, .inl (E.2.1 0, 3, .inl r))] 0 12 rfl rfl (by decide) rfl (Nat.le_of_ble_eq_true rfl) rfl rfl rfl rfl rfl ?_
  refine g_if_eqB (tgt := 20) hC dX12_deed_5 (by decide) (fun h_5 => ?_) (fun h_5 => ?_)
  · exact Bool.noConfusion ((inB_ok (by omega) (by omega)).symm.trans h_5)
  · refine g_iload_n hC dX12_deed_8 rfl 2 rfl ?_
    refine g_i2l hC dX12_deed_9 ?_
    refine g_lconst (v := 1) hC dX12_deed_10 (by decide) ?_
    refine g_ldc2 (v := 60) hC dX12_deed_11 m4_171 ?_
    refine g_callS hC (f_X12_in (kl K) E ((nI pe).toInt64) 1 60) wX12_in m4_31 dX12_deed_14 [] [(q 0, .inr (12, oM q ab be fe fc mo bl ta tl tkn va)), (q 1, .inl (E.2.1 0, 188, .inl a)), (q 4, .inl (E.2.1 0, 3, .inl r))] (by decide) rfl (Nat.le_of_ble_eq_true rfl) rfl rfl rfl rfl rfl ?_
    refine g_val (v' := .int (bI (pB (nI pe)))) (by rw [inl_p]) ?_
    refine g_if_neB (tgt := 27) hC dX12_deed_17 (by decide) (fun h_17 => ?_) (fun h_17 => ?_)
    · refine g_aload_n hC dX12_deed_27 rfl 0 rfl ?_
      refine g_get hC 0 12 0 inX12 m3_208 dX12_deed_28 rfl rfl (by decide) rfl ?_
      refine g_iconst (v := (nI 2)) hC dX12_deed_31 (by decide) ?_
      refine g_ialdN hC 1 dX12_deed_32 rfl (by decide) (by omega) ?_
      refine g_val (v' := .int (nI 6)) (by rw [hu]) ?_
      refine g_bipush (v := (nI 6)) hC dX12_deed_33 (by decide) ?_
      refine g_icmp_neN (tgt := 43) hC dX12_deed_35 (by decide) (by omega) (by omega) (fun h_35 => ?_) (fun h_35 => ?_)
      · omega
      · refine g_aload_n hC dX12_deed_38 rfl 0 rfl ?_
        refine g_callV hC (f_X12_full (kl K) E q ab be fe fc mo bl ta tl tkn va r) wX12_full m4_51 dX12_deed_39 [0, 2] [(q 0, .inr (12, oM q ab be fe fc mo bl ta tl tkn va)), (q 1, .inl (E.2.1 0, 188, .inl a)), (q 4, .inl (E.2.1 0, 3, .inl (upd r 2 (r 2 + nI 1))))] 0 12 rfl rfl (by decide) rfl (Nat.le_of_ble_eq_true rfl) rfl rfl rfl rfl rfl ?_
        exact g_val (rfl) (g_ws (rfl) (hR _ _ dX12_deed_42))
    · exact Bool.noConfusion ((pB_ok hp1 hp2).symm.trans h_17)
set_option maxHeartbeats 4000000 in
set_option maxRecDepth 100000 in
theorem f_X12_deed_bad (l : Launch) (E : Ew) (q : Nat → Nat) (ab : Int64) (be : Int64) (fe : Int32) (fc : Int32) (mo : Int32) (bl : Int32) (ta : Int32) (tl : Int32) (tkn : Int32) (va : Int32) (a : Nat → Int32) (r : Nat → Int32) (n : Nat) (x : Int32) (pe : Int32) (hn : a 0 = nI n) (hn7 : n ≤ 7) (hb : (inB x n && pB pe) = false) : Fn l E 2 yX12_deed cX12_deed 3 (some .int) [.ref (q 0), .int x, .int pe] [(q 0, .inr (12, oM q ab be fe fc mo bl ta tl tkn va)), (q 1, .inl (E.2.1 0, 188, .inl a)), (q 4, .inl (E.2.1 0, 3, .inl r))] (some (.int (-2))) [(q 0, .inr (12, oM q ab be fe fc mo bl ta tl tkn va)), (q 1, .inl (E.2.1 0, 188, .inl a)), (q 4, .inl (E.2.1 0, 3, .inl (upd r 0 (r 0 + nI 1))))] := by
  refine fn_I (by decide) (Nat.le_of_ble_eq_true rfl) rfl ?_
  intro K hC hR
  show G K E 3 [(q 0, .inr (12, oM q ab be fe fc mo bl ta tl tkn va)), (q 1, .inl (E.2.1 0, 188, .inl a)), (q 4, .inl (E.2.1 0, 3, .inl r))] [(0, .ref (q 0)), (1, .int x), (2, .int pe)] 0 []
  refine g_aload_n hC dX12_deed_0 rfl 0 rfl ?_
  refine g_iload_n hC dX12_deed_1 rfl 1 rfl ?_
  refine g_callV hC (f_X12_isOne (kl K) E q ab be fe fc mo bl ta tl tkn va a n x (hn) (by omega)) wX12_isOne m4_62 dX12_deed_2 [0, 1] [(q 0, .inr (12, oM q ab be fe fc mo bl ta tl tkn va)), (q 1, .inl (E.2.1 0, 188, .inl a)), (q 4, .inl (E.2.1 0, 3, .inl r))] 0 12 rfl rfl (by decide) rfl (Nat.le_of_ble_eq_true rfl) rfl rfl rfl rfl rfl ?_
  refine g_if_eqB (tgt := 20) hC dX12_deed_5 (by decide) (fun h_5 => ?_) (fun h_5 => ?_)
  · refine g_aload_n hC dX12_deed_20 rfl 0 rfl ?_
    refine g_bipush (v := (-2)) hC dX12_deed_21 (by decide) ?_
    refine g_callV hC (f_X12_bad (kl K) E q ab be fe fc mo bl ta tl tkn va r (-2)) wX12_bad m4_34 dX12_deed_23 [0, 2] [(q 0, .inr (12, oM q ab be fe fc mo bl ta tl tkn va)), (q 1, .inl (E.2.1 0, 188, .inl a)), (q 4, .inl (E.2.1 0, 3, .inl (upd r 0 (r 0 + nI 1))))] 0 12 rfl rfl (by decide) rfl (Nat.le_of_ble_eq_true rfl) rfl rfl rfl rfl rfl ?_
    exact g_val (rfl) (g_ws (rfl) (hR _ _ dX12_deed_26))
  · refine g_iload_n hC dX12_deed_8 rfl 2 rfl ?_
    refine g_i2l hC dX12_deed_9 ?_
    refine g_lconst (v := 1) hC dX12_deed_10 (by decide) ?_
    refine g_ldc2 (v := 60) hC dX12_deed_11 m4_171 ?_
    refine g_callS hC (f_X12_in (kl K) E pe.toInt64 1 60) wX12_in m4_31 dX12_deed_14 [] [(q 0, .inr (12, oM q ab be fe fc mo bl ta tl tkn va)), (q 1, .inl (E.2.1 0, 188, .inl a)), (q 4, .inl (E.2.1 0, 3, .inl r))] (by decide) rfl (Nat.le_of_ble_eq_true rfl) rfl rfl rfl rfl rfl ?_
    refine g_val (v' := .int (bI (pB pe))) (by rw [inl_p]) ?_
    refine g_if_neB (tgt := 27) hC dX12_deed_17 (by decide) (fun h_17 => ?_) (fun h_17 => ?_)
    · exact absurd hb (by simp [h_5, h_17])
    · refine g_aload_n hC dX12_deed_20 rfl 0 rfl ?_
      refine g_bipush (v := (-2)) hC dX12_deed_21 (by decide) ?_
      refine g_callV hC (f_X12_bad (kl K) E q ab be fe fc mo bl ta tl tkn va r (-2)) wX12_bad m4_34 dX12_deed_23 [0, 2] [(q 0, .inr (12, oM q ab be fe fc mo bl ta tl tkn va)), (q 1, .inl (E.2.1 0, 188, .inl a)), (q 4, .inl (E.2.1 0, 3, .inl (upd r 0 (r 0 + nI 1))))] 0 12 rfl rfl (by decide) rfl (Nat.le_of_ble_eq_true rfl) rfl rfl rfl rfl rfl ?_
      exact g_val (rfl) (g_ws (rfl) (hR _ _ dX12_deed_26))
set_option maxHeartbeats 4000000 in
set_option maxRecDepth 100000 in
theorem f_X12_penceOn (l : Launch) (E : Ew) (q : Nat → Nat) (ab : Int64) (be : Int64) (fe : Int32) (fc : Int32) (mo : Int32) (bl : Int32) (ta : Int32) (tl : Int32) (tkn : Int32) (va : Int32) (a : Nat → Int32) (u : Nat) (x : Int32) (hu : a 2 = nI u) (hu6 : u ≤ 6) (hdd : ∀ k, k < u → isN (a (26 + 2 * k + 1)) 61) : Fn l E 0 yX12_penceOn cX12_penceOn 4 (some .int) [.ref (q 0), .int x] [(q 0, .inr (12, oM q ab be fe fc mo bl ta tl tkn va)), (q 1, .inl (E.2.1 0, 188, .inl a))] (some (.int (nI (pN a x u)))) [(q 0, .inr (12, oM q ab be fe fc mo bl ta tl tkn va)), (q 1, .inl (E.2.1 0, 188, .inl a))] := by
  refine fn_I (by decide) (Nat.le_of_ble_eq_true rfl) rfl ?_
  intro K hC hR
  show G K E 4 [(q 0, .inr (12, oM q ab be fe fc mo bl ta tl tkn va)), (q 1, .inl (E.2.1 0, 188, .inl a))] [(0, .ref (q 0)), (1, .int x)] 0 []
  refine g_iconst (v := (nI 0)) hC dX12_penceOn_0 (by decide) ?_
  refine g_istore_n hC [(2, .int (nI 0)), (0, .ref (q 0)), (1, .int x)] dX12_penceOn_1 rfl (by decide) rfl ?_
  refine g_iconst (v := (nI 0)) hC dX12_penceOn_2 (by decide) ?_
  refine g_istore_n hC [(3, .int (nI 0)), (2, .int (nI 0)), (0, .ref (q 0)), (1, .int x)] dX12_penceOn_3 rfl (by decide) rfl ?_
  have L_4 : ∀ (fu : Nat) (k : Nat) (hk : k ≤ u), u - k < fu → G K E 4 [(q 0, .inr (12, oM q ab be fe fc mo bl ta tl tkn va)), (q 1, .inl (E.2.1 0, 188, .inl a))] [(3, .int (nI k)), (2, .int (nI (pN a x k))), (0, .ref (q 0)), (1, .int x)] 4 [] := by
    intro fu
    induction fu with
    | zero => intro k hk hm_4; exact absurd hm_4 (Nat.not_lt_zero _)
    | succ fu ih_4 =>
      intro k hk hm_4
      refine g_iload_n hC dX12_penceOn_4 rfl 0 rfl ?_
      refine g_aload_n hC dX12_penceOn_5 rfl 2 rfl ?_
      refine g_get hC 0 12 0 inX12 m3_208 dX12_penceOn_6 rfl rfl (by decide) rfl ?_
      refine g_iconst (v := (nI 2)) hC dX12_penceOn_9 (by decide) ?_
      refine g_ialdN hC 1 dX12_penceOn_10 rfl (by decide) (by omega) ?_
      refine g_val (v' := .int (nI u)) (by rw [hu]) ?_
      refine g_icmp_geN (tgt := 55) hC dX12_penceOn_11 (by decide) (by omega) (by omega) (fun h_11 => ?_) (fun h_11 => ?_)
      · refine g_iload_n hC dX12_penceOn_55 rfl 1 rfl ?_
        exact g_val (by rw [show k = u by omega]) (g_ws (rfl) (hR _ _ dX12_penceOn_56))
      · refine g_iload_n hC dX12_penceOn_14 rfl 1 rfl ?_
        refine g_aload_n hC dX12_penceOn_15 rfl 2 rfl ?_
        refine g_get hC 0 12 0 inX12 m3_208 dX12_penceOn_16 rfl rfl (by decide) rfl ?_
        refine g_bipush (v := (nI 26)) hC dX12_penceOn_19 (by decide) ?_
        refine g_iconst (v := (nI 2)) hC dX12_penceOn_21 (by decide) ?_
        refine g_iload_n hC dX12_penceOn_22 rfl 0 rfl ?_
        refine g_imulN hC dX12_penceOn_23 ?_
        refine g_iaddN hC dX12_penceOn_24 ?_
        refine g_ialdN hC 1 dX12_penceOn_25 rfl (by decide) (by omega) ?_
        refine g_iload_n hC dX12_penceOn_26 rfl 3 rfl ?_
        refine g_icmp_ne (tgt := 46) hC dX12_penceOn_27 (by decide) (fun h_27 => ?_) (fun h_27 => ?_)
        · refine g_iconst (v := (nI 0)) hC dX12_penceOn_46 (by decide) ?_
          refine g_iaddN hC dX12_penceOn_47 ?_
          refine g_istore_n hC [(2, .int (nI (pN a x k + 0))), (3, .int (nI k)), (0, .ref (q 0)), (1, .int x)] dX12_penceOn_48 rfl (by decide) rfl ?_
          refine g_iincN hC (q := 1) 1 [(3, .int (nI (k + 1))), (2, .int (nI (pN a x k + 0))), (0, .ref (q 0)), (1, .int x)] dX12_penceOn_49 rfl rfl (by decide) rfl ?_
          refine g_goto (tgt := 4) hC dX12_penceOn_52 (by decide) ?_
          refine g_lv (lv' := [(3, .int (nI (k + 1))), (2, .int (nI (pN a x k + 0))), (0, .ref (q 0)), (1, .int x)]) [0, 1, 2, 3] rfl ?_
          refine g_lve (lv' := [(3, .int (nI (k + 1))), (2, .int (nI (pN a x (k + 1)))), (0, .ref (q 0)), (1, .int x)]) (by simp [pN, h_11, h_27]) ?_
          exact ih_4 (k + 1) (by omega) (by omega)
        · refine g_aload_n hC dX12_penceOn_30 rfl 2 rfl ?_
          refine g_get hC 0 12 0 inX12 m3_208 dX12_penceOn_31 rfl rfl (by decide) rfl ?_
          refine g_bipush (v := (nI 26)) hC dX12_penceOn_34 (by decide) ?_
          refine g_iconst (v := (nI 2)) hC dX12_penceOn_36 (by decide) ?_
          refine g_iload_n hC dX12_penceOn_37 rfl 0 rfl ?_
          refine g_imulN hC dX12_penceOn_38 ?_
          refine g_iaddN hC dX12_penceOn_39 ?_
          refine g_iconst (v := (nI 1)) hC dX12_penceOn_40 (by decide) ?_
          refine g_iaddN hC dX12_penceOn_41 ?_
          refine g_ialdN hC 1 dX12_penceOn_42 rfl (by decide) (by omega) ?_
          refine g_val (v' := .int (nI (tn (a (26 + 2 * k + 1))))) (by rw [← (hdd k (by omega)).1]) ?_
          refine g_goto (tgt := 47) hC dX12_penceOn_43 (by decide) ?_
          refine g_iaddN hC dX12_penceOn_47 ?_
          refine g_istore_n hC [(2, .int (nI (pN a x k + tn (a (26 + 2 * k + 1))))), (3, .int (nI k)), (0, .ref (q 0)), (1, .int x)] dX12_penceOn_48 rfl (by decide) rfl ?_
          refine g_iincN hC (q := 1) 1 [(3, .int (nI (k + 1))), (2, .int (nI (pN a x k + tn (a (26 + 2 * k + 1))))), (0, .ref (q 0)), (1, .int x)] dX12_penceOn_49 rfl rfl (by decide) rfl ?_
          refine g_goto (tgt := 4) hC dX12_penceOn_52 (by decide) ?_
          refine g_lv (lv' := [(3, .int (nI (k + 1))), (2, .int (nI (pN a x k + tn (a (26 + 2 * k + 1))))), (0, .ref (q 0)), (1, .int x)]) [0, 1, 2, 3] rfl ?_
          refine g_lve (lv' := [(3, .int (nI (k + 1))), (2, .int (nI (pN a x (k + 1)))), (0, .ref (q 0)), (1, .int x)]) (by simp [pN, h_11, h_27]) ?_
          exact ih_4 (k + 1) (by omega) (by omega)
  refine g_lv (lv' := [(3, .int (nI 0)), (2, .int (nI 0)), (0, .ref (q 0)), (1, .int x)]) [0, 1, 2, 3] rfl ?_
  refine g_lve (lv' := [(3, .int (nI 0)), (2, .int (nI (pN a x 0))), (0, .ref (q 0)), (1, .int x)]) (rfl) ?_
  exact L_4 ((u - 0) + 1) 0 (by omega) (Nat.lt_succ_self _)
set_option maxHeartbeats 4000000 in
set_option maxRecDepth 100000 in
theorem f_X12_fraction (l : Launch) (E : Ew) (q : Nat → Nat) (ab : Int64) (be : Int64) (fe : Int32) (fc : Int32) (mo : Int32) (bl : Int32) (ta : Int32) (tl : Int32) (tkn : Int32) (va : Int32) (o : Nat) (w : Nat) (ho : o < 9223372036854775808) (hw : w < 9223372036854775808) (hw0 : 0 < w) : Fn l E 0 yX12_fraction cX12_fraction 11 none [.ref (q 0), .long (lN o), .long (lN w)] [(q 0, .inr (12, oM q ab be fe fc mo bl ta tl tkn va))] none [(q 0, .inr (12, oM q (lN (o / Nat.gcd o w)) (lN (w / Nat.gcd o w)) fe fc mo bl ta tl tkn va))] := by
  refine fn_V (by decide) (Nat.le_of_ble_eq_true rfl) rfl ?_
  intro K hC hR
  show G K E 11 [(q 0, .inr (12, oM q ab be fe fc mo bl ta tl tkn va))] [(0, .ref (q 0)), (1, .long (lN o)), (3, .long (lN w))] 0 []
  refine g_lload_n hC dX12_fraction_0 rfl 1 rfl ?_
  refine g_lstore hC [(5, .long (lN o)), (0, .ref (q 0)), (1, .long (lN o)), (3, .long (lN w))] dX12_fraction_1 (by decide) rfl ?_
  refine g_lload_n hC dX12_fraction_3 rfl 3 rfl ?_
  refine g_lstore hC [(7, .long (lN w)), (5, .long (lN o)), (0, .ref (q 0)), (1, .long (lN o)), (3, .long (lN w))] dX12_fraction_4 (by decide) rfl ?_
  have L_6 : ∀ (fu : Nat) (s : Nat) (t : Nat) (hs : s < 9223372036854775808) (ht : t < 9223372036854775808) (hg : Nat.gcd s t = Nat.gcd o w), t < fu → G K E 11 [(q 0, .inr (12, oM q ab be fe fc mo bl ta tl tkn va))] [(5, .long (lN s)), (7, .long (lN t)), (0, .ref (q 0)), (1, .long (lN o)), (3, .long (lN w))] 6 [] := by
    intro fu
    induction fu with
    | zero => intro s t hs ht hg hm_6; exact absurd hm_6 (Nat.not_lt_zero _)
    | succ fu ih_6 =>
      intro s t hs ht hg hm_6
      refine g_lload hC dX12_fraction_6 1 rfl ?_
      refine g_lconst (v := 0) hC dX12_fraction_8 (by decide) ?_
      refine g_lcmp hC dX12_fraction_9 ?_
      refine g_if_eq (tgt := 31) hC dX12_fraction_10 (by decide) (fun h_10 => ?_) (fun h_10 => ?_)
      · have ht0 : t = 0 := (lcmp0 ht).mp h_10
        have hsg : s = Nat.gcd o w := by rw [← hg, ht0, Nat.gcd_zero_right]
        have hg0 : 0 < s := by rw [hsg]; exact Nat.gcd_pos_of_pos_right _ hw0
        refine g_aload_n hC dX12_fraction_31 rfl 2 rfl ?_
        refine g_lload_n hC dX12_fraction_32 rfl 3 rfl ?_
        refine g_lload hC dX12_fraction_33 0 rfl ?_
        refine g_ldiv hC dX12_fraction_35 (lN_ne0 hs hg0) ?_
        refine g_put hC 0 12 4 [(q 0, .inr (12, oM q ((lN o) / (lN s)) be fe fc mo bl ta tl tkn va))] .long inX12 tyX12_ok nmX12 m3_212 dX12_fraction_36 rfl rfl (by decide) rfl (by decide +kernel) rfl rfl (Nat.le_of_ble_eq_true rfl) rfl ?_
        refine g_aload_n hC dX12_fraction_39 rfl 2 rfl ?_
        refine g_lload_n hC dX12_fraction_40 rfl 4 rfl ?_
        refine g_lload hC dX12_fraction_41 0 rfl ?_
        refine g_ldiv hC dX12_fraction_43 (lN_ne0 hs hg0) ?_
        refine g_put hC 0 12 5 [(q 0, .inr (12, oM q ((lN o) / (lN s)) ((lN w) / (lN s)) fe fc mo bl ta tl tkn va))] .long inX12 tyX12_ok nmX12 m3_213 dX12_fraction_44 rfl rfl (by decide) rfl (by decide +kernel) rfl rfl (Nat.le_of_ble_eq_true rfl) rfl ?_
        exact g_ws (by rw [pk_lDiv ho hg0 hs, pk_lDiv hw hg0 hs, hsg]) (hR _ _ dX12_fraction_47)
      · have ht0 : t ≠ 0 := fun e => h_10 ((lcmp0 ht).mpr e)
        refine g_lload hC dX12_fraction_13 0 rfl ?_
        refine g_lload hC dX12_fraction_15 1 rfl ?_
        refine g_lrem hC dX12_fraction_17 (lN_ne0 ht (by omega)) ?_
        refine g_val (v' := .long (lN (s % t))) (by rw [pk_lRem hs (by omega) ht]) ?_
        refine g_lstore hC [(9, .long (lN (s % t))), (5, .long (lN s)), (7, .long (lN t)), (0, .ref (q 0)), (1, .long (lN o)), (3, .long (lN w))] dX12_fraction_18 (by decide) rfl ?_
        refine g_lload hC dX12_fraction_20 2 rfl ?_
        refine g_lstore hC [(5, .long (lN t)), (9, .long (lN (s % t))), (7, .long (lN t)), (0, .ref (q 0)), (1, .long (lN o)), (3, .long (lN w))] dX12_fraction_22 (by decide) rfl ?_
        refine g_lload hC dX12_fraction_24 1 rfl ?_
        refine g_lstore hC [(7, .long (lN (s % t))), (5, .long (lN t)), (9, .long (lN (s % t))), (0, .ref (q 0)), (1, .long (lN o)), (3, .long (lN w))] dX12_fraction_26 (by decide) rfl ?_
        refine g_goto (tgt := 6) hC dX12_fraction_28 (by decide) ?_
        refine g_lv (lv' := [(5, .long (lN t)), (7, .long (lN (s % t))), (0, .ref (q 0)), (1, .long (lN o)), (3, .long (lN w))]) [1, 0, 3, 4, 5] rfl ?_
        exact ih_6 t (s % t) (ht) (Nat.lt_trans (Nat.mod_lt _ (by omega)) ht) (by rw [gcd_s, hg]) ((by have := Nat.mod_lt s (show t > 0 by omega); omega))
  refine g_lv (lv' := [(5, .long (lN o)), (7, .long (lN w)), (0, .ref (q 0)), (1, .long (lN o)), (3, .long (lN w))]) [1, 0, 2, 3, 4] rfl ?_
  exact L_6 (w + 1) o w (ho) (hw) (rfl) (Nat.lt_succ_self _)
set_option maxHeartbeats 4000000 in
set_option maxRecDepth 100000 in
theorem f_X12_owes_none (l : Launch) (E : Ew) (q : Nat → Nat) (ab : Int64) (be : Int64) (fe : Int32) (fc : Int32) (mo : Int32) (bl : Int32) (ta : Int32) (tl : Int32) (tkn : Int32) (va : Int32) (a : Nat → Int32) (r : Nat → Int32) (g : Nat → Int32) (n : Nat) (p : Nat) (hn : a 0 = nI n) (hn7 : n ≤ 7) (hp : p < n) (hm : a (5 + p) = -1) : Fn l E 3 yX12_owes cX12_owes 3 (some .int) [.ref (q 0), .int (nI p)] [(q 0, .inr (12, oM q ab be fe fc mo bl ta tl tkn va)), (q 1, .inl (E.2.1 0, 188, .inl a)), (q 4, .inl (E.2.1 0, 3, .inl r)), (q 5, .inl (E.2.1 0, 7, .inl g))] (some (.int (nI 1))) [(q 0, .inr (12, oM q (lN 0) (lN 1) fe fc mo bl ta tl tkn va)), (q 1, .inl (E.2.1 0, 188, .inl a)), (q 4, .inl (E.2.1 0, 3, .inl r)), (q 5, .inl (E.2.1 0, 7, .inl (hnd a g n)))] := by
  refine fn_I (by decide) (Nat.le_of_ble_eq_true rfl) rfl ?_
  intro K hC hR
  show G K E 3 [(q 0, .inr (12, oM q ab be fe fc mo bl ta tl tkn va)), (q 1, .inl (E.2.1 0, 188, .inl a)), (q 4, .inl (E.2.1 0, 3, .inl r)), (q 5, .inl (E.2.1 0, 7, .inl g))] [(0, .ref (q 0)), (1, .int (nI p))] 0 []
  refine g_aload_n hC dX12_owes_0 rfl 0 rfl ?_
  refine g_iload_n hC dX12_owes_1 rfl 1 rfl ?_
  refine g_callV hC (f_X12_isOne (kl K) E q ab be fe fc mo bl ta tl tkn va a n (nI p) (hn) (by omega)) wX12_isOne m4_62 dX12_owes_2 [0, 1] [(q 0, .inr (12, oM q ab be fe fc mo bl ta tl tkn va)), (q 1, .inl (E.2.1 0, 188, .inl a)), (q 4, .inl (E.2.1 0, 3, .inl r)), (q 5, .inl (E.2.1 0, 7, .inl g))] 0 12 rfl rfl (by decide) rfl (Nat.le_of_ble_eq_true rfl) rfl rfl rfl rfl rfl ?_
  refine g_if_neB (tgt := 15) hC dX12_owes_5 (by decide) (fun h_5 => ?_) (fun h_5 => ?_)
  · refine g_aload_n hC dX12_owes_15 rfl 0 rfl ?_
    refine g_get hC 0 12 0 inX12 m3_208 dX12_owes_16 rfl rfl (by decide) rfl ?_
    refine g_iconst (v := (nI 5)) hC dX12_owes_19 (by decide) ?_
    refine g_iload_n hC dX12_owes_20 rfl 1 rfl ?_
    refine g_iaddN hC dX12_owes_21 ?_
    refine g_ialdN hC 1 dX12_owes_22 rfl (by decide) (by omega) ?_
    refine g_istore_n hC [(2, .int (a (5 + p))), (0, .ref (q 0)), (1, .int (nI p))] dX12_owes_23 rfl (by decide) rfl ?_
    refine g_aload_n hC dX12_owes_24 rfl 1 rfl ?_
    refine g_callV hC (f_X12_layHand (kl K) E q ab be fe fc mo bl ta tl tkn va a g n (hn) (hn7)) wX12_layHand m4_70 dX12_owes_25 [0, 1, 3] [(q 0, .inr (12, oM q ab be fe fc mo bl ta tl tkn va)), (q 1, .inl (E.2.1 0, 188, .inl a)), (q 4, .inl (E.2.1 0, 3, .inl r)), (q 5, .inl (E.2.1 0, 7, .inl (hnd a g n)))] 0 12 rfl rfl (by decide) rfl (Nat.le_of_ble_eq_true rfl) rfl rfl rfl rfl rfl ?_
    refine g_iload_n hC dX12_owes_28 rfl 0 rfl ?_
    refine g_iconst (v := (-1)) hC dX12_owes_29 (by decide) ?_
    refine g_icmp_ne (tgt := 42) hC dX12_owes_30 (by decide) (fun h_30 => ?_) (fun h_30 => ?_)
    · exact absurd hm h_30
    · refine g_aload_n hC dX12_owes_33 rfl 1 rfl ?_
      refine g_lconst (v := 0) hC dX12_owes_34 (by decide) ?_
      refine g_val (v' := .long (lN 0)) (rfl) ?_
      refine g_lconst (v := 1) hC dX12_owes_35 (by decide) ?_
      refine g_val (v' := .long (lN 1)) (rfl) ?_
      refine g_callV hC (f_X12_fraction (kl K) E q ab be fe fc mo bl ta tl tkn va 0 1 (by omega) (by omega) (by omega)) wX12_fraction m4_176 dX12_owes_36 [0] [(q 0, .inr (12, oM q (lN (0 / Nat.gcd 0 1)) (lN (1 / Nat.gcd 0 1)) fe fc mo bl ta tl tkn va)), (q 1, .inl (E.2.1 0, 188, .inl a)), (q 4, .inl (E.2.1 0, 3, .inl r)), (q 5, .inl (E.2.1 0, 7, .inl (hnd a g n)))] 0 12 rfl rfl (by decide) rfl (Nat.le_of_ble_eq_true rfl) rfl rfl rfl rfl rfl ?_
      refine g_goto (tgt := 61) hC dX12_owes_39 (by decide) ?_
      refine g_iconst (v := (nI 1)) hC dX12_owes_61 (by decide) ?_
      exact g_val (rfl) (g_ws (rfl) (hR _ _ dX12_owes_62))
  · exact Bool.noConfusion ((inB_ok (by omega) (by omega)).symm.trans h_5)
set_option maxHeartbeats 4000000 in
set_option maxRecDepth 100000 in
theorem f_X12_owes_ok (l : Launch) (E : Ew) (q : Nat → Nat) (ab : Int64) (be : Int64) (fe : Int32) (fc : Int32) (mo : Int32) (bl : Int32) (ta : Int32) (tl : Int32) (tkn : Int32) (va : Int32) (a : Nat → Int32) (r : Nat → Int32) (g : Nat → Int32) (n : Nat) (p : Nat) (u : Nat) (m : Nat) (hn : a 0 = nI n) (hn7 : n ≤ 7) (hu : a 2 = nI u) (hu6 : u ≤ 6) (hdd : ∀ k, k < u → isN (a (26 + 2 * k + 1)) 61) (hp : p < n) (hm : a (5 + p) = nI m) (hmn : m < n) : Fn l E 3 yX12_owes cX12_owes 3 (some .int) [.ref (q 0), .int (nI p)] [(q 0, .inr (12, oM q ab be fe fc mo bl ta tl tkn va)), (q 1, .inl (E.2.1 0, 188, .inl a)), (q 4, .inl (E.2.1 0, 3, .inl r)), (q 5, .inl (E.2.1 0, 7, .inl g))] (some (.int (nI 1))) [(q 0, .inr (12, oM q (lN (pN a (nI m) u / Nat.gcd (pN a (nI m) u) (ct (BO a (nI m) n).testBit 31))) (lN (ct (BO a (nI m) n).testBit 31 / Nat.gcd (pN a (nI m) u) (ct (BO a (nI m) n).testBit 31))) fe fc mo bl ta tl tkn va)), (q 1, .inl (E.2.1 0, 188, .inl a)), (q 4, .inl (E.2.1 0, 3, .inl r)), (q 5, .inl (E.2.1 0, 7, .inl (hnd a g n)))] := by
  refine fn_I (by decide) (Nat.le_of_ble_eq_true rfl) rfl ?_
  intro K hC hR
  show G K E 3 [(q 0, .inr (12, oM q ab be fe fc mo bl ta tl tkn va)), (q 1, .inl (E.2.1 0, 188, .inl a)), (q 4, .inl (E.2.1 0, 3, .inl r)), (q 5, .inl (E.2.1 0, 7, .inl g))] [(0, .ref (q 0)), (1, .int (nI p))] 0 []
  have hbo : bo (hnd a g n) (nI m) n = BO a (nI m) n := bo_cong hnd5
  have hpn := pN_le (x := nI m) hdd
  have hct := ct_le (BO a (nI m) n).testBit 31
  have hc0 : 0 < ct (BO a (nI m) n).testBit 31 := by
    rw [BO, bo, ct_bs _ (by omega)]
    exact ct_pos hp (by simp [N5, hm])
  refine g_aload_n hC dX12_owes_0 rfl 0 rfl ?_
  refine g_iload_n hC dX12_owes_1 rfl 1 rfl ?_
  refine g_callV hC (f_X12_isOne (kl K) E q ab be fe fc mo bl ta tl tkn va a n (nI p) (hn) (by omega)) wX12_isOne m4_62 dX12_owes_2 [0, 1] [(q 0, .inr (12, oM q ab be fe fc mo bl ta tl tkn va)), (q 1, .inl (E.2.1 0, 188, .inl a)), (q 4, .inl (E.2.1 0, 3, .inl r)), (q 5, .inl (E.2.1 0, 7, .inl g))] 0 12 rfl rfl (by decide) rfl (Nat.le_of_ble_eq_true rfl) rfl rfl rfl rfl rfl ?_
  refine g_if_neB (tgt := 15) hC dX12_owes_5 (by decide) (fun h_5 => ?_) (fun h_5 => ?_)
  · refine g_aload_n hC dX12_owes_15 rfl 0 rfl ?_
    refine g_get hC 0 12 0 inX12 m3_208 dX12_owes_16 rfl rfl (by decide) rfl ?_
    refine g_iconst (v := (nI 5)) hC dX12_owes_19 (by decide) ?_
    refine g_iload_n hC dX12_owes_20 rfl 1 rfl ?_
    refine g_iaddN hC dX12_owes_21 ?_
    refine g_ialdN hC 1 dX12_owes_22 rfl (by decide) (by omega) ?_
    refine g_val (v' := .int (nI m)) (by rw [hm]) ?_
    refine g_istore_n hC [(2, .int (nI m)), (0, .ref (q 0)), (1, .int (nI p))] dX12_owes_23 rfl (by decide) rfl ?_
    refine g_aload_n hC dX12_owes_24 rfl 1 rfl ?_
    refine g_callV hC (f_X12_layHand (kl K) E q ab be fe fc mo bl ta tl tkn va a g n (hn) (hn7)) wX12_layHand m4_70 dX12_owes_25 [0, 1, 3] [(q 0, .inr (12, oM q ab be fe fc mo bl ta tl tkn va)), (q 1, .inl (E.2.1 0, 188, .inl a)), (q 4, .inl (E.2.1 0, 3, .inl r)), (q 5, .inl (E.2.1 0, 7, .inl (hnd a g n)))] 0 12 rfl rfl (by decide) rfl (Nat.le_of_ble_eq_true rfl) rfl rfl rfl rfl rfl ?_
    refine g_iload_n hC dX12_owes_28 rfl 0 rfl ?_
    refine g_iconst (v := (-1)) hC dX12_owes_29 (by decide) ?_
    refine g_icmp_ne (tgt := 42) hC dX12_owes_30 (by decide) (fun h_30 => ?_) (fun h_30 => ?_)
    · refine g_aload_n hC dX12_owes_42 rfl 1 rfl ?_
      refine g_aload_n hC dX12_owes_43 rfl 1 rfl ?_
      refine g_iload_n hC dX12_owes_44 rfl 0 rfl ?_
      refine g_callV hC (f_X12_penceOn (kl K) E q ab be fe fc mo bl ta tl tkn va a u (nI m) (hu) (by omega) (hdd)) wX12_penceOn m4_180 dX12_owes_45 [0, 1] [(q 0, .inr (12, oM q ab be fe fc mo bl ta tl tkn va)), (q 1, .inl (E.2.1 0, 188, .inl a)), (q 4, .inl (E.2.1 0, 3, .inl r)), (q 5, .inl (E.2.1 0, 7, .inl (hnd a g n)))] 0 12 rfl rfl (by decide) rfl (Nat.le_of_ble_eq_true rfl) rfl rfl rfl rfl rfl ?_
      refine g_i2l hC dX12_owes_48 ?_
      refine g_val (v' := .long (lN (pN a (nI m) u))) (by rw [nI_l (by omega)]) ?_
      refine g_aload_n hC dX12_owes_49 rfl 1 rfl ?_
      refine g_iload_n hC dX12_owes_50 rfl 0 rfl ?_
      refine g_callV hC (f_X12_bearersOf (kl K) E q ab be fe fc mo bl ta tl tkn va a (hnd a g n) n (nI m) (hn) (hn7)) wX12_bearersOf m4_82 dX12_owes_51 [0, 1, 3] [(q 0, .inr (12, oM q ab be fe fc mo bl ta tl tkn va)), (q 1, .inl (E.2.1 0, 188, .inl a)), (q 4, .inl (E.2.1 0, 3, .inl r)), (q 5, .inl (E.2.1 0, 7, .inl (hnd a g n)))] 0 12 rfl rfl (by decide) rfl (Nat.le_of_ble_eq_true rfl) rfl rfl rfl rfl rfl ?_
      refine g_callS hC (f_X12_bits (kl K) E (bo (hnd a g n) (nI m) n) (bs_lt' _ (m := 31) (by omega))) wX12_bits m4_132 dX12_owes_54 [] [(q 0, .inr (12, oM q ab be fe fc mo bl ta tl tkn va)), (q 1, .inl (E.2.1 0, 188, .inl a)), (q 4, .inl (E.2.1 0, 3, .inl r)), (q 5, .inl (E.2.1 0, 7, .inl (hnd a g n)))] (by decide) rfl (Nat.le_of_ble_eq_true rfl) rfl rfl rfl rfl rfl ?_
      refine g_i2l hC dX12_owes_57 ?_
      refine g_val (v' := .long (lN (ct (BO a (nI m) n).testBit 31))) (by rw [hbo, nI_l (by omega)]) ?_
      refine g_callV hC (f_X12_fraction (kl K) E q ab be fe fc mo bl ta tl tkn va (pN a (nI m) u) (ct (BO a (nI m) n).testBit 31) (by omega) (by omega) (by omega)) wX12_fraction m4_176 dX12_owes_58 [0] [(q 0, .inr (12, oM q (lN ((pN a (nI m) u) / Nat.gcd (pN a (nI m) u) (ct (BO a (nI m) n).testBit 31))) (lN ((ct (BO a (nI m) n).testBit 31) / Nat.gcd (pN a (nI m) u) (ct (BO a (nI m) n).testBit 31))) fe fc mo bl ta tl tkn va)), (q 1, .inl (E.2.1 0, 188, .inl a)), (q 4, .inl (E.2.1 0, 3, .inl r)), (q 5, .inl (E.2.1 0, 7, .inl (hnd a g n)))] 0 12 rfl rfl (by decide) rfl (Nat.le_of_ble_eq_true rfl) rfl rfl rfl rfl rfl ?_
      refine g_iconst (v := (nI 1)) hC dX12_owes_61 (by decide) ?_
      exact g_val (rfl) (g_ws (rfl) (hR _ _ dX12_owes_62))
    · exact absurd h_30 (nI_m1 (by omega))
  · exact Bool.noConfusion ((inB_ok (by omega) (by omega)).symm.trans h_5)
set_option maxHeartbeats 4000000 in
set_option maxRecDepth 100000 in
theorem f_X12_owes_bad (l : Launch) (E : Ew) (q : Nat → Nat) (ab : Int64) (be : Int64) (fe : Int32) (fc : Int32) (mo : Int32) (bl : Int32) (ta : Int32) (tl : Int32) (tkn : Int32) (va : Int32) (a : Nat → Int32) (r : Nat → Int32) (n : Nat) (p : Int32) (hn : a 0 = nI n) (hn7 : n ≤ 7) (hb : inB p n = false) : Fn l E 2 yX12_owes cX12_owes 3 (some .int) [.ref (q 0), .int p] [(q 0, .inr (12, oM q ab be fe fc mo bl ta tl tkn va)), (q 1, .inl (E.2.1 0, 188, .inl a)), (q 4, .inl (E.2.1 0, 3, .inl r))] (some (.int (-2))) [(q 0, .inr (12, oM q ab be fe fc mo bl ta tl tkn va)), (q 1, .inl (E.2.1 0, 188, .inl a)), (q 4, .inl (E.2.1 0, 3, .inl (upd r 0 (r 0 + nI 1))))] := by
  refine fn_I (by decide) (Nat.le_of_ble_eq_true rfl) rfl ?_
  intro K hC hR
  show G K E 3 [(q 0, .inr (12, oM q ab be fe fc mo bl ta tl tkn va)), (q 1, .inl (E.2.1 0, 188, .inl a)), (q 4, .inl (E.2.1 0, 3, .inl r))] [(0, .ref (q 0)), (1, .int p)] 0 []
  refine g_aload_n hC dX12_owes_0 rfl 0 rfl ?_
  refine g_iload_n hC dX12_owes_1 rfl 1 rfl ?_
  refine g_callV hC (f_X12_isOne (kl K) E q ab be fe fc mo bl ta tl tkn va a n p (hn) (by omega)) wX12_isOne m4_62 dX12_owes_2 [0, 1] [(q 0, .inr (12, oM q ab be fe fc mo bl ta tl tkn va)), (q 1, .inl (E.2.1 0, 188, .inl a)), (q 4, .inl (E.2.1 0, 3, .inl r))] 0 12 rfl rfl (by decide) rfl (Nat.le_of_ble_eq_true rfl) rfl rfl rfl rfl rfl ?_
  refine g_if_neB (tgt := 15) hC dX12_owes_5 (by decide) (fun h_5 => ?_) (fun h_5 => ?_)
  · exact absurd h_5 (by rw [hb]; decide)
  · refine g_aload_n hC dX12_owes_8 rfl 0 rfl ?_
    refine g_bipush (v := (-2)) hC dX12_owes_9 (by decide) ?_
    refine g_callV hC (f_X12_bad (kl K) E q ab be fe fc mo bl ta tl tkn va r (-2)) wX12_bad m4_34 dX12_owes_11 [0, 2] [(q 0, .inr (12, oM q ab be fe fc mo bl ta tl tkn va)), (q 1, .inl (E.2.1 0, 188, .inl a)), (q 4, .inl (E.2.1 0, 3, .inl (upd r 0 (r 0 + nI 1))))] 0 12 rfl rfl (by decide) rfl (Nat.le_of_ble_eq_true rfl) rfl rfl rfl rfl rfl ?_
    exact g_val (rfl) (g_ws (rfl) (hR _ _ dX12_owes_14))
set_option maxHeartbeats 4000000 in
set_option maxRecDepth 100000 in
theorem f_X12_unpaid (l : Launch) (E : Ew) (q : Nat → Nat) (ab : Int64) (be : Int64) (fe : Int32) (fc : Int32) (mo : Int32) (bl : Int32) (ta : Int32) (tl : Int32) (tkn : Int32) (va : Int32) (a : Nat → Int32) (r : Nat → Int32) (g : Nat → Int32) (n : Nat) (u : Nat) (hn : a 0 = nI n) (hn7 : n ≤ 7) (hu : a 2 = nI u) (hu6 : u ≤ 6) (hdd : ∀ k, k < u → isN (a (26 + 2 * k + 1)) 61) : Fn l E 2 yX12_unpaid cX12_unpaid 3 (some .int) [.ref (q 0)] [(q 0, .inr (12, oM q ab be fe fc mo bl ta tl tkn va)), (q 1, .inl (E.2.1 0, 188, .inl a)), (q 4, .inl (E.2.1 0, 3, .inl r)), (q 5, .inl (E.2.1 0, 7, .inl g))] (some (.int (nI (unF a n u n)))) [(q 0, .inr (12, oM q ab be fe fc mo bl ta tl tkn va)), (q 1, .inl (E.2.1 0, 188, .inl a)), (q 4, .inl (E.2.1 0, 3, .inl r)), (q 5, .inl (E.2.1 0, 7, .inl (hnd a g n)))] := by
  refine fn_I (by decide) (Nat.le_of_ble_eq_true rfl) rfl ?_
  intro K hC hR
  show G K E 3 [(q 0, .inr (12, oM q ab be fe fc mo bl ta tl tkn va)), (q 1, .inl (E.2.1 0, 188, .inl a)), (q 4, .inl (E.2.1 0, 3, .inl r)), (q 5, .inl (E.2.1 0, 7, .inl g))] [(0, .ref (q 0))] 0 []
  refine g_iconst (v := (nI 0)) hC dX12_unpaid_0 (by decide) ?_
  refine g_istore_n hC [(1, .int (nI 0)), (0, .ref (q 0))] dX12_unpaid_1 rfl (by decide) rfl ?_
  refine g_aload_n hC dX12_unpaid_2 rfl 1 rfl ?_
  refine g_callV hC (f_X12_layHand (kl K) E q ab be fe fc mo bl ta tl tkn va a g n (hn) (hn7)) wX12_layHand m4_70 dX12_unpaid_3 [0, 1, 3] [(q 0, .inr (12, oM q ab be fe fc mo bl ta tl tkn va)), (q 1, .inl (E.2.1 0, 188, .inl a)), (q 4, .inl (E.2.1 0, 3, .inl r)), (q 5, .inl (E.2.1 0, 7, .inl (hnd a g n)))] 0 12 rfl rfl (by decide) rfl (Nat.le_of_ble_eq_true rfl) rfl rfl rfl rfl rfl ?_
  refine g_iconst (v := (nI 0)) hC dX12_unpaid_6 (by decide) ?_
  refine g_istore_n hC [(2, .int (nI 0)), (1, .int (nI 0)), (0, .ref (q 0))] dX12_unpaid_7 rfl (by decide) rfl ?_
  have L_8 : ∀ (fu : Nat) (k : Nat) (hk : k ≤ n), n - k < fu → G K E 3 [(q 0, .inr (12, oM q ab be fe fc mo bl ta tl tkn va)), (q 1, .inl (E.2.1 0, 188, .inl a)), (q 4, .inl (E.2.1 0, 3, .inl r)), (q 5, .inl (E.2.1 0, 7, .inl (hnd a g n)))] [(2, .int (nI k)), (1, .int (nI (unF a n u k))), (0, .ref (q 0))] 8 [] := by
    intro fu
    induction fu with
    | zero => intro k hk hm_8; exact absurd hm_8 (Nat.not_lt_zero _)
    | succ fu ih_8 =>
      intro k hk hm_8
      have hbo : bo (hnd a g n) (nI k) n = BO a (nI k) n := bo_cong hnd5
      have hbl : bo (hnd a g n) (nI k) n < 2147483648 := bs_lt' _ (m := 31) (by omega)
      refine g_iload_n hC dX12_unpaid_8 rfl 0 rfl ?_
      refine g_aload_n hC dX12_unpaid_9 rfl 2 rfl ?_
      refine g_callV hC (f_X12_many (kl K) E q ab be fe fc mo bl ta tl tkn va a) wX12_many m4_38 dX12_unpaid_10 [0, 1] [(q 0, .inr (12, oM q ab be fe fc mo bl ta tl tkn va)), (q 1, .inl (E.2.1 0, 188, .inl a)), (q 4, .inl (E.2.1 0, 3, .inl r)), (q 5, .inl (E.2.1 0, 7, .inl (hnd a g n)))] 0 12 rfl rfl (by decide) rfl (Nat.le_of_ble_eq_true rfl) rfl rfl rfl rfl rfl ?_
      refine g_val (v' := .int (nI n)) (by rw [hn]) ?_
      refine g_icmp_geN (tgt := 42) hC dX12_unpaid_13 (by decide) (by omega) (by omega) (fun h_13 => ?_) (fun h_13 => ?_)
      · refine g_iload_n hC dX12_unpaid_42 rfl 1 rfl ?_
        exact g_val (by rw [show k = n by omega]) (g_ws (rfl) (hR _ _ dX12_unpaid_43))
      · refine g_iload_n hC dX12_unpaid_16 rfl 1 rfl ?_
        refine g_aload_n hC dX12_unpaid_17 rfl 2 rfl ?_
        refine g_iload_n hC dX12_unpaid_18 rfl 0 rfl ?_
        refine g_callV hC (f_X12_bearersOf (kl K) E q ab be fe fc mo bl ta tl tkn va a (hnd a g n) n (nI k) (hn) (hn7)) wX12_bearersOf m4_82 dX12_unpaid_19 [0, 1, 3] [(q 0, .inr (12, oM q ab be fe fc mo bl ta tl tkn va)), (q 1, .inl (E.2.1 0, 188, .inl a)), (q 4, .inl (E.2.1 0, 3, .inl r)), (q 5, .inl (E.2.1 0, 7, .inl (hnd a g n)))] 0 12 rfl rfl (by decide) rfl (Nat.le_of_ble_eq_true rfl) rfl rfl rfl rfl rfl ?_
        refine g_if_neN (tgt := 33) hC dX12_unpaid_22 (by decide) (by omega) (fun h_22 => ?_) (fun h_22 => ?_)
        · refine g_iconst (v := (nI 0)) hC dX12_unpaid_33 (by decide) ?_
          refine g_iaddN hC dX12_unpaid_34 ?_
          refine g_istore_n hC [(1, .int (nI (unF a n u k + 0))), (2, .int (nI k)), (0, .ref (q 0))] dX12_unpaid_35 rfl (by decide) rfl ?_
          refine g_iincN hC (q := 1) 1 [(2, .int (nI (k + 1))), (1, .int (nI (unF a n u k + 0))), (0, .ref (q 0))] dX12_unpaid_36 rfl rfl (by decide) rfl ?_
          refine g_goto (tgt := 8) hC dX12_unpaid_39 (by decide) ?_
          refine g_lv (lv' := [(2, .int (nI (k + 1))), (1, .int (nI (unF a n u k + 0))), (0, .ref (q 0))]) [0, 1, 2] rfl ?_
          refine g_lve (lv' := [(2, .int (nI (k + 1))), (1, .int (nI (unF a n u (k + 1)))), (0, .ref (q 0))]) (by simp [unF, ← hbo, h_13, h_22]) ?_
          exact ih_8 (k + 1) (by omega) (by omega)
        · refine g_aload_n hC dX12_unpaid_25 rfl 2 rfl ?_
          refine g_iload_n hC dX12_unpaid_26 rfl 0 rfl ?_
          refine g_callV hC (f_X12_penceOn (kl K) E q ab be fe fc mo bl ta tl tkn va a u (nI k) (hu) (by omega) (hdd)) wX12_penceOn m4_180 dX12_unpaid_27 [0, 1] [(q 0, .inr (12, oM q ab be fe fc mo bl ta tl tkn va)), (q 1, .inl (E.2.1 0, 188, .inl a)), (q 4, .inl (E.2.1 0, 3, .inl r)), (q 5, .inl (E.2.1 0, 7, .inl (hnd a g n)))] 0 12 rfl rfl (by decide) rfl (Nat.le_of_ble_eq_true rfl) rfl rfl rfl rfl rfl ?_
          refine g_goto (tgt := 34) hC dX12_unpaid_30 (by decide) ?_
          refine g_iaddN hC dX12_unpaid_34 ?_
          refine g_istore_n hC [(1, .int (nI (unF a n u k + pN a (nI k) u))), (2, .int (nI k)), (0, .ref (q 0))] dX12_unpaid_35 rfl (by decide) rfl ?_
          refine g_iincN hC (q := 1) 1 [(2, .int (nI (k + 1))), (1, .int (nI (unF a n u k + pN a (nI k) u))), (0, .ref (q 0))] dX12_unpaid_36 rfl rfl (by decide) rfl ?_
          refine g_goto (tgt := 8) hC dX12_unpaid_39 (by decide) ?_
          refine g_lv (lv' := [(2, .int (nI (k + 1))), (1, .int (nI (unF a n u k + pN a (nI k) u))), (0, .ref (q 0))]) [0, 1, 2] rfl ?_
          refine g_lve (lv' := [(2, .int (nI (k + 1))), (1, .int (nI (unF a n u (k + 1)))), (0, .ref (q 0))]) (by simp [unF, ← hbo, h_13, h_22]) ?_
          exact ih_8 (k + 1) (by omega) (by omega)
  refine g_lv (lv' := [(2, .int (nI 0)), (1, .int (nI 0)), (0, .ref (q 0))]) [0, 1, 2] rfl ?_
  refine g_lve (lv' := [(2, .int (nI 0)), (1, .int (nI (unF a n u 0))), (0, .ref (q 0))]) (rfl) ?_
  exact L_8 ((n - 0) + 1) 0 (by omega) (Nat.lt_succ_self _)
set_option maxHeartbeats 4000000 in
set_option maxRecDepth 100000 in
theorem f_X12_ears_ok (l : Launch) (E : Ew) (q : Nat → Nat) (ab : Int64) (be : Int64) (fe : Int32) (fc : Int32) (mo : Int32) (bl : Int32) (ta : Int32) (tl : Int32) (tkn : Int32) (va : Int32) (a : Nat → Int32) (r : Nat → Int32) (g : Nat → Int32) (f : Nat → Int32) (n : Nat) (p1 : Nat) (p2 : Nat) (x : Nat) (pl : Nat) (hn : a 0 = nI n) (hn7 : n ≤ 7) (hpk : ∀ p, p < n → isN (a (12 + p)) 10 ∧ isN (a (19 + p)) 6) (h1 : p1 < n) (h2 : p2 < n) (hne : p1 ≠ p2) (hx : x < n) (hpl : pl < 10) : Fe l E 4 yX12_ears cX12_ears 9 (some .int) [.ref (q 0), .int (nI p1), .int (nI p2), .int (nI x), .int (nI pl)] [(q 0, .inr (12, oM q ab be fe fc mo bl ta tl tkn va)), (q 1, .inl (E.2.1 0, 188, .inl a)), (q 4, .inl (E.2.1 0, 3, .inl r)), (q 5, .inl (E.2.1 0, 7, .inl g)), (q 6, .inl (E.2.1 0, 4, .inl f))] (some (.int (nI (bs (eB a p1 p2 x pl n) 4)))) (fun jj => [(q 0, .inr (12, oM q ab be fe fc mo bl ta tl tkn va)), (q 1, .inl (E.2.1 0, 188, .inl a)), (q 4, .inl (E.2.1 0, 3, .inl r)), (q 5, .inl (E.2.1 0, 7, .inl (jj 0))), (q 6, .inl (E.2.1 0, 4, .inl (jj 1)))]) := by
  refine fe_I (by decide) (Nat.le_of_ble_eq_true rfl) (fun _ => rfl) ?_
  intro K hC hR
  show G K E 9 [(q 0, .inr (12, oM q ab be fe fc mo bl ta tl tkn va)), (q 1, .inl (E.2.1 0, 188, .inl a)), (q 4, .inl (E.2.1 0, 3, .inl r)), (q 5, .inl (E.2.1 0, 7, .inl g)), (q 6, .inl (E.2.1 0, 4, .inl f))] [(0, .ref (q 0)), (1, .int (nI p1)), (2, .int (nI p2)), (3, .int (nI x)), (4, .int (nI pl))] 0 []
  have hTS : ∀ gg : Nat → Int32, tS a (hnd a gg n) (nI x) pl n = TS a (nI x) pl n := fun gg => tS_cong (fun _ _ => ⟨rfl, rfl⟩) rfl hnd5
  have hTl : TS a (nI x) pl n < 2147483648 := bs_lt' _ (m := 31) (by omega)
  have hbo : ∀ (gg : Nat → Int32) (w : Nat), bo (gT (hnd a gg n) (nI x) w n) (nI x) n = bo (gT (N5 a) (nI x) w n) (nI x) n := fun gg w => bo_cong (gT_cong hnd5)
  have hel : ∀ w, eb a p1 p2 x pl n w < 2147483648 := fun w => bs_lt' _ (m := 31) (by omega)
  refine g_aload_n hC dX12_ears_0 rfl 0 rfl ?_
  refine g_iload_n hC dX12_ears_1 rfl 1 rfl ?_
  refine g_callV hC (f_X12_isOne (kl K) E q ab be fe fc mo bl ta tl tkn va a n (nI p1) (hn) (by omega)) wX12_isOne m4_62 dX12_ears_2 [0, 1] [(q 0, .inr (12, oM q ab be fe fc mo bl ta tl tkn va)), (q 1, .inl (E.2.1 0, 188, .inl a)), (q 4, .inl (E.2.1 0, 3, .inl r)), (q 5, .inl (E.2.1 0, 7, .inl g)), (q 6, .inl (E.2.1 0, 4, .inl f))] 0 12 rfl rfl (by decide) rfl (Nat.le_of_ble_eq_true rfl) rfl rfl rfl rfl rfl ?_
  refine g_if_eqB (tgt := 37) hC dX12_ears_5 (by decide) (fun h_5 => ?_) (fun h_5 => ?_)
  · exact Bool.noConfusion ((inB_ok (by omega) (by omega)).symm.trans h_5)
  · refine g_aload_n hC dX12_ears_8 rfl 0 rfl ?_
    refine g_iload_n hC dX12_ears_9 rfl 2 rfl ?_
    refine g_callV hC (f_X12_isOne (kl K) E q ab be fe fc mo bl ta tl tkn va a n (nI p2) (hn) (by omega)) wX12_isOne m4_62 dX12_ears_10 [0, 1] [(q 0, .inr (12, oM q ab be fe fc mo bl ta tl tkn va)), (q 1, .inl (E.2.1 0, 188, .inl a)), (q 4, .inl (E.2.1 0, 3, .inl r)), (q 5, .inl (E.2.1 0, 7, .inl g)), (q 6, .inl (E.2.1 0, 4, .inl f))] 0 12 rfl rfl (by decide) rfl (Nat.le_of_ble_eq_true rfl) rfl rfl rfl rfl rfl ?_
    refine g_if_eqB (tgt := 37) hC dX12_ears_13 (by decide) (fun h_13 => ?_) (fun h_13 => ?_)
    · exact Bool.noConfusion ((inB_ok (by omega) (by omega)).symm.trans h_13)
    · refine g_iload_n hC dX12_ears_16 rfl 1 rfl ?_
      refine g_iload_n hC dX12_ears_17 rfl 2 rfl ?_
      refine g_icmp_eqN (tgt := 37) hC dX12_ears_18 (by decide) (by omega) (by omega) (fun h_18 => ?_) (fun h_18 => ?_)
      · omega
      · refine g_aload_n hC dX12_ears_21 rfl 0 rfl ?_
        refine g_iload_n hC dX12_ears_22 rfl 3 rfl ?_
        refine g_callV hC (f_X12_isOne (kl K) E q ab be fe fc mo bl ta tl tkn va a n (nI x) (hn) (by omega)) wX12_isOne m4_62 dX12_ears_23 [0, 1] [(q 0, .inr (12, oM q ab be fe fc mo bl ta tl tkn va)), (q 1, .inl (E.2.1 0, 188, .inl a)), (q 4, .inl (E.2.1 0, 3, .inl r)), (q 5, .inl (E.2.1 0, 7, .inl g)), (q 6, .inl (E.2.1 0, 4, .inl f))] 0 12 rfl rfl (by decide) rfl (Nat.le_of_ble_eq_true rfl) rfl rfl rfl rfl rfl ?_
        refine g_if_eqB (tgt := 37) hC dX12_ears_26 (by decide) (fun h_26 => ?_) (fun h_26 => ?_)
        · exact Bool.noConfusion ((inB_ok (by omega) (by omega)).symm.trans h_26)
        · refine g_iload hC dX12_ears_29 4 rfl ?_
          refine g_callS hC (f_X12_isPlace (kl K) E (nI pl)) wX12_isPlace m4_47 dX12_ears_31 [] [(q 0, .inr (12, oM q ab be fe fc mo bl ta tl tkn va)), (q 1, .inl (E.2.1 0, 188, .inl a)), (q 4, .inl (E.2.1 0, 3, .inl r)), (q 5, .inl (E.2.1 0, 7, .inl g)), (q 6, .inl (E.2.1 0, 4, .inl f))] (by decide) rfl (Nat.le_of_ble_eq_true rfl) rfl rfl rfl rfl rfl ?_
          refine g_if_neB (tgt := 44) hC dX12_ears_34 (by decide) (fun h_34 => ?_) (fun h_34 => ?_)
          · refine g_iconst (v := (nI 0)) hC dX12_ears_44 (by decide) ?_
            refine g_istore hC [(5, .int (nI 0)), (0, .ref (q 0)), (1, .int (nI p1)), (2, .int (nI p2)), (3, .int (nI x)), (4, .int (nI pl))] dX12_ears_45 (by decide) rfl ?_
            have L_47 : ∀ (fu : Nat) (k : Nat) (gg : Nat → Int32) (hk : k ≤ 4), 4 - k < fu → G K E 9 [(q 0, .inr (12, oM q ab be fe fc mo bl ta tl tkn va)), (q 1, .inl (E.2.1 0, 188, .inl a)), (q 4, .inl (E.2.1 0, 3, .inl r)), (q 5, .inl (E.2.1 0, 7, .inl gg)), (q 6, .inl (E.2.1 0, 4, .inl (fun j => if j < k then nI (eb a p1 p2 x pl n j) else f j)))] [(5, .int (nI k)), (0, .ref (q 0)), (1, .int (nI p1)), (2, .int (nI p2)), (3, .int (nI x)), (4, .int (nI pl))] 47 [] := by
              intro fu
              induction fu with
              | zero => intro k gg hk hm_47; exact absurd hm_47 (Nat.not_lt_zero _)
              | succ fu ih_47 =>
                intro k gg hk hm_47
                refine g_iload hC dX12_ears_47 0 rfl ?_
                refine g_iconst (v := (nI 4)) hC dX12_ears_49 (by decide) ?_
                refine g_icmp_geN (tgt := 105) hC dX12_ears_50 (by decide) (by omega) (by omega) (fun h_50 => ?_) (fun h_50 => ?_)
                · refine g_iconst (v := (nI 0)) hC dX12_ears_105 (by decide) ?_
                  refine g_istore hC [(5, .int (nI 0)), (0, .ref (q 0)), (1, .int (nI p1)), (2, .int (nI p2)), (3, .int (nI x)), (4, .int (nI pl))] dX12_ears_106 (by decide) rfl ?_
                  refine g_iconst (v := (nI 0)) hC dX12_ears_108 (by decide) ?_
                  refine g_istore hC [(6, .int (nI 0)), (5, .int (nI 0)), (0, .ref (q 0)), (1, .int (nI p1)), (2, .int (nI p2)), (3, .int (nI x)), (4, .int (nI pl))] dX12_ears_109 (by decide) rfl ?_
                  have L_111 : ∀ (fu : Nat) (k : Nat) (gg : Nat → Int32) (fb : Nat → Int32) (hk : k ≤ 4) (hfb : ∀ j, j < 4 → fb j = nI (eb a p1 p2 x pl n j)), 4 - k < fu → G K E 9 [(q 0, .inr (12, oM q ab be fe fc mo bl ta tl tkn va)), (q 1, .inl (E.2.1 0, 188, .inl a)), (q 4, .inl (E.2.1 0, 3, .inl r)), (q 5, .inl (E.2.1 0, 7, .inl gg)), (q 6, .inl (E.2.1 0, 4, .inl fb))] [(6, .int (nI k)), (5, .int (nI (bs (eB a p1 p2 x pl n) k))), (0, .ref (q 0)), (1, .int (nI p1)), (2, .int (nI p2))] 111 [] := by
                    intro fu
                    induction fu with
                    | zero => intro k gg fb hk hfb hm_111; exact absurd hm_111 (Nat.not_lt_zero _)
                    | succ fu ih_111 =>
                      intro k gg fb hk hfb hm_111
                      refine g_iload hC dX12_ears_111 0 rfl ?_
                      refine g_iconst (v := (nI 4)) hC dX12_ears_113 (by decide) ?_
                      refine g_icmp_geN (tgt := 220) hC dX12_ears_114 (by decide) (by omega) (by omega) (fun h_114 => ?_) (fun h_114 => ?_)
                      · refine g_iload hC dX12_ears_220 1 rfl ?_
                        exact g_val (by rw [show k = 4 by omega]) (g_ws (rfl) (hR (fun i => if i = 0 then gg else fb) _ _ dX12_ears_222))
                      · refine g_aload_n hC dX12_ears_117 rfl 2 rfl ?_
                        refine g_get hC 0 12 10 inX12 m3_218 dX12_ears_118 rfl rfl (by decide) rfl ?_
                        refine g_iload hC dX12_ears_121 0 rfl ?_
                        refine g_ialdN hC 4 dX12_ears_123 rfl (by decide) (by omega) ?_
                        refine g_val (v' := .int (nI (eb a p1 p2 x pl n k))) (by rw [hfb k (by omega)]) ?_
                        refine g_iload_n hC dX12_ears_124 rfl 3 rfl ?_
                        refine g_callS hC (f_X12_has (kl K) E (eb a p1 p2 x pl n k) p1 (hel _) (by omega)) wX12_has m4_89 dX12_ears_125 [] [(q 0, .inr (12, oM q ab be fe fc mo bl ta tl tkn va)), (q 1, .inl (E.2.1 0, 188, .inl a)), (q 4, .inl (E.2.1 0, 3, .inl r)), (q 5, .inl (E.2.1 0, 7, .inl gg)), (q 6, .inl (E.2.1 0, 4, .inl fb))] (by decide) rfl (Nat.le_of_ble_eq_true rfl) rfl rfl rfl rfl rfl ?_
                        refine g_if_neB (tgt := 147) hC dX12_ears_128 (by decide) (fun h_128 => ?_) (fun h_128 => ?_)
                        · refine g_iconst (v := (nI 1)) hC dX12_ears_147 (by decide) ?_
                          refine g_goto (tgt := 152) hC dX12_ears_148 (by decide) ?_
                          refine g_istore hC [(7, .int (nI 1)), (6, .int (nI k)), (5, .int (nI (bs (eB a p1 p2 x pl n) k))), (0, .ref (q 0)), (1, .int (nI p1)), (2, .int (nI p2))] dX12_ears_152 (by decide) rfl ?_
                          refine g_aload_n hC dX12_ears_154 rfl 3 rfl ?_
                          refine g_get hC 0 12 10 inX12 m3_218 dX12_ears_155 rfl rfl (by decide) rfl ?_
                          refine g_iload hC dX12_ears_158 1 rfl ?_
                          refine g_ialdN hC 4 dX12_ears_160 rfl (by decide) (by omega) ?_
                          refine g_val (v' := .int (nI (eb a p1 p2 x pl n k))) (by rw [hfb k (by omega)]) ?_
                          refine g_iload_n hC dX12_ears_161 rfl 5 rfl ?_
                          refine g_callS hC (f_X12_has (kl K) E (eb a p1 p2 x pl n k) p2 (hel _) (by omega)) wX12_has m4_89 dX12_ears_162 [] [(q 0, .inr (12, oM q ab be fe fc mo bl ta tl tkn va)), (q 1, .inl (E.2.1 0, 188, .inl a)), (q 4, .inl (E.2.1 0, 3, .inl r)), (q 5, .inl (E.2.1 0, 7, .inl gg)), (q 6, .inl (E.2.1 0, 4, .inl fb))] (by decide) rfl (Nat.le_of_ble_eq_true rfl) rfl rfl rfl rfl rfl ?_
                          refine g_if_neB (tgt := 184) hC dX12_ears_165 (by decide) (fun h_165 => ?_) (fun h_165 => ?_)
                          · refine g_iconst (v := (nI 1)) hC dX12_ears_184 (by decide) ?_
                            refine g_goto (tgt := 189) hC dX12_ears_185 (by decide) ?_
                            refine g_istore hC [(8, .int (nI 1)), (7, .int (nI 1)), (6, .int (nI k)), (5, .int (nI (bs (eB a p1 p2 x pl n) k))), (0, .ref (q 0)), (1, .int (nI p1)), (2, .int (nI p2))] dX12_ears_189 (by decide) rfl ?_
                            refine g_iload hC dX12_ears_191 3 rfl ?_
                            refine g_iload hC dX12_ears_193 1 rfl ?_
                            refine g_if_eqN (tgt := 210) hC dX12_ears_195 (by decide) (by omega) (fun h_195 => ?_) (fun h_195 => ?_)
                            · omega
                            · refine g_iload hC dX12_ears_198 0 rfl ?_
                              refine g_if_eqN (tgt := 210) hC dX12_ears_200 (by decide) (by omega) (fun h_200 => ?_) (fun h_200 => ?_)
                              · omega
                              · refine g_iconst (v := (nI 1)) hC dX12_ears_203 (by decide) ?_
                                refine g_iload hC dX12_ears_204 2 rfl ?_
                                refine g_ishl hC dX12_ears_206 ?_
                                refine g_goto (tgt := 211) hC dX12_ears_207 (by decide) ?_
                                refine g_ior hC dX12_ears_211 ?_
                                refine g_val (v' := .int (nI (bs (eB a p1 p2 x pl n) (k + 1)))) (by rw [bs_yes (by omega) (by simp [eB, h_5, h_13, h_18, h_26, h_34, h_50, h_114, h_128, h_165, h_195, h_200])]) ?_
                                refine g_istore hC [(5, .int (nI (bs (eB a p1 p2 x pl n) (k + 1)))), (8, .int (nI 1)), (7, .int (nI 1)), (6, .int (nI k)), (0, .ref (q 0)), (1, .int (nI p1)), (2, .int (nI p2))] dX12_ears_212 (by decide) rfl ?_
                                refine g_iincN hC (q := 3) 1 [(6, .int (nI (k + 1))), (5, .int (nI (bs (eB a p1 p2 x pl n) (k + 1)))), (8, .int (nI 1)), (7, .int (nI 1)), (0, .ref (q 0)), (1, .int (nI p1)), (2, .int (nI p2))] dX12_ears_214 rfl rfl (by decide) rfl ?_
                                refine g_goto (tgt := 111) hC dX12_ears_217 (by decide) ?_
                                refine g_lv (lv' := [(6, .int (nI (k + 1))), (5, .int (nI (bs (eB a p1 p2 x pl n) (k + 1)))), (0, .ref (q 0)), (1, .int (nI p1)), (2, .int (nI p2))]) [0, 1, 4, 5, 6] rfl ?_
                                exact ih_111 (k + 1) gg fb (by omega) (hfb) (by omega)
                          · refine g_aload_n hC dX12_ears_168 rfl 3 rfl ?_
                            refine g_get hC 0 12 10 inX12 m3_218 dX12_ears_169 rfl rfl (by decide) rfl ?_
                            refine g_iload hC dX12_ears_172 1 rfl ?_
                            refine g_iconst (v := (nI 2)) hC dX12_ears_174 (by decide) ?_
                            refine g_ixor hC dX12_ears_175 ?_
                            refine g_val (v' := .int (nI (k ^^^ 2))) (by rw [fb_xorI]) ?_
                            refine g_ialdN hC 4 dX12_ears_176 rfl (by decide) (xor_lt4 (by omega) (by decide)) ?_
                            refine g_val (v' := .int (nI (eb a p1 p2 x pl n (k ^^^ 2)))) (by rw [hfb _ (xor_lt4 (by omega) (by decide))]) ?_
                            refine g_iload_n hC dX12_ears_177 rfl 5 rfl ?_
                            refine g_callS hC (f_X12_has (kl K) E (eb a p1 p2 x pl n (k ^^^ 2)) p2 (hel _) (by omega)) wX12_has m4_89 dX12_ears_178 [] [(q 0, .inr (12, oM q ab be fe fc mo bl ta tl tkn va)), (q 1, .inl (E.2.1 0, 188, .inl a)), (q 4, .inl (E.2.1 0, 3, .inl r)), (q 5, .inl (E.2.1 0, 7, .inl gg)), (q 6, .inl (E.2.1 0, 4, .inl fb))] (by decide) rfl (Nat.le_of_ble_eq_true rfl) rfl rfl rfl rfl rfl ?_
                            refine g_if_neB (tgt := 188) hC dX12_ears_181 (by decide) (fun h_181 => ?_) (fun h_181 => ?_)
                            · refine g_iconst (v := (nI 0)) hC dX12_ears_188 (by decide) ?_
                              refine g_istore hC [(8, .int (nI 0)), (7, .int (nI 1)), (6, .int (nI k)), (5, .int (nI (bs (eB a p1 p2 x pl n) k))), (0, .ref (q 0)), (1, .int (nI p1)), (2, .int (nI p2))] dX12_ears_189 (by decide) rfl ?_
                              refine g_iload hC dX12_ears_191 3 rfl ?_
                              refine g_iload hC dX12_ears_193 1 rfl ?_
                              refine g_if_eqN (tgt := 210) hC dX12_ears_195 (by decide) (by omega) (fun h_195 => ?_) (fun h_195 => ?_)
                              · omega
                              · refine g_iload hC dX12_ears_198 0 rfl ?_
                                refine g_if_eqN (tgt := 210) hC dX12_ears_200 (by decide) (by omega) (fun h_200 => ?_) (fun h_200 => ?_)
                                · refine g_iconst (v := (nI 0)) hC dX12_ears_210 (by decide) ?_
                                  refine g_ior hC dX12_ears_211 ?_
                                  refine g_val (v' := .int (nI (bs (eB a p1 p2 x pl n) (k + 1)))) (by rw [bs_no (by simp [eB, h_5, h_13, h_18, h_26, h_34, h_50, h_114, h_128, h_165, h_181, h_195, h_200])]) ?_
                                  refine g_istore hC [(5, .int (nI (bs (eB a p1 p2 x pl n) (k + 1)))), (8, .int (nI 0)), (7, .int (nI 1)), (6, .int (nI k)), (0, .ref (q 0)), (1, .int (nI p1)), (2, .int (nI p2))] dX12_ears_212 (by decide) rfl ?_
                                  refine g_iincN hC (q := 3) 1 [(6, .int (nI (k + 1))), (5, .int (nI (bs (eB a p1 p2 x pl n) (k + 1)))), (8, .int (nI 0)), (7, .int (nI 1)), (0, .ref (q 0)), (1, .int (nI p1)), (2, .int (nI p2))] dX12_ears_214 rfl rfl (by decide) rfl ?_
                                  refine g_goto (tgt := 111) hC dX12_ears_217 (by decide) ?_
                                  refine g_lv (lv' := [(6, .int (nI (k + 1))), (5, .int (nI (bs (eB a p1 p2 x pl n) (k + 1)))), (0, .ref (q 0)), (1, .int (nI p1)), (2, .int (nI p2))]) [0, 1, 4, 5, 6] rfl ?_
                                  exact ih_111 (k + 1) gg fb (by omega) (hfb) (by omega)
                                · omega
                            · refine g_iconst (v := (nI 1)) hC dX12_ears_184 (by decide) ?_
                              refine g_goto (tgt := 189) hC dX12_ears_185 (by decide) ?_
                              refine g_istore hC [(8, .int (nI 1)), (7, .int (nI 1)), (6, .int (nI k)), (5, .int (nI (bs (eB a p1 p2 x pl n) k))), (0, .ref (q 0)), (1, .int (nI p1)), (2, .int (nI p2))] dX12_ears_189 (by decide) rfl ?_
                              refine g_iload hC dX12_ears_191 3 rfl ?_
                              refine g_iload hC dX12_ears_193 1 rfl ?_
                              refine g_if_eqN (tgt := 210) hC dX12_ears_195 (by decide) (by omega) (fun h_195 => ?_) (fun h_195 => ?_)
                              · omega
                              · refine g_iload hC dX12_ears_198 0 rfl ?_
                                refine g_if_eqN (tgt := 210) hC dX12_ears_200 (by decide) (by omega) (fun h_200 => ?_) (fun h_200 => ?_)
                                · omega
                                · refine g_iconst (v := (nI 1)) hC dX12_ears_203 (by decide) ?_
                                  refine g_iload hC dX12_ears_204 2 rfl ?_
                                  refine g_ishl hC dX12_ears_206 ?_
                                  refine g_goto (tgt := 211) hC dX12_ears_207 (by decide) ?_
                                  refine g_ior hC dX12_ears_211 ?_
                                  refine g_val (v' := .int (nI (bs (eB a p1 p2 x pl n) (k + 1)))) (by rw [bs_yes (by omega) (by simp [eB, h_5, h_13, h_18, h_26, h_34, h_50, h_114, h_128, h_165, h_181, h_195, h_200])]) ?_
                                  refine g_istore hC [(5, .int (nI (bs (eB a p1 p2 x pl n) (k + 1)))), (8, .int (nI 1)), (7, .int (nI 1)), (6, .int (nI k)), (0, .ref (q 0)), (1, .int (nI p1)), (2, .int (nI p2))] dX12_ears_212 (by decide) rfl ?_
                                  refine g_iincN hC (q := 3) 1 [(6, .int (nI (k + 1))), (5, .int (nI (bs (eB a p1 p2 x pl n) (k + 1)))), (8, .int (nI 1)), (7, .int (nI 1)), (0, .ref (q 0)), (1, .int (nI p1)), (2, .int (nI p2))] dX12_ears_214 rfl rfl (by decide) rfl ?_
                                  refine g_goto (tgt := 111) hC dX12_ears_217 (by decide) ?_
                                  refine g_lv (lv' := [(6, .int (nI (k + 1))), (5, .int (nI (bs (eB a p1 p2 x pl n) (k + 1)))), (0, .ref (q 0)), (1, .int (nI p1)), (2, .int (nI p2))]) [0, 1, 4, 5, 6] rfl ?_
                                  exact ih_111 (k + 1) gg fb (by omega) (hfb) (by omega)
                        · refine g_aload_n hC dX12_ears_131 rfl 2 rfl ?_
                          refine g_get hC 0 12 10 inX12 m3_218 dX12_ears_132 rfl rfl (by decide) rfl ?_
                          refine g_iload hC dX12_ears_135 0 rfl ?_
                          refine g_iconst (v := (nI 1)) hC dX12_ears_137 (by decide) ?_
                          refine g_ixor hC dX12_ears_138 ?_
                          refine g_val (v' := .int (nI (k ^^^ 1))) (by rw [fb_xorI]) ?_
                          refine g_ialdN hC 4 dX12_ears_139 rfl (by decide) (xor_lt4 (by omega) (by decide)) ?_
                          refine g_val (v' := .int (nI (eb a p1 p2 x pl n (k ^^^ 1)))) (by rw [hfb _ (xor_lt4 (by omega) (by decide))]) ?_
                          refine g_iload_n hC dX12_ears_140 rfl 3 rfl ?_
                          refine g_callS hC (f_X12_has (kl K) E (eb a p1 p2 x pl n (k ^^^ 1)) p1 (hel _) (by omega)) wX12_has m4_89 dX12_ears_141 [] [(q 0, .inr (12, oM q ab be fe fc mo bl ta tl tkn va)), (q 1, .inl (E.2.1 0, 188, .inl a)), (q 4, .inl (E.2.1 0, 3, .inl r)), (q 5, .inl (E.2.1 0, 7, .inl gg)), (q 6, .inl (E.2.1 0, 4, .inl fb))] (by decide) rfl (Nat.le_of_ble_eq_true rfl) rfl rfl rfl rfl rfl ?_
                          refine g_if_neB (tgt := 151) hC dX12_ears_144 (by decide) (fun h_144 => ?_) (fun h_144 => ?_)
                          · refine g_iconst (v := (nI 0)) hC dX12_ears_151 (by decide) ?_
                            refine g_istore hC [(7, .int (nI 0)), (6, .int (nI k)), (5, .int (nI (bs (eB a p1 p2 x pl n) k))), (0, .ref (q 0)), (1, .int (nI p1)), (2, .int (nI p2))] dX12_ears_152 (by decide) rfl ?_
                            refine g_aload_n hC dX12_ears_154 rfl 3 rfl ?_
                            refine g_get hC 0 12 10 inX12 m3_218 dX12_ears_155 rfl rfl (by decide) rfl ?_
                            refine g_iload hC dX12_ears_158 1 rfl ?_
                            refine g_ialdN hC 4 dX12_ears_160 rfl (by decide) (by omega) ?_
                            refine g_val (v' := .int (nI (eb a p1 p2 x pl n k))) (by rw [hfb k (by omega)]) ?_
                            refine g_iload_n hC dX12_ears_161 rfl 5 rfl ?_
                            refine g_callS hC (f_X12_has (kl K) E (eb a p1 p2 x pl n k) p2 (hel _) (by omega)) wX12_has m4_89 dX12_ears_162 [] [(q 0, .inr (12, oM q ab be fe fc mo bl ta tl tkn va)), (q 1, .inl (E.2.1 0, 188, .inl a)), (q 4, .inl (E.2.1 0, 3, .inl r)), (q 5, .inl (E.2.1 0, 7, .inl gg)), (q 6, .inl (E.2.1 0, 4, .inl fb))] (by decide) rfl (Nat.le_of_ble_eq_true rfl) rfl rfl rfl rfl rfl ?_
                            refine g_if_neB (tgt := 184) hC dX12_ears_165 (by decide) (fun h_165 => ?_) (fun h_165 => ?_)
                            · refine g_iconst (v := (nI 1)) hC dX12_ears_184 (by decide) ?_
                              refine g_goto (tgt := 189) hC dX12_ears_185 (by decide) ?_
                              refine g_istore hC [(8, .int (nI 1)), (7, .int (nI 0)), (6, .int (nI k)), (5, .int (nI (bs (eB a p1 p2 x pl n) k))), (0, .ref (q 0)), (1, .int (nI p1)), (2, .int (nI p2))] dX12_ears_189 (by decide) rfl ?_
                              refine g_iload hC dX12_ears_191 3 rfl ?_
                              refine g_iload hC dX12_ears_193 1 rfl ?_
                              refine g_if_eqN (tgt := 210) hC dX12_ears_195 (by decide) (by omega) (fun h_195 => ?_) (fun h_195 => ?_)
                              · refine g_iconst (v := (nI 0)) hC dX12_ears_210 (by decide) ?_
                                refine g_ior hC dX12_ears_211 ?_
                                refine g_val (v' := .int (nI (bs (eB a p1 p2 x pl n) (k + 1)))) (by rw [bs_no (by simp [eB, h_5, h_13, h_18, h_26, h_34, h_50, h_114, h_128, h_144, h_165, h_195])]) ?_
                                refine g_istore hC [(5, .int (nI (bs (eB a p1 p2 x pl n) (k + 1)))), (8, .int (nI 1)), (7, .int (nI 0)), (6, .int (nI k)), (0, .ref (q 0)), (1, .int (nI p1)), (2, .int (nI p2))] dX12_ears_212 (by decide) rfl ?_
                                refine g_iincN hC (q := 3) 1 [(6, .int (nI (k + 1))), (5, .int (nI (bs (eB a p1 p2 x pl n) (k + 1)))), (8, .int (nI 1)), (7, .int (nI 0)), (0, .ref (q 0)), (1, .int (nI p1)), (2, .int (nI p2))] dX12_ears_214 rfl rfl (by decide) rfl ?_
                                refine g_goto (tgt := 111) hC dX12_ears_217 (by decide) ?_
                                refine g_lv (lv' := [(6, .int (nI (k + 1))), (5, .int (nI (bs (eB a p1 p2 x pl n) (k + 1)))), (0, .ref (q 0)), (1, .int (nI p1)), (2, .int (nI p2))]) [0, 1, 4, 5, 6] rfl ?_
                                exact ih_111 (k + 1) gg fb (by omega) (hfb) (by omega)
                              · omega
                            · refine g_aload_n hC dX12_ears_168 rfl 3 rfl ?_
                              refine g_get hC 0 12 10 inX12 m3_218 dX12_ears_169 rfl rfl (by decide) rfl ?_
                              refine g_iload hC dX12_ears_172 1 rfl ?_
                              refine g_iconst (v := (nI 2)) hC dX12_ears_174 (by decide) ?_
                              refine g_ixor hC dX12_ears_175 ?_
                              refine g_val (v' := .int (nI (k ^^^ 2))) (by rw [fb_xorI]) ?_
                              refine g_ialdN hC 4 dX12_ears_176 rfl (by decide) (xor_lt4 (by omega) (by decide)) ?_
                              refine g_val (v' := .int (nI (eb a p1 p2 x pl n (k ^^^ 2)))) (by rw [hfb _ (xor_lt4 (by omega) (by decide))]) ?_
                              refine g_iload_n hC dX12_ears_177 rfl 5 rfl ?_
                              refine g_callS hC (f_X12_has (kl K) E (eb a p1 p2 x pl n (k ^^^ 2)) p2 (hel _) (by omega)) wX12_has m4_89 dX12_ears_178 [] [(q 0, .inr (12, oM q ab be fe fc mo bl ta tl tkn va)), (q 1, .inl (E.2.1 0, 188, .inl a)), (q 4, .inl (E.2.1 0, 3, .inl r)), (q 5, .inl (E.2.1 0, 7, .inl gg)), (q 6, .inl (E.2.1 0, 4, .inl fb))] (by decide) rfl (Nat.le_of_ble_eq_true rfl) rfl rfl rfl rfl rfl ?_
                              refine g_if_neB (tgt := 188) hC dX12_ears_181 (by decide) (fun h_181 => ?_) (fun h_181 => ?_)
                              · refine g_iconst (v := (nI 0)) hC dX12_ears_188 (by decide) ?_
                                refine g_istore hC [(8, .int (nI 0)), (7, .int (nI 0)), (6, .int (nI k)), (5, .int (nI (bs (eB a p1 p2 x pl n) k))), (0, .ref (q 0)), (1, .int (nI p1)), (2, .int (nI p2))] dX12_ears_189 (by decide) rfl ?_
                                refine g_iload hC dX12_ears_191 3 rfl ?_
                                refine g_iload hC dX12_ears_193 1 rfl ?_
                                refine g_if_eqN (tgt := 210) hC dX12_ears_195 (by decide) (by omega) (fun h_195 => ?_) (fun h_195 => ?_)
                                · refine g_iconst (v := (nI 0)) hC dX12_ears_210 (by decide) ?_
                                  refine g_ior hC dX12_ears_211 ?_
                                  refine g_val (v' := .int (nI (bs (eB a p1 p2 x pl n) (k + 1)))) (by rw [bs_no (by simp [eB, h_5, h_13, h_18, h_26, h_34, h_50, h_114, h_128, h_144, h_165, h_181, h_195])]) ?_
                                  refine g_istore hC [(5, .int (nI (bs (eB a p1 p2 x pl n) (k + 1)))), (8, .int (nI 0)), (7, .int (nI 0)), (6, .int (nI k)), (0, .ref (q 0)), (1, .int (nI p1)), (2, .int (nI p2))] dX12_ears_212 (by decide) rfl ?_
                                  refine g_iincN hC (q := 3) 1 [(6, .int (nI (k + 1))), (5, .int (nI (bs (eB a p1 p2 x pl n) (k + 1)))), (8, .int (nI 0)), (7, .int (nI 0)), (0, .ref (q 0)), (1, .int (nI p1)), (2, .int (nI p2))] dX12_ears_214 rfl rfl (by decide) rfl ?_
                                  refine g_goto (tgt := 111) hC dX12_ears_217 (by decide) ?_
                                  refine g_lv (lv' := [(6, .int (nI (k + 1))), (5, .int (nI (bs (eB a p1 p2 x pl n) (k + 1)))), (0, .ref (q 0)), (1, .int (nI p1)), (2, .int (nI p2))]) [0, 1, 4, 5, 6] rfl ?_
                                  exact ih_111 (k + 1) gg fb (by omega) (hfb) (by omega)
                                · omega
                              · refine g_iconst (v := (nI 1)) hC dX12_ears_184 (by decide) ?_
                                refine g_goto (tgt := 189) hC dX12_ears_185 (by decide) ?_
                                refine g_istore hC [(8, .int (nI 1)), (7, .int (nI 0)), (6, .int (nI k)), (5, .int (nI (bs (eB a p1 p2 x pl n) k))), (0, .ref (q 0)), (1, .int (nI p1)), (2, .int (nI p2))] dX12_ears_189 (by decide) rfl ?_
                                refine g_iload hC dX12_ears_191 3 rfl ?_
                                refine g_iload hC dX12_ears_193 1 rfl ?_
                                refine g_if_eqN (tgt := 210) hC dX12_ears_195 (by decide) (by omega) (fun h_195 => ?_) (fun h_195 => ?_)
                                · refine g_iconst (v := (nI 0)) hC dX12_ears_210 (by decide) ?_
                                  refine g_ior hC dX12_ears_211 ?_
                                  refine g_val (v' := .int (nI (bs (eB a p1 p2 x pl n) (k + 1)))) (by rw [bs_no (by simp [eB, h_5, h_13, h_18, h_26, h_34, h_50, h_114, h_128, h_144, h_165, h_181, h_195])]) ?_
                                  refine g_istore hC [(5, .int (nI (bs (eB a p1 p2 x pl n) (k + 1)))), (8, .int (nI 1)), (7, .int (nI 0)), (6, .int (nI k)), (0, .ref (q 0)), (1, .int (nI p1)), (2, .int (nI p2))] dX12_ears_212 (by decide) rfl ?_
                                  refine g_iincN hC (q := 3) 1 [(6, .int (nI (k + 1))), (5, .int (nI (bs (eB a p1 p2 x pl n) (k + 1)))), (8, .int (nI 1)), (7, .int (nI 0)), (0, .ref (q 0)), (1, .int (nI p1)), (2, .int (nI p2))] dX12_ears_214 rfl rfl (by decide) rfl ?_
                                  refine g_goto (tgt := 111) hC dX12_ears_217 (by decide) ?_
                                  refine g_lv (lv' := [(6, .int (nI (k + 1))), (5, .int (nI (bs (eB a p1 p2 x pl n) (k + 1)))), (0, .ref (q 0)), (1, .int (nI p1)), (2, .int (nI p2))]) [0, 1, 4, 5, 6] rfl ?_
                                  exact ih_111 (k + 1) gg fb (by omega) (hfb) (by omega)
                                · omega
                          · refine g_iconst (v := (nI 1)) hC dX12_ears_147 (by decide) ?_
                            refine g_goto (tgt := 152) hC dX12_ears_148 (by decide) ?_
                            refine g_istore hC [(7, .int (nI 1)), (6, .int (nI k)), (5, .int (nI (bs (eB a p1 p2 x pl n) k))), (0, .ref (q 0)), (1, .int (nI p1)), (2, .int (nI p2))] dX12_ears_152 (by decide) rfl ?_
                            refine g_aload_n hC dX12_ears_154 rfl 3 rfl ?_
                            refine g_get hC 0 12 10 inX12 m3_218 dX12_ears_155 rfl rfl (by decide) rfl ?_
                            refine g_iload hC dX12_ears_158 1 rfl ?_
                            refine g_ialdN hC 4 dX12_ears_160 rfl (by decide) (by omega) ?_
                            refine g_val (v' := .int (nI (eb a p1 p2 x pl n k))) (by rw [hfb k (by omega)]) ?_
                            refine g_iload_n hC dX12_ears_161 rfl 5 rfl ?_
                            refine g_callS hC (f_X12_has (kl K) E (eb a p1 p2 x pl n k) p2 (hel _) (by omega)) wX12_has m4_89 dX12_ears_162 [] [(q 0, .inr (12, oM q ab be fe fc mo bl ta tl tkn va)), (q 1, .inl (E.2.1 0, 188, .inl a)), (q 4, .inl (E.2.1 0, 3, .inl r)), (q 5, .inl (E.2.1 0, 7, .inl gg)), (q 6, .inl (E.2.1 0, 4, .inl fb))] (by decide) rfl (Nat.le_of_ble_eq_true rfl) rfl rfl rfl rfl rfl ?_
                            refine g_if_neB (tgt := 184) hC dX12_ears_165 (by decide) (fun h_165 => ?_) (fun h_165 => ?_)
                            · refine g_iconst (v := (nI 1)) hC dX12_ears_184 (by decide) ?_
                              refine g_goto (tgt := 189) hC dX12_ears_185 (by decide) ?_
                              refine g_istore hC [(8, .int (nI 1)), (7, .int (nI 1)), (6, .int (nI k)), (5, .int (nI (bs (eB a p1 p2 x pl n) k))), (0, .ref (q 0)), (1, .int (nI p1)), (2, .int (nI p2))] dX12_ears_189 (by decide) rfl ?_
                              refine g_iload hC dX12_ears_191 3 rfl ?_
                              refine g_iload hC dX12_ears_193 1 rfl ?_
                              refine g_if_eqN (tgt := 210) hC dX12_ears_195 (by decide) (by omega) (fun h_195 => ?_) (fun h_195 => ?_)
                              · omega
                              · refine g_iload hC dX12_ears_198 0 rfl ?_
                                refine g_if_eqN (tgt := 210) hC dX12_ears_200 (by decide) (by omega) (fun h_200 => ?_) (fun h_200 => ?_)
                                · omega
                                · refine g_iconst (v := (nI 1)) hC dX12_ears_203 (by decide) ?_
                                  refine g_iload hC dX12_ears_204 2 rfl ?_
                                  refine g_ishl hC dX12_ears_206 ?_
                                  refine g_goto (tgt := 211) hC dX12_ears_207 (by decide) ?_
                                  refine g_ior hC dX12_ears_211 ?_
                                  refine g_val (v' := .int (nI (bs (eB a p1 p2 x pl n) (k + 1)))) (by rw [bs_yes (by omega) (by simp [eB, h_5, h_13, h_18, h_26, h_34, h_50, h_114, h_128, h_144, h_165, h_195, h_200])]) ?_
                                  refine g_istore hC [(5, .int (nI (bs (eB a p1 p2 x pl n) (k + 1)))), (8, .int (nI 1)), (7, .int (nI 1)), (6, .int (nI k)), (0, .ref (q 0)), (1, .int (nI p1)), (2, .int (nI p2))] dX12_ears_212 (by decide) rfl ?_
                                  refine g_iincN hC (q := 3) 1 [(6, .int (nI (k + 1))), (5, .int (nI (bs (eB a p1 p2 x pl n) (k + 1)))), (8, .int (nI 1)), (7, .int (nI 1)), (0, .ref (q 0)), (1, .int (nI p1)), (2, .int (nI p2))] dX12_ears_214 rfl rfl (by decide) rfl ?_
                                  refine g_goto (tgt := 111) hC dX12_ears_217 (by decide) ?_
                                  refine g_lv (lv' := [(6, .int (nI (k + 1))), (5, .int (nI (bs (eB a p1 p2 x pl n) (k + 1)))), (0, .ref (q 0)), (1, .int (nI p1)), (2, .int (nI p2))]) [0, 1, 4, 5, 6] rfl ?_
                                  exact ih_111 (k + 1) gg fb (by omega) (hfb) (by omega)
                            · refine g_aload_n hC dX12_ears_168 rfl 3 rfl ?_
                              refine g_get hC 0 12 10 inX12 m3_218 dX12_ears_169 rfl rfl (by decide) rfl ?_
                              refine g_iload hC dX12_ears_172 1 rfl ?_
                              refine g_iconst (v := (nI 2)) hC dX12_ears_174 (by decide) ?_
                              refine g_ixor hC dX12_ears_175 ?_
                              refine g_val (v' := .int (nI (k ^^^ 2))) (by rw [fb_xorI]) ?_
                              refine g_ialdN hC 4 dX12_ears_176 rfl (by decide) (xor_lt4 (by omega) (by decide)) ?_
                              refine g_val (v' := .int (nI (eb a p1 p2 x pl n (k ^^^ 2)))) (by rw [hfb _ (xor_lt4 (by omega) (by decide))]) ?_
                              refine g_iload_n hC dX12_ears_177 rfl 5 rfl ?_
                              refine g_callS hC (f_X12_has (kl K) E (eb a p1 p2 x pl n (k ^^^ 2)) p2 (hel _) (by omega)) wX12_has m4_89 dX12_ears_178 [] [(q 0, .inr (12, oM q ab be fe fc mo bl ta tl tkn va)), (q 1, .inl (E.2.1 0, 188, .inl a)), (q 4, .inl (E.2.1 0, 3, .inl r)), (q 5, .inl (E.2.1 0, 7, .inl gg)), (q 6, .inl (E.2.1 0, 4, .inl fb))] (by decide) rfl (Nat.le_of_ble_eq_true rfl) rfl rfl rfl rfl rfl ?_
                              refine g_if_neB (tgt := 188) hC dX12_ears_181 (by decide) (fun h_181 => ?_) (fun h_181 => ?_)
                              · refine g_iconst (v := (nI 0)) hC dX12_ears_188 (by decide) ?_
                                refine g_istore hC [(8, .int (nI 0)), (7, .int (nI 1)), (6, .int (nI k)), (5, .int (nI (bs (eB a p1 p2 x pl n) k))), (0, .ref (q 0)), (1, .int (nI p1)), (2, .int (nI p2))] dX12_ears_189 (by decide) rfl ?_
                                refine g_iload hC dX12_ears_191 3 rfl ?_
                                refine g_iload hC dX12_ears_193 1 rfl ?_
                                refine g_if_eqN (tgt := 210) hC dX12_ears_195 (by decide) (by omega) (fun h_195 => ?_) (fun h_195 => ?_)
                                · omega
                                · refine g_iload hC dX12_ears_198 0 rfl ?_
                                  refine g_if_eqN (tgt := 210) hC dX12_ears_200 (by decide) (by omega) (fun h_200 => ?_) (fun h_200 => ?_)
                                  · refine g_iconst (v := (nI 0)) hC dX12_ears_210 (by decide) ?_
                                    refine g_ior hC dX12_ears_211 ?_
                                    refine g_val (v' := .int (nI (bs (eB a p1 p2 x pl n) (k + 1)))) (by rw [bs_no (by simp [eB, h_5, h_13, h_18, h_26, h_34, h_50, h_114, h_128, h_144, h_165, h_181, h_195, h_200])]) ?_
                                    refine g_istore hC [(5, .int (nI (bs (eB a p1 p2 x pl n) (k + 1)))), (8, .int (nI 0)), (7, .int (nI 1)), (6, .int (nI k)), (0, .ref (q 0)), (1, .int (nI p1)), (2, .int (nI p2))] dX12_ears_212 (by decide) rfl ?_
                                    refine g_iincN hC (q := 3) 1 [(6, .int (nI (k + 1))), (5, .int (nI (bs (eB a p1 p2 x pl n) (k + 1)))), (8, .int (nI 0)), (7, .int (nI 1)), (0, .ref (q 0)), (1, .int (nI p1)), (2, .int (nI p2))] dX12_ears_214 rfl rfl (by decide) rfl ?_
                                    refine g_goto (tgt := 111) hC dX12_ears_217 (by decide) ?_
                                    refine g_lv (lv' := [(6, .int (nI (k + 1))), (5, .int (nI (bs (eB a p1 p2 x pl n) (k + 1)))), (0, .ref (q 0)), (1, .int (nI p1)), (2, .int (nI p2))]) [0, 1, 4, 5, 6] rfl ?_
                                    exact ih_111 (k + 1) gg fb (by omega) (hfb) (by omega)
                                  · omega
                              · refine g_iconst (v := (nI 1)) hC dX12_ears_184 (by decide) ?_
                                refine g_goto (tgt := 189) hC dX12_ears_185 (by decide) ?_
                                refine g_istore hC [(8, .int (nI 1)), (7, .int (nI 1)), (6, .int (nI k)), (5, .int (nI (bs (eB a p1 p2 x pl n) k))), (0, .ref (q 0)), (1, .int (nI p1)), (2, .int (nI p2))] dX12_ears_189 (by decide) rfl ?_
                                refine g_iload hC dX12_ears_191 3 rfl ?_
                                refine g_iload hC dX12_ears_193 1 rfl ?_
                                refine g_if_eqN (tgt := 210) hC dX12_ears_195 (by decide) (by omega) (fun h_195 => ?_) (fun h_195 => ?_)
                                · omega
                                · refine g_iload hC dX12_ears_198 0 rfl ?_
                                  refine g_if_eqN (tgt := 210) hC dX12_ears_200 (by decide) (by omega) (fun h_200 => ?_) (fun h_200 => ?_)
                                  · omega
                                  · refine g_iconst (v := (nI 1)) hC dX12_ears_203 (by decide) ?_
                                    refine g_iload hC dX12_ears_204 2 rfl ?_
                                    refine g_ishl hC dX12_ears_206 ?_
                                    refine g_goto (tgt := 211) hC dX12_ears_207 (by decide) ?_
                                    refine g_ior hC dX12_ears_211 ?_
                                    refine g_val (v' := .int (nI (bs (eB a p1 p2 x pl n) (k + 1)))) (by rw [bs_yes (by omega) (by simp [eB, h_5, h_13, h_18, h_26, h_34, h_50, h_114, h_128, h_144, h_165, h_181, h_195, h_200])]) ?_
                                    refine g_istore hC [(5, .int (nI (bs (eB a p1 p2 x pl n) (k + 1)))), (8, .int (nI 1)), (7, .int (nI 1)), (6, .int (nI k)), (0, .ref (q 0)), (1, .int (nI p1)), (2, .int (nI p2))] dX12_ears_212 (by decide) rfl ?_
                                    refine g_iincN hC (q := 3) 1 [(6, .int (nI (k + 1))), (5, .int (nI (bs (eB a p1 p2 x pl n) (k + 1)))), (8, .int (nI 1)), (7, .int (nI 1)), (0, .ref (q 0)), (1, .int (nI p1)), (2, .int (nI p2))] dX12_ears_214 rfl rfl (by decide) rfl ?_
                                    refine g_goto (tgt := 111) hC dX12_ears_217 (by decide) ?_
                                    refine g_lv (lv' := [(6, .int (nI (k + 1))), (5, .int (nI (bs (eB a p1 p2 x pl n) (k + 1)))), (0, .ref (q 0)), (1, .int (nI p1)), (2, .int (nI p2))]) [0, 1, 4, 5, 6] rfl ?_
                                    exact ih_111 (k + 1) gg fb (by omega) (hfb) (by omega)
                  refine g_lv (lv' := [(6, .int (nI 0)), (5, .int (nI 0)), (0, .ref (q 0)), (1, .int (nI p1)), (2, .int (nI p2))]) [0, 1, 2, 3, 4] rfl ?_
                  refine g_lve (lv' := [(6, .int (nI 0)), (5, .int (nI (bs (eB a p1 p2 x pl n) 0))), (0, .ref (q 0)), (1, .int (nI p1)), (2, .int (nI p2))]) (rfl) ?_
                  exact L_111 ((4 - 0) + 1) 0 gg (fun j => if j < k then nI (eb a p1 p2 x pl n j) else f j) (by omega) (fun j hj => by rw [show k = 4 by omega]; simp [hj]) (Nat.lt_succ_self _)
                · refine g_aload_n hC dX12_ears_53 rfl 1 rfl ?_
                  refine g_callV hC (f_X12_layHand (kl K) E q ab be fe fc mo bl ta tl tkn va a gg n (hn) (hn7)) wX12_layHand m4_70 dX12_ears_54 [0, 1, 3] [(q 0, .inr (12, oM q ab be fe fc mo bl ta tl tkn va)), (q 1, .inl (E.2.1 0, 188, .inl a)), (q 4, .inl (E.2.1 0, 3, .inl r)), (q 5, .inl (E.2.1 0, 7, .inl (hnd a gg n))), (q 6, .inl (E.2.1 0, 4, .inl (fun j => if j < k then nI (eb a p1 p2 x pl n j) else f j)))] 0 12 rfl rfl (by decide) rfl (Nat.le_of_ble_eq_true rfl) rfl rfl rfl rfl rfl ?_
                  refine g_aload_n hC dX12_ears_57 rfl 1 rfl ?_
                  refine g_iload_n hC dX12_ears_58 rfl 4 rfl ?_
                  refine g_aload_n hC dX12_ears_59 rfl 1 rfl ?_
                  refine g_iload_n hC dX12_ears_60 rfl 4 rfl ?_
                  refine g_iload hC dX12_ears_61 5 rfl ?_
                  refine g_callV hC (f_X12_turning (kl K) E q ab be fe fc mo bl ta tl tkn va a (hnd a gg n) n (nI x) pl (hn) (hn7) (hpk) (by omega)) wX12_turning m4_78 dX12_ears_63 [0, 1, 3] [(q 0, .inr (12, oM q ab be fe fc mo bl ta tl tkn va)), (q 1, .inl (E.2.1 0, 188, .inl a)), (q 4, .inl (E.2.1 0, 3, .inl r)), (q 5, .inl (E.2.1 0, 7, .inl (hnd a gg n))), (q 6, .inl (E.2.1 0, 4, .inl (fun j => if j < k then nI (eb a p1 p2 x pl n j) else f j)))] 0 12 rfl rfl (by decide) rfl (Nat.le_of_ble_eq_true rfl) rfl rfl rfl rfl rfl ?_
                  refine g_iload hC dX12_ears_66 0 rfl ?_
                  refine g_iconst (v := (nI 1)) hC dX12_ears_68 (by decide) ?_
                  refine g_iand hC dX12_ears_69 ?_
                  refine g_iload_n hC dX12_ears_70 rfl 2 rfl ?_
                  refine g_ishl hC dX12_ears_71 ?_
                  refine g_iconst (v := (-1)) hC dX12_ears_72 (by decide) ?_
                  refine g_ixor hC dX12_ears_73 ?_
                  refine g_iand hC dX12_ears_74 ?_
                  refine g_iload hC dX12_ears_75 0 rfl ?_
                  refine g_iconst (v := (nI 1)) hC dX12_ears_77 (by decide) ?_
                  refine g_ishr hC dX12_ears_78 ?_
                  refine g_iload_n hC dX12_ears_79 rfl 3 rfl ?_
                  refine g_ishl hC dX12_ears_80 ?_
                  refine g_iconst (v := (-1)) hC dX12_ears_81 (by decide) ?_
                  refine g_ixor hC dX12_ears_82 ?_
                  refine g_iand hC dX12_ears_83 ?_
                  refine g_val (v' := .int (nI (andn (andn (TS a (nI x) pl n) (k % 2 * 2 ^ p1)) (k / 2 * 2 ^ p2)))) (by rw [hTS, ears_mask hTl (by omega) (by omega) (by omega)]) ?_
                  refine g_callV hC (f_X12_goTurn (kl K) E q ab be fe fc mo bl ta tl tkn va a (hnd a gg n) n (nI x) (andn (andn (TS a (nI x) pl n) (k % 2 * 2 ^ p1)) (k / 2 * 2 ^ p2)) (hn) (hn7) (andn_lt _ _)) wX12_goTurn m4_95 dX12_ears_84 [0, 1, 3] [(q 0, .inr (12, oM q ab be fe fc mo bl ta tl tkn va)), (q 1, .inl (E.2.1 0, 188, .inl a)), (q 4, .inl (E.2.1 0, 3, .inl r)), (q 5, .inl (E.2.1 0, 7, .inl (gT (hnd a gg n) (nI x) (andn (andn (TS a (nI x) pl n) (k % 2 * 2 ^ p1)) (k / 2 * 2 ^ p2)) n))), (q 6, .inl (E.2.1 0, 4, .inl (fun j => if j < k then nI (eb a p1 p2 x pl n j) else f j)))] 0 12 rfl rfl (by decide) rfl (Nat.le_of_ble_eq_true rfl) rfl rfl rfl rfl rfl ?_
                  refine g_aload_n hC dX12_ears_87 rfl 1 rfl ?_
                  refine g_get hC 0 12 10 inX12 m3_218 dX12_ears_88 rfl rfl (by decide) rfl ?_
                  refine g_iload hC dX12_ears_91 0 rfl ?_
                  refine g_aload_n hC dX12_ears_93 rfl 1 rfl ?_
                  refine g_iload_n hC dX12_ears_94 rfl 4 rfl ?_
                  refine g_callV hC (f_X12_bearersOf (kl K) E q ab be fe fc mo bl ta tl tkn va a (gT (hnd a gg n) (nI x) (andn (andn (TS a (nI x) pl n) (k % 2 * 2 ^ p1)) (k / 2 * 2 ^ p2)) n) n (nI x) (hn) (hn7)) wX12_bearersOf m4_82 dX12_ears_95 [0, 1, 3] [(q 0, .inr (12, oM q ab be fe fc mo bl ta tl tkn va)), (q 1, .inl (E.2.1 0, 188, .inl a)), (q 4, .inl (E.2.1 0, 3, .inl r)), (q 5, .inl (E.2.1 0, 7, .inl (gT (hnd a gg n) (nI x) (andn (andn (TS a (nI x) pl n) (k % 2 * 2 ^ p1)) (k / 2 * 2 ^ p2)) n))), (q 6, .inl (E.2.1 0, 4, .inl (fun j => if j < k then nI (eb a p1 p2 x pl n j) else f j)))] 0 12 rfl rfl (by decide) rfl (Nat.le_of_ble_eq_true rfl) rfl rfl rfl rfl rfl ?_
                  refine g_iastN hC 4 [(q 0, .inr (12, oM q ab be fe fc mo bl ta tl tkn va)), (q 1, .inl (E.2.1 0, 188, .inl a)), (q 4, .inl (E.2.1 0, 3, .inl r)), (q 5, .inl (E.2.1 0, 7, .inl (gT (hnd a gg n) (nI x) (andn (andn (TS a (nI x) pl n) (k % 2 * 2 ^ p1)) (k / 2 * 2 ^ p2)) n))), (q 6, .inl (E.2.1 0, 4, .inl (upd (fun j => if j < k then nI (eb a p1 p2 x pl n j) else f j) k (nI (bo (gT (hnd a gg n) (nI x) (andn (andn (TS a (nI x) pl n) (k % 2 * 2 ^ p1)) (k / 2 * 2 ^ p2)) n) (nI x) n)))))] dX12_ears_98 rfl (by decide) (by omega) rfl ?_
                  refine g_iincN hC (q := 0) 1 [(5, .int (nI (k + 1))), (0, .ref (q 0)), (1, .int (nI p1)), (2, .int (nI p2)), (3, .int (nI x)), (4, .int (nI pl))] dX12_ears_99 rfl rfl (by decide) rfl ?_
                  refine g_goto (tgt := 47) hC dX12_ears_102 (by decide) ?_
                  refine g_lv (lv' := [(5, .int (nI (k + 1))), (0, .ref (q 0)), (1, .int (nI p1)), (2, .int (nI p2)), (3, .int (nI x)), (4, .int (nI pl))]) [0, 1, 2, 3, 4, 5] rfl ?_
                  refine g_ws (ws' := [(q 0, .inr (12, oM q ab be fe fc mo bl ta tl tkn va)), (q 1, .inl (E.2.1 0, 188, .inl a)), (q 4, .inl (E.2.1 0, 3, .inl r)), (q 5, .inl (E.2.1 0, 7, .inl (gT (hnd a gg n) (nI x) (andn (andn (TS a (nI x) pl n) (k % 2 * 2 ^ p1)) (k / 2 * 2 ^ p2)) n))), (q 6, .inl (E.2.1 0, 4, .inl (fun j => if j < (k + 1) then nI (eb a p1 p2 x pl n j) else f j)))]) (by rw [hbo, ← bwf_s]; rfl) ?_
                  exact ih_47 (k + 1) (gT (hnd a gg n) (nI x) (andn (andn (TS a (nI x) pl n) (k % 2 * 2 ^ p1)) (k / 2 * 2 ^ p2)) n) (by omega) (by omega)
            refine g_lv (lv' := [(5, .int (nI 0)), (0, .ref (q 0)), (1, .int (nI p1)), (2, .int (nI p2)), (3, .int (nI x)), (4, .int (nI pl))]) [0, 1, 2, 3, 4, 5] rfl ?_
            refine g_ws (ws' := [(q 0, .inr (12, oM q ab be fe fc mo bl ta tl tkn va)), (q 1, .inl (E.2.1 0, 188, .inl a)), (q 4, .inl (E.2.1 0, 3, .inl r)), (q 5, .inl (E.2.1 0, 7, .inl g)), (q 6, .inl (E.2.1 0, 4, .inl (fun j => if j < 0 then nI (eb a p1 p2 x pl n j) else f j)))]) (by simp) ?_
            exact L_47 ((4 - 0) + 1) 0 g (by omega) (Nat.lt_succ_self _)
          · exact Bool.noConfusion ((inB_ok (by omega) (by omega)).symm.trans h_34)
