set_option maxHeartbeats 4000000 in
set_option maxRecDepth 100000 in
theorem f_X12_goCodes0 (l : Launch) (E : Ew) (q : Nat → Nat) (ab : Int64) (be : Int64) (fe : Int32) (fc : Int32) (mo : Int32) (bl : Int32) (ta : Int32) (tl : Int32) (tkn : Int32) (va : Int32) (a : Nat → Int32) (g : Nat → Int32) (n : Nat) (hn : a 0 = nI n) (hn7 : n ≤ 7) (hpk : ∀ p, p < n → isN (a (12 + p)) 10 ∧ isN (a (19 + p)) 6) : Fn l E 4 yX12_goCodes cX12_goCodes 4 none [.ref (q 0), .int (-1), .int (-1)] [(q 0, .inr (12, oM q ab be fe fc mo bl ta tl tkn va)), (q 1, .inl (E.2.1 0, 188, .inl a)), (q 5, .inl (E.2.1 0, 7, .inl g))] none [(q 0, .inr (12, oM q ab be fe fc mo bl ta tl tkn va)), (q 1, .inl (E.2.1 0, 188, .inl a)), (q 5, .inl (E.2.1 0, 7, .inl (hnd a g n)))] := by
  refine fn_V (by decide) (Nat.le_of_ble_eq_true rfl) rfl ?_
  intro K hC hR
  show G K E 4 [(q 0, .inr (12, oM q ab be fe fc mo bl ta tl tkn va)), (q 1, .inl (E.2.1 0, 188, .inl a)), (q 5, .inl (E.2.1 0, 7, .inl g))] [(0, .ref (q 0)), (1, .int (-1)), (2, .int (-1))] 0 []
  refine g_aload_n hC dX12_goCodes_0 rfl 0 rfl ?_
  refine g_callV hC (f_X12_layHand (kl K) E q ab be fe fc mo bl ta tl tkn va a g n (hn) (hn7)) wX12_layHand m4_70 dX12_goCodes_1 [0, 1, 2] [(q 0, .inr (12, oM q ab be fe fc mo bl ta tl tkn va)), (q 1, .inl (E.2.1 0, 188, .inl a)), (q 5, .inl (E.2.1 0, 7, .inl (hnd a g n)))] 0 12 rfl rfl (by decide) rfl (Nat.le_of_ble_eq_true rfl) rfl rfl rfl rfl rfl ?_
  refine g_iload_n hC dX12_goCodes_4 rfl 1 rfl ?_
  refine g_iconst (v := (-1)) hC dX12_goCodes_5 (by decide) ?_
  refine g_icmp_eq (tgt := 22) hC dX12_goCodes_6 (by decide) (fun h_6 => ?_) (fun h_6 => ?_)
  · refine g_iload_n hC dX12_goCodes_22 rfl 2 rfl ?_
    refine g_iconst (v := (-1)) hC dX12_goCodes_23 (by decide) ?_
    refine g_icmp_eq (tgt := 40) hC dX12_goCodes_24 (by decide) (fun h_24 => ?_) (fun h_24 => ?_)
    · exact g_ws (rfl) (hR _ _ dX12_goCodes_40)
    · exact absurd rfl h_24
  · exact absurd rfl h_6
set_option maxHeartbeats 4000000 in
set_option maxRecDepth 100000 in
theorem f_X12_goCodes1 (l : Launch) (E : Ew) (q : Nat → Nat) (ab : Int64) (be : Int64) (fe : Int32) (fc : Int32) (mo : Int32) (bl : Int32) (ta : Int32) (tl : Int32) (tkn : Int32) (va : Int32) (a : Nat → Int32) (g : Nat → Int32) (n : Nat) (c : Nat) (hn : a 0 = nI n) (hn7 : n ≤ 7) (hpk : ∀ p, p < n → isN (a (12 + p)) 10 ∧ isN (a (19 + p)) 6) (hc : c < 2147483648) : Fn l E 4 yX12_goCodes cX12_goCodes 4 none [.ref (q 0), .int (nI c), .int (-1)] [(q 0, .inr (12, oM q ab be fe fc mo bl ta tl tkn va)), (q 1, .inl (E.2.1 0, 188, .inl a)), (q 5, .inl (E.2.1 0, 7, .inl g))] none [(q 0, .inr (12, oM q ab be fe fc mo bl ta tl tkn va)), (q 1, .inl (E.2.1 0, 188, .inl a)), (q 5, .inl (E.2.1 0, 7, .inl (cl a (hnd a g n) c n)))] := by
  refine fn_V (by decide) (Nat.le_of_ble_eq_true rfl) rfl ?_
  intro K hC hR
  show G K E 4 [(q 0, .inr (12, oM q ab be fe fc mo bl ta tl tkn va)), (q 1, .inl (E.2.1 0, 188, .inl a)), (q 5, .inl (E.2.1 0, 7, .inl g))] [(0, .ref (q 0)), (1, .int (nI c)), (2, .int (-1))] 0 []
  refine g_aload_n hC dX12_goCodes_0 rfl 0 rfl ?_
  refine g_callV hC (f_X12_layHand (kl K) E q ab be fe fc mo bl ta tl tkn va a g n (hn) (hn7)) wX12_layHand m4_70 dX12_goCodes_1 [0, 1, 2] [(q 0, .inr (12, oM q ab be fe fc mo bl ta tl tkn va)), (q 1, .inl (E.2.1 0, 188, .inl a)), (q 5, .inl (E.2.1 0, 7, .inl (hnd a g n)))] 0 12 rfl rfl (by decide) rfl (Nat.le_of_ble_eq_true rfl) rfl rfl rfl rfl rfl ?_
  refine g_iload_n hC dX12_goCodes_4 rfl 1 rfl ?_
  refine g_iconst (v := (-1)) hC dX12_goCodes_5 (by decide) ?_
  refine g_icmp_eq (tgt := 22) hC dX12_goCodes_6 (by decide) (fun h_6 => ?_) (fun h_6 => ?_)
  · exact absurd h_6 (nI_m1 hc)
  · refine g_aload_n hC dX12_goCodes_9 rfl 0 rfl ?_
    refine g_iload_n hC dX12_goCodes_10 rfl 1 rfl ?_
    refine g_bipush (v := (nI 10)) hC dX12_goCodes_11 (by decide) ?_
    refine g_idivN hC dX12_goCodes_13 (by omega) (by omega) (by omega) ?_
    refine g_iload_n hC dX12_goCodes_14 rfl 1 rfl ?_
    refine g_bipush (v := (nI 10)) hC dX12_goCodes_15 (by decide) ?_
    refine g_iremN hC dX12_goCodes_17 (by omega) (by omega) (by omega) ?_
    refine g_callV hC (f_X12_goCall (kl K) E q ab be fe fc mo bl ta tl tkn va a (hnd a g n) n (nI (c / 10)) (c % 10) (hn) (hn7) (hpk) (by omega)) wX12_goCall m4_74 dX12_goCodes_18 [0, 1, 2] [(q 0, .inr (12, oM q ab be fe fc mo bl ta tl tkn va)), (q 1, .inl (E.2.1 0, 188, .inl a)), (q 5, .inl (E.2.1 0, 7, .inl (gT (hnd a g n) (nI (c / 10)) (tS a (hnd a g n) (nI (c / 10)) (c % 10) n) n)))] 0 12 rfl rfl (by decide) rfl (Nat.le_of_ble_eq_true rfl) rfl rfl rfl rfl rfl ?_
    refine g_istore_n hC [(3, .int (nI (tS a (hnd a g n) (nI (c / 10)) (c % 10) n))), (0, .ref (q 0)), (1, .int (nI c)), (2, .int (-1))] dX12_goCodes_21 rfl (by decide) rfl ?_
    refine g_iload_n hC dX12_goCodes_22 rfl 3 rfl ?_
    refine g_iconst (v := (-1)) hC dX12_goCodes_23 (by decide) ?_
    refine g_icmp_eq (tgt := 40) hC dX12_goCodes_24 (by decide) (fun h_24 => ?_) (fun h_24 => ?_)
    · exact g_ws (rfl) (hR _ _ dX12_goCodes_40)
    · exact absurd rfl h_24
set_option maxHeartbeats 4000000 in
set_option maxRecDepth 100000 in
theorem f_X12_goCodes2 (l : Launch) (E : Ew) (q : Nat → Nat) (ab : Int64) (be : Int64) (fe : Int32) (fc : Int32) (mo : Int32) (bl : Int32) (ta : Int32) (tl : Int32) (tkn : Int32) (va : Int32) (a : Nat → Int32) (g : Nat → Int32) (n : Nat) (c : Nat) (e : Nat) (hn : a 0 = nI n) (hn7 : n ≤ 7) (hpk : ∀ p, p < n → isN (a (12 + p)) 10 ∧ isN (a (19 + p)) 6) (hc : c < 2147483648) (he : e < 2147483648) : Fn l E 4 yX12_goCodes cX12_goCodes 4 none [.ref (q 0), .int (nI c), .int (nI e)] [(q 0, .inr (12, oM q ab be fe fc mo bl ta tl tkn va)), (q 1, .inl (E.2.1 0, 188, .inl a)), (q 5, .inl (E.2.1 0, 7, .inl g))] none [(q 0, .inr (12, oM q ab be fe fc mo bl ta tl tkn va)), (q 1, .inl (E.2.1 0, 188, .inl a)), (q 5, .inl (E.2.1 0, 7, .inl (cl a (cl a (hnd a g n) c n) e n)))] := by
  refine fn_V (by decide) (Nat.le_of_ble_eq_true rfl) rfl ?_
  intro K hC hR
  show G K E 4 [(q 0, .inr (12, oM q ab be fe fc mo bl ta tl tkn va)), (q 1, .inl (E.2.1 0, 188, .inl a)), (q 5, .inl (E.2.1 0, 7, .inl g))] [(0, .ref (q 0)), (1, .int (nI c)), (2, .int (nI e))] 0 []
  refine g_aload_n hC dX12_goCodes_0 rfl 0 rfl ?_
  refine g_callV hC (f_X12_layHand (kl K) E q ab be fe fc mo bl ta tl tkn va a g n (hn) (hn7)) wX12_layHand m4_70 dX12_goCodes_1 [0, 1, 2] [(q 0, .inr (12, oM q ab be fe fc mo bl ta tl tkn va)), (q 1, .inl (E.2.1 0, 188, .inl a)), (q 5, .inl (E.2.1 0, 7, .inl (hnd a g n)))] 0 12 rfl rfl (by decide) rfl (Nat.le_of_ble_eq_true rfl) rfl rfl rfl rfl rfl ?_
  refine g_iload_n hC dX12_goCodes_4 rfl 1 rfl ?_
  refine g_iconst (v := (-1)) hC dX12_goCodes_5 (by decide) ?_
  refine g_icmp_eq (tgt := 22) hC dX12_goCodes_6 (by decide) (fun h_6 => ?_) (fun h_6 => ?_)
  · exact absurd h_6 (nI_m1 hc)
  · refine g_aload_n hC dX12_goCodes_9 rfl 0 rfl ?_
    refine g_iload_n hC dX12_goCodes_10 rfl 1 rfl ?_
    refine g_bipush (v := (nI 10)) hC dX12_goCodes_11 (by decide) ?_
    refine g_idivN hC dX12_goCodes_13 (by omega) (by omega) (by omega) ?_
    refine g_iload_n hC dX12_goCodes_14 rfl 1 rfl ?_
    refine g_bipush (v := (nI 10)) hC dX12_goCodes_15 (by decide) ?_
    refine g_iremN hC dX12_goCodes_17 (by omega) (by omega) (by omega) ?_
    refine g_callV hC (f_X12_goCall (kl K) E q ab be fe fc mo bl ta tl tkn va a (hnd a g n) n (nI (c / 10)) (c % 10) (hn) (hn7) (hpk) (by omega)) wX12_goCall m4_74 dX12_goCodes_18 [0, 1, 2] [(q 0, .inr (12, oM q ab be fe fc mo bl ta tl tkn va)), (q 1, .inl (E.2.1 0, 188, .inl a)), (q 5, .inl (E.2.1 0, 7, .inl (gT (hnd a g n) (nI (c / 10)) (tS a (hnd a g n) (nI (c / 10)) (c % 10) n) n)))] 0 12 rfl rfl (by decide) rfl (Nat.le_of_ble_eq_true rfl) rfl rfl rfl rfl rfl ?_
    refine g_istore_n hC [(3, .int (nI (tS a (hnd a g n) (nI (c / 10)) (c % 10) n))), (0, .ref (q 0)), (1, .int (nI c)), (2, .int (nI e))] dX12_goCodes_21 rfl (by decide) rfl ?_
    refine g_iload_n hC dX12_goCodes_22 rfl 3 rfl ?_
    refine g_iconst (v := (-1)) hC dX12_goCodes_23 (by decide) ?_
    refine g_icmp_eq (tgt := 40) hC dX12_goCodes_24 (by decide) (fun h_24 => ?_) (fun h_24 => ?_)
    · exact absurd h_24 (nI_m1 he)
    · refine g_aload_n hC dX12_goCodes_27 rfl 1 rfl ?_
      refine g_iload_n hC dX12_goCodes_28 rfl 3 rfl ?_
      refine g_bipush (v := (nI 10)) hC dX12_goCodes_29 (by decide) ?_
      refine g_idivN hC dX12_goCodes_31 (by omega) (by omega) (by omega) ?_
      refine g_iload_n hC dX12_goCodes_32 rfl 3 rfl ?_
      refine g_bipush (v := (nI 10)) hC dX12_goCodes_33 (by decide) ?_
      refine g_iremN hC dX12_goCodes_35 (by omega) (by omega) (by omega) ?_
      refine g_callV hC (f_X12_goCall (kl K) E q ab be fe fc mo bl ta tl tkn va a (gT (hnd a g n) (nI (c / 10)) (tS a (hnd a g n) (nI (c / 10)) (c % 10) n) n) n (nI (e / 10)) (e % 10) (hn) (hn7) (hpk) (by omega)) wX12_goCall m4_74 dX12_goCodes_36 [0, 1, 2] [(q 0, .inr (12, oM q ab be fe fc mo bl ta tl tkn va)), (q 1, .inl (E.2.1 0, 188, .inl a)), (q 5, .inl (E.2.1 0, 7, .inl (gT (gT (hnd a g n) (nI (c / 10)) (tS a (hnd a g n) (nI (c / 10)) (c % 10) n) n) (nI (e / 10)) (tS a (gT (hnd a g n) (nI (c / 10)) (tS a (hnd a g n) (nI (c / 10)) (c % 10) n) n) (nI (e / 10)) (e % 10) n) n)))] 0 12 rfl rfl (by decide) rfl (Nat.le_of_ble_eq_true rfl) rfl rfl rfl rfl rfl ?_
      refine g_istore_n hC [(3, .int (nI (tS a (gT (hnd a g n) (nI (c / 10)) (tS a (hnd a g n) (nI (c / 10)) (c % 10) n) n) (nI (e / 10)) (e % 10) n))), (0, .ref (q 0)), (1, .int (nI c)), (2, .int (nI e))] dX12_goCodes_39 rfl (by decide) rfl ?_
      exact g_ws (rfl) (hR _ _ dX12_goCodes_40)
set_option maxHeartbeats 4000000 in
set_option maxRecDepth 100000 in
theorem f_X12_layCalls (l : Launch) (E : Ew) (q : Nat → Nat) (ab : Int64) (be : Int64) (fe : Int32) (fc : Int32) (mo : Int32) (bl : Int32) (ta : Int32) (tl : Int32) (tkn : Int32) (va : Int32) (a : Nat → Int32) (g : Nat → Int32) (n : Nat) (p : Nat) (x : Nat) (hn : a 0 = nI n) (hn7 : n ≤ 7) (hpk : ∀ p, p < n → isN (a (12 + p)) 10 ∧ isN (a (19 + p)) 6) (hp : p < n) (hx : x < n) : Fe l E 5 yX12_layCalls cX12_layCalls 6 none [.ref (q 0), .int (nI p), .int (nI x)] [(q 0, .inr (12, oM q ab be fe fc mo bl ta tl tkn va)), (q 1, .inl (E.2.1 0, 188, .inl a)), (q 5, .inl (E.2.1 0, 7, .inl g))] none (fun jj => [(q 0, .inr (12, oM q ab be (fe2 a p x n (10 * n)) (fc2 a p x n (10 * n)) mo bl ta tl tkn va)), (q 1, .inl (E.2.1 0, 188, .inl a)), (q 5, .inl (E.2.1 0, 7, .inl (jj 0)))]) := by
  refine fe_V (by decide) (Nat.le_of_ble_eq_true rfl) (fun _ => rfl) ?_
  intro K hC hR
  show G K E 6 [(q 0, .inr (12, oM q ab be fe fc mo bl ta tl tkn va)), (q 1, .inl (E.2.1 0, 188, .inl a)), (q 5, .inl (E.2.1 0, 7, .inl g))] [(0, .ref (q 0)), (1, .int (nI p)), (2, .int (nI x))] 0 []
  have hh : ∀ gg : Nat → Int32, hnd a gg n p = N5 a p := fun gg => hnd5 p hp
  have hc1 : ∀ (gg : Nat → Int32) (c : Nat), cl a (hnd a gg n) c n p = cl a (N5 a) c n p := fun gg c => cl_cong hnd5 p hp
  have hc2 : ∀ (gg : Nat → Int32) (c e : Nat), cl a (cl a (hnd a gg n) c n) e n p = cl a (cl a (N5 a) c n) e n p := fun gg c e => cl_cong (cl_cong hnd5) p hp
  refine g_bipush (v := (nI 10)) hC dX12_layCalls_0 (by decide) ?_
  refine g_aload_n hC dX12_layCalls_2 rfl 0 rfl ?_
  refine g_callV hC (f_X12_many (kl K) E q ab be fe fc mo bl ta tl tkn va a) wX12_many m4_38 dX12_layCalls_3 [0, 1] [(q 0, .inr (12, oM q ab be fe fc mo bl ta tl tkn va)), (q 1, .inl (E.2.1 0, 188, .inl a)), (q 5, .inl (E.2.1 0, 7, .inl g))] 0 12 rfl rfl (by decide) rfl (Nat.le_of_ble_eq_true rfl) rfl rfl rfl rfl rfl ?_
  refine g_val (v' := .int (nI n)) (by rw [hn]) ?_
  refine g_imulN hC dX12_layCalls_6 ?_
  refine g_istore_n hC [(3, .int (nI (10 * n))), (0, .ref (q 0)), (1, .int (nI p)), (2, .int (nI x))] dX12_layCalls_7 rfl (by decide) rfl ?_
  refine g_aload_n hC dX12_layCalls_8 rfl 1 rfl ?_
  refine g_iconst (v := (-1)) hC dX12_layCalls_9 (by decide) ?_
  refine g_iconst (v := (-1)) hC dX12_layCalls_10 (by decide) ?_
  refine g_callV hC (f_X12_goCodes0 (kl K) E q ab be fe fc mo bl ta tl tkn va a g n (hn) (hn7) (hpk)) wX12_goCodes m4_143 dX12_layCalls_11 [0, 1, 2] [(q 0, .inr (12, oM q ab be fe fc mo bl ta tl tkn va)), (q 1, .inl (E.2.1 0, 188, .inl a)), (q 5, .inl (E.2.1 0, 7, .inl (hnd a g n)))] 0 12 rfl rfl (by decide) rfl (Nat.le_of_ble_eq_true rfl) rfl rfl rfl rfl rfl ?_
  have J_30 : ∀ (f0 : Int32) (hf0 : f0 = fe1 a p x n 0), G K E 6 [(q 0, .inr (12, oM q ab be fe fc mo bl ta tl tkn va)), (q 1, .inl (E.2.1 0, 188, .inl a)), (q 5, .inl (E.2.1 0, 7, .inl (hnd a g n)))] [(3, .int (nI (10 * n))), (0, .ref (q 0)), (1, .int (nI p)), (2, .int (nI x))] 30 [.int f0, .ref (q 0)] := by
    intro f0 hf0
    refine g_put hC 0 12 7 [(q 0, .inr (12, oM q ab be f0 fc mo bl ta tl tkn va)), (q 1, .inl (E.2.1 0, 188, .inl a)), (q 5, .inl (E.2.1 0, 7, .inl (hnd a g n)))] .int inX12 tyX12_ok nmX12 m3_215 dX12_layCalls_30 rfl rfl (by decide) rfl (by decide +kernel) rfl rfl (Nat.le_of_ble_eq_true rfl) rfl ?_
    refine g_aload_n hC dX12_layCalls_33 rfl 1 rfl ?_
    refine g_iconst (v := (-1)) hC dX12_layCalls_34 (by decide) ?_
    refine g_put hC 0 12 8 [(q 0, .inr (12, oM q ab be f0 (-1) mo bl ta tl tkn va)), (q 1, .inl (E.2.1 0, 188, .inl a)), (q 5, .inl (E.2.1 0, 7, .inl (hnd a g n)))] .int inX12 tyX12_ok nmX12 m3_216 dX12_layCalls_35 rfl rfl (by decide) rfl (by decide +kernel) rfl rfl (Nat.le_of_ble_eq_true rfl) rfl ?_
    have J_89 : ∀ (gg : Nat → Int32) (f : Int32) (c : Int32) (hf : f = fe1 a p x n (10 * n)) (hcc : c = fc1 a p x n (10 * n)), G K E 6 [(q 0, .inr (12, oM q ab be f c mo bl ta tl tkn va)), (q 1, .inl (E.2.1 0, 188, .inl a)), (q 5, .inl (E.2.1 0, 7, .inl gg))] [(3, .int (nI (10 * n))), (0, .ref (q 0)), (1, .int (nI p)), (2, .int (nI x))] 89 [] := by
      intro gg f c hf hcc
      refine g_iconst (v := (nI 0)) hC dX12_layCalls_89 (by decide) ?_
      refine g_istore hC [(4, .int (nI 0)), (3, .int (nI (10 * n))), (0, .ref (q 0)), (1, .int (nI p)), (2, .int (nI x))] dX12_layCalls_90 (by decide) rfl ?_
      have L_92 : ∀ (fu : Nat) (k : Nat) (gg : Nat → Int32) (f : Int32) (c : Int32) (hk : k ≤ 10 * n) (hf2 : f = fe2 a p x n k) (hcc2 : c = fc2 a p x n k), 10 * n - k < fu → G K E 6 [(q 0, .inr (12, oM q ab be f c mo bl ta tl tkn va)), (q 1, .inl (E.2.1 0, 188, .inl a)), (q 5, .inl (E.2.1 0, 7, .inl gg))] [(4, .int (nI k)), (3, .int (nI (10 * n))), (0, .ref (q 0)), (1, .int (nI p)), (2, .int (nI x))] 92 [] := by
        intro fu
        induction fu with
        | zero => intro k gg f c hk hf2 hcc2 hm_92; exact absurd hm_92 (Nat.not_lt_zero _)
        | succ fu ih_92 =>
          intro k gg f c hk hf2 hcc2 hm_92
          refine g_iload hC dX12_layCalls_92 0 rfl ?_
          refine g_iload_n hC dX12_layCalls_94 rfl 1 rfl ?_
          refine g_icmp_geN (tgt := 164) hC dX12_layCalls_95 (by decide) (by omega) (by omega) (fun h_95 => ?_) (fun h_95 => ?_)
          · exact g_ws (by rw [(fe2_end hk (by omega)).1, (fe2_end hk (by omega)).2, hf2, hcc2]) (hR (fun i => gg) _ _ dX12_layCalls_164)
          · refine g_aload_n hC dX12_layCalls_98 rfl 2 rfl ?_
            refine g_get hC 0 12 7 inX12 m3_215 dX12_layCalls_99 rfl rfl (by decide) rfl ?_
            refine g_iconst (v := (-1)) hC dX12_layCalls_102 (by decide) ?_
            refine g_icmp_ne (tgt := 164) hC dX12_layCalls_103 (by decide) (fun h_103 => ?_) (fun h_103 => ?_)
            · exact g_ws (by rw [(fe2_end hk (Or.inr (by rw [← hf2]; exact h_103))).1, (fe2_end hk (Or.inr (by rw [← hf2]; exact h_103))).2, hf2, hcc2]) (hR (fun i => gg) _ _ dX12_layCalls_164)
            · have J_158 : ∀ (gi : Nat → Int32) (f1 : Int32) (c1 : Int32) (hfi : f1 = sfl (P2 a p x n k) (nI 2) (10 * n)) (hci : c1 = sfl (P2 a p x n k) (nI k) (10 * n)), G K E 6 [(q 0, .inr (12, oM q ab be f1 c1 mo bl ta tl tkn va)), (q 1, .inl (E.2.1 0, 188, .inl a)), (q 5, .inl (E.2.1 0, 7, .inl gi))] [(4, .int (nI k)), (3, .int (nI (10 * n))), (0, .ref (q 0)), (1, .int (nI p)), (2, .int (nI x))] 158 [] := by
                intro gi f1 c1 hfi hci
                refine g_iincN hC (q := 0) 1 [(4, .int (nI (k + 1))), (3, .int (nI (10 * n))), (0, .ref (q 0)), (1, .int (nI p)), (2, .int (nI x))] dX12_layCalls_158 rfl rfl (by decide) rfl ?_
                refine g_goto (tgt := 92) hC dX12_layCalls_161 (by decide) ?_
                refine g_lv (lv' := [(4, .int (nI (k + 1))), (3, .int (nI (10 * n))), (0, .ref (q 0)), (1, .int (nI p)), (2, .int (nI x))]) [0, 1, 2, 3, 4] rfl ?_
                exact ih_92 (k + 1) gi f1 c1 (by omega) (by rw [(fe2_s (by omega) (hf2.symm.trans h_103)).1, Q2_sfl]; exact hfi) (by rw [(fe2_s (by omega) (hf2.symm.trans h_103)).2, Q2_sfl]; exact hci) (by omega)
              refine g_iconst (v := (nI 0)) hC dX12_layCalls_106 (by decide) ?_
              refine g_istore hC [(5, .int (nI 0)), (4, .int (nI k)), (3, .int (nI (10 * n))), (0, .ref (q 0)), (1, .int (nI p)), (2, .int (nI x))] dX12_layCalls_107 (by decide) rfl ?_
              have L_109 : ∀ (fu : Nat) (j : Nat) (gi : Nat → Int32) (f1 : Int32) (c1 : Int32) (hj : j ≤ 10 * n) (hfj : f1 = sfl (P2 a p x n k) (nI 2) j) (hcj : c1 = sfl (P2 a p x n k) (nI k) j), 10 * n - j < fu → G K E 6 [(q 0, .inr (12, oM q ab be f1 c1 mo bl ta tl tkn va)), (q 1, .inl (E.2.1 0, 188, .inl a)), (q 5, .inl (E.2.1 0, 7, .inl gi))] [(5, .int (nI j)), (4, .int (nI k)), (3, .int (nI (10 * n))), (0, .ref (q 0)), (1, .int (nI p)), (2, .int (nI x))] 109 [] := by
                intro fu
                induction fu with
                | zero => intro j gi f1 c1 hj hfj hcj hm_109; exact absurd hm_109 (Nat.not_lt_zero _)
                | succ fu ih_109 =>
                  intro j gi f1 c1 hj hfj hcj hm_109
                  refine g_iload hC dX12_layCalls_109 0 rfl ?_
                  refine g_iload_n hC dX12_layCalls_111 rfl 2 rfl ?_
                  refine g_icmp_geN (tgt := 158) hC dX12_layCalls_112 (by decide) (by omega) (by omega) (fun h_112 => ?_) (fun h_112 => ?_)
                  · refine g_lv (lv' := [(4, .int (nI k)), (3, .int (nI (10 * n))), (0, .ref (q 0)), (1, .int (nI p)), (2, .int (nI x))]) [1, 2, 3, 4, 5] rfl ?_
                    exact J_158 gi f1 c1 (by rw [hfj, sfl_end hj (w := nI 2) (by omega)]) (by rw [hcj, sfl_end hj (w := nI 2) (by omega)])
                  · refine g_aload_n hC dX12_layCalls_115 rfl 3 rfl ?_
                    refine g_get hC 0 12 7 inX12 m3_215 dX12_layCalls_116 rfl rfl (by decide) rfl ?_
                    refine g_iconst (v := (-1)) hC dX12_layCalls_119 (by decide) ?_
                    refine g_icmp_ne (tgt := 158) hC dX12_layCalls_120 (by decide) (fun h_120 => ?_) (fun h_120 => ?_)
                    · refine g_lv (lv' := [(4, .int (nI k)), (3, .int (nI (10 * n))), (0, .ref (q 0)), (1, .int (nI p)), (2, .int (nI x))]) [1, 2, 3, 4, 5] rfl ?_
                      exact J_158 gi f1 c1 (by rw [hfj, sfl_end hj (w := nI 2) (Or.inr (by rw [← hfj]; exact h_120))]) (by rw [hcj, sfl_end hj (w := nI 2) (Or.inr (by rw [← hfj]; exact h_120))])
                    · refine g_aload_n hC dX12_layCalls_123 rfl 3 rfl ?_
                      refine g_iload hC dX12_layCalls_124 1 rfl ?_
                      refine g_iload hC dX12_layCalls_126 0 rfl ?_
                      refine g_callV hC (f_X12_goCodes2 (kl K) E q ab be f1 c1 mo bl ta tl tkn va a gi n k j (hn) (hn7) (hpk) (by omega) (by omega)) wX12_goCodes m4_143 dX12_layCalls_128 [0, 1, 2] [(q 0, .inr (12, oM q ab be f1 c1 mo bl ta tl tkn va)), (q 1, .inl (E.2.1 0, 188, .inl a)), (q 5, .inl (E.2.1 0, 7, .inl (cl a (cl a (hnd a gi n) k n) j n)))] 0 12 rfl rfl (by decide) rfl (Nat.le_of_ble_eq_true rfl) rfl rfl rfl rfl rfl ?_
                      refine g_aload_n hC dX12_layCalls_131 rfl 3 rfl ?_
                      refine g_get hC 0 12 6 inX12 m3_214 dX12_layCalls_132 rfl rfl (by decide) rfl ?_
                      refine g_iload_n hC dX12_layCalls_135 rfl 4 rfl ?_
                      refine g_ialdN hC 2 dX12_layCalls_136 rfl (by decide) (by omega) ?_
                      refine g_iload_n hC dX12_layCalls_137 rfl 5 rfl ?_
                      refine g_icmp_ne (tgt := 152) hC dX12_layCalls_138 (by decide) (fun h_138 => ?_) (fun h_138 => ?_)
                      · refine g_iincN hC (q := 0) 1 [(5, .int (nI (j + 1))), (4, .int (nI k)), (3, .int (nI (10 * n))), (0, .ref (q 0)), (1, .int (nI p)), (2, .int (nI x))] dX12_layCalls_152 rfl rfl (by decide) rfl ?_
                        refine g_goto (tgt := 109) hC dX12_layCalls_155 (by decide) ?_
                        refine g_lv (lv' := [(5, .int (nI (j + 1))), (4, .int (nI k)), (3, .int (nI (10 * n))), (0, .ref (q 0)), (1, .int (nI p)), (2, .int (nI x))]) [0, 1, 2, 3, 4, 5] rfl ?_
                        exact ih_109 (j + 1) (cl a (cl a (hnd a gi n) k n) j n) f1 c1 (by omega) (by rw [sfl_no (sfl_m1 (by decide) (hfj.symm.trans h_120)) (by simp [P2, ← hc2 gi, h_138])]; exact h_120) (by rw [sfl_no (sfl_m1 (by decide) (hfj.symm.trans h_120)) (by simp [P2, ← hc2 gi, h_138])]; rw [hcj]; unfold sfl; rw [if_pos (sfl_m1 (by decide) (hfj.symm.trans h_120))]) (by omega)
                      · refine g_aload_n hC dX12_layCalls_141 rfl 3 rfl ?_
                        refine g_iconst (v := (nI 2)) hC dX12_layCalls_142 (by decide) ?_
                        refine g_put hC 0 12 7 [(q 0, .inr (12, oM q ab be (nI 2) c1 mo bl ta tl tkn va)), (q 1, .inl (E.2.1 0, 188, .inl a)), (q 5, .inl (E.2.1 0, 7, .inl (cl a (cl a (hnd a gi n) k n) j n)))] .int inX12 tyX12_ok nmX12 m3_215 dX12_layCalls_143 rfl rfl (by decide) rfl (by decide +kernel) rfl rfl (Nat.le_of_ble_eq_true rfl) rfl ?_
                        refine g_aload_n hC dX12_layCalls_146 rfl 3 rfl ?_
                        refine g_iload hC dX12_layCalls_147 1 rfl ?_
                        refine g_put hC 0 12 8 [(q 0, .inr (12, oM q ab be (nI 2) (nI k) mo bl ta tl tkn va)), (q 1, .inl (E.2.1 0, 188, .inl a)), (q 5, .inl (E.2.1 0, 7, .inl (cl a (cl a (hnd a gi n) k n) j n)))] .int inX12 tyX12_ok nmX12 m3_216 dX12_layCalls_149 rfl rfl (by decide) rfl (by decide +kernel) rfl rfl (Nat.le_of_ble_eq_true rfl) rfl ?_
                        refine g_iincN hC (q := 0) 1 [(5, .int (nI (j + 1))), (4, .int (nI k)), (3, .int (nI (10 * n))), (0, .ref (q 0)), (1, .int (nI p)), (2, .int (nI x))] dX12_layCalls_152 rfl rfl (by decide) rfl ?_
                        refine g_goto (tgt := 109) hC dX12_layCalls_155 (by decide) ?_
                        refine g_lv (lv' := [(5, .int (nI (j + 1))), (4, .int (nI k)), (3, .int (nI (10 * n))), (0, .ref (q 0)), (1, .int (nI p)), (2, .int (nI x))]) [0, 1, 2, 3, 4, 5] rfl ?_
                        exact ih_109 (j + 1) (cl a (cl a (hnd a gi n) k n) j n) (nI 2) (nI k) (by omega) (by rw [sfl_yes (by omega) (sfl_m1 (by decide) (hfj.symm.trans h_120)) (by simp [P2, ← hc2 gi, h_138])]) (by rw [sfl_yes (by omega) (sfl_m1 (by decide) (hfj.symm.trans h_120)) (by simp [P2, ← hc2 gi, h_138])]) (by omega)
              refine g_lv (lv' := [(5, .int (nI 0)), (4, .int (nI k)), (3, .int (nI (10 * n))), (0, .ref (q 0)), (1, .int (nI p)), (2, .int (nI x))]) [0, 1, 2, 3, 4, 5] rfl ?_
              exact L_109 ((10 * n - 0) + 1) 0 gg f c (by omega) (by rw [h_103]; rfl) (by rw [hcc2, fc2_m1 (hf2.symm.trans h_103)]; rfl) (Nat.lt_succ_self _)
      refine g_lv (lv' := [(4, .int (nI 0)), (3, .int (nI (10 * n))), (0, .ref (q 0)), (1, .int (nI p)), (2, .int (nI x))]) [0, 1, 2, 3, 4] rfl ?_
      exact L_92 ((10 * n - 0) + 1) 0 gg f c (by omega) (by rw [hf, (fe2_0 a p x n).1]) (by rw [hcc, (fe2_0 a p x n).2]) (Nat.lt_succ_self _)
    refine g_iconst (v := (nI 0)) hC dX12_layCalls_38 (by decide) ?_
    refine g_istore hC [(4, .int (nI 0)), (3, .int (nI (10 * n))), (0, .ref (q 0)), (1, .int (nI p)), (2, .int (nI x))] dX12_layCalls_39 (by decide) rfl ?_
    have L_41 : ∀ (fu : Nat) (k : Nat) (gg : Nat → Int32) (f : Int32) (c : Int32) (hk : k ≤ 10 * n) (hf1 : f = fe1 a p x n k) (hcc1 : c = fc1 a p x n k), 10 * n - k < fu → G K E 6 [(q 0, .inr (12, oM q ab be f c mo bl ta tl tkn va)), (q 1, .inl (E.2.1 0, 188, .inl a)), (q 5, .inl (E.2.1 0, 7, .inl gg))] [(4, .int (nI k)), (3, .int (nI (10 * n))), (0, .ref (q 0)), (1, .int (nI p)), (2, .int (nI x))] 41 [] := by
      intro fu
      induction fu with
      | zero => intro k gg f c hk hf1 hcc1 hm_41; exact absurd hm_41 (Nat.not_lt_zero _)
      | succ fu ih_41 =>
        intro k gg f c hk hf1 hcc1 hm_41
        refine g_iload hC dX12_layCalls_41 0 rfl ?_
        refine g_iload_n hC dX12_layCalls_43 rfl 1 rfl ?_
        refine g_icmp_geN (tgt := 89) hC dX12_layCalls_44 (by decide) (by omega) (by omega) (fun h_44 => ?_) (fun h_44 => ?_)
        · refine g_lv (lv' := [(3, .int (nI (10 * n))), (0, .ref (q 0)), (1, .int (nI p)), (2, .int (nI x))]) [1, 2, 3, 4] rfl ?_
          exact J_89 gg f c (by rw [hf1, (fe1_end hk (by omega)).1]) (by rw [hcc1, (fe1_end hk (by omega)).2])
        · refine g_aload_n hC dX12_layCalls_47 rfl 2 rfl ?_
          refine g_get hC 0 12 7 inX12 m3_215 dX12_layCalls_48 rfl rfl (by decide) rfl ?_
          refine g_iconst (v := (-1)) hC dX12_layCalls_51 (by decide) ?_
          refine g_icmp_ne (tgt := 89) hC dX12_layCalls_52 (by decide) (fun h_52 => ?_) (fun h_52 => ?_)
          · refine g_lv (lv' := [(3, .int (nI (10 * n))), (0, .ref (q 0)), (1, .int (nI p)), (2, .int (nI x))]) [1, 2, 3, 4] rfl ?_
            exact J_89 gg f c (by rw [hf1, (fe1_end hk (Or.inr (by rw [← hf1]; exact h_52))).1]) (by rw [hcc1, (fe1_end hk (Or.inr (by rw [← hf1]; exact h_52))).2])
          · refine g_aload_n hC dX12_layCalls_55 rfl 2 rfl ?_
            refine g_iload hC dX12_layCalls_56 0 rfl ?_
            refine g_iconst (v := (-1)) hC dX12_layCalls_58 (by decide) ?_
            refine g_callV hC (f_X12_goCodes1 (kl K) E q ab be f c mo bl ta tl tkn va a gg n k (hn) (hn7) (hpk) (by omega)) wX12_goCodes m4_143 dX12_layCalls_59 [0, 1, 2] [(q 0, .inr (12, oM q ab be f c mo bl ta tl tkn va)), (q 1, .inl (E.2.1 0, 188, .inl a)), (q 5, .inl (E.2.1 0, 7, .inl (cl a (hnd a gg n) k n)))] 0 12 rfl rfl (by decide) rfl (Nat.le_of_ble_eq_true rfl) rfl rfl rfl rfl rfl ?_
            refine g_aload_n hC dX12_layCalls_62 rfl 2 rfl ?_
            refine g_get hC 0 12 6 inX12 m3_214 dX12_layCalls_63 rfl rfl (by decide) rfl ?_
            refine g_iload_n hC dX12_layCalls_66 rfl 3 rfl ?_
            refine g_ialdN hC 2 dX12_layCalls_67 rfl (by decide) (by omega) ?_
            refine g_iload_n hC dX12_layCalls_68 rfl 4 rfl ?_
            refine g_icmp_ne (tgt := 83) hC dX12_layCalls_69 (by decide) (fun h_69 => ?_) (fun h_69 => ?_)
            · refine g_iincN hC (q := 0) 1 [(4, .int (nI (k + 1))), (3, .int (nI (10 * n))), (0, .ref (q 0)), (1, .int (nI p)), (2, .int (nI x))] dX12_layCalls_83 rfl rfl (by decide) rfl ?_
              refine g_goto (tgt := 41) hC dX12_layCalls_86 (by decide) ?_
              refine g_lv (lv' := [(4, .int (nI (k + 1))), (3, .int (nI (10 * n))), (0, .ref (q 0)), (1, .int (nI p)), (2, .int (nI x))]) [0, 1, 2, 3, 4] rfl ?_
              exact ih_41 (k + 1) (cl a (hnd a gg n) k n) f c (by omega) (by rw [(fe1_s (by omega) (hf1.symm.trans h_52)).1, if_neg (by simp [P1, ← hc1 gg, h_69])]; exact h_52) (by rw [(fe1_s (by omega) (hf1.symm.trans h_52)).2, if_neg (by simp [P1, ← hc1 gg, h_69])]; rw [hcc1]; exact fc1_m1 (hf1.symm.trans h_52)) (by omega)
            · refine g_aload_n hC dX12_layCalls_72 rfl 2 rfl ?_
              refine g_iconst (v := (nI 1)) hC dX12_layCalls_73 (by decide) ?_
              refine g_put hC 0 12 7 [(q 0, .inr (12, oM q ab be (nI 1) c mo bl ta tl tkn va)), (q 1, .inl (E.2.1 0, 188, .inl a)), (q 5, .inl (E.2.1 0, 7, .inl (cl a (hnd a gg n) k n)))] .int inX12 tyX12_ok nmX12 m3_215 dX12_layCalls_74 rfl rfl (by decide) rfl (by decide +kernel) rfl rfl (Nat.le_of_ble_eq_true rfl) rfl ?_
              refine g_aload_n hC dX12_layCalls_77 rfl 2 rfl ?_
              refine g_iload hC dX12_layCalls_78 0 rfl ?_
              refine g_put hC 0 12 8 [(q 0, .inr (12, oM q ab be (nI 1) (nI k) mo bl ta tl tkn va)), (q 1, .inl (E.2.1 0, 188, .inl a)), (q 5, .inl (E.2.1 0, 7, .inl (cl a (hnd a gg n) k n)))] .int inX12 tyX12_ok nmX12 m3_216 dX12_layCalls_80 rfl rfl (by decide) rfl (by decide +kernel) rfl rfl (Nat.le_of_ble_eq_true rfl) rfl ?_
              refine g_iincN hC (q := 0) 1 [(4, .int (nI (k + 1))), (3, .int (nI (10 * n))), (0, .ref (q 0)), (1, .int (nI p)), (2, .int (nI x))] dX12_layCalls_83 rfl rfl (by decide) rfl ?_
              refine g_goto (tgt := 41) hC dX12_layCalls_86 (by decide) ?_
              refine g_lv (lv' := [(4, .int (nI (k + 1))), (3, .int (nI (10 * n))), (0, .ref (q 0)), (1, .int (nI p)), (2, .int (nI x))]) [0, 1, 2, 3, 4] rfl ?_
              exact ih_41 (k + 1) (cl a (hnd a gg n) k n) (nI 1) (nI k) (by omega) (by rw [(fe1_s (by omega) (hf1.symm.trans h_52)).1, if_pos (by simp [P1, ← hc1 gg, h_69])]) (by rw [(fe1_s (by omega) (hf1.symm.trans h_52)).2, if_pos (by simp [P1, ← hc1 gg, h_69])]) (by omega)
    refine g_lv (lv' := [(4, .int (nI 0)), (3, .int (nI (10 * n))), (0, .ref (q 0)), (1, .int (nI p)), (2, .int (nI x))]) [0, 1, 2, 3, 4] rfl ?_
    exact L_41 ((10 * n - 0) + 1) 0 (hnd a g n) f0 (-1) (by omega) (hf0) (by unfold fc1; split <;> rfl) (Nat.lt_succ_self _)
  refine g_aload_n hC dX12_layCalls_14 rfl 1 rfl ?_
  refine g_aload_n hC dX12_layCalls_15 rfl 1 rfl ?_
  refine g_get hC 0 12 6 inX12 m3_214 dX12_layCalls_16 rfl rfl (by decide) rfl ?_
  refine g_iload_n hC dX12_layCalls_19 rfl 2 rfl ?_
  refine g_ialdN hC 2 dX12_layCalls_20 rfl (by decide) (by omega) ?_
  refine g_iload_n hC dX12_layCalls_21 rfl 3 rfl ?_
  refine g_icmp_ne (tgt := 29) hC dX12_layCalls_22 (by decide) (fun h_22 => ?_) (fun h_22 => ?_)
  · refine g_iconst (v := (-1)) hC dX12_layCalls_29 (by decide) ?_
    refine g_lv (lv' := [(3, .int (nI (10 * n))), (0, .ref (q 0)), (1, .int (nI p)), (2, .int (nI x))]) [0, 1, 2, 3] rfl ?_
    exact J_30 (-1) (by rw [hh] at h_22; unfold fe1; rw [if_neg h_22]; rfl)
  · refine g_iconst (v := (nI 0)) hC dX12_layCalls_25 (by decide) ?_
    refine g_goto (tgt := 30) hC dX12_layCalls_26 (by decide) ?_
    refine g_lv (lv' := [(3, .int (nI (10 * n))), (0, .ref (q 0)), (1, .int (nI p)), (2, .int (nI x))]) [0, 1, 2, 3] rfl ?_
    exact J_30 (nI 0) (by rw [hh] at h_22; unfold fe1; rw [if_pos h_22])
set_option maxHeartbeats 4000000 in
set_option maxRecDepth 100000 in
theorem f_X12_calls_ok (l : Launch) (E : Ew) (q : Nat → Nat) (ab : Int64) (be : Int64) (fe : Int32) (fc : Int32) (mo : Int32) (bl : Int32) (ta : Int32) (tl : Int32) (tkn : Int32) (va : Int32) (a : Nat → Int32) (r : Nat → Int32) (g : Nat → Int32) (n : Nat) (p : Nat) (x : Nat) (wh : Nat) (hn : a 0 = nI n) (hn7 : n ≤ 7) (hpk : ∀ p, p < n → isN (a (12 + p)) 10 ∧ isN (a (19 + p)) 6) (hp : p < n) (hx : x < n) (hwh : wh < 2) : Fe l E 6 yX12_calls cX12_calls 4 (some .int) [.ref (q 0), .int (nI p), .int (nI x), .int (nI wh)] [(q 0, .inr (12, oM q ab be fe fc mo bl ta tl tkn va)), (q 1, .inl (E.2.1 0, 188, .inl a)), (q 4, .inl (E.2.1 0, 3, .inl r)), (q 5, .inl (E.2.1 0, 7, .inl g))] (some (.int (if wh = 0 then fe2 a p x n (10 * n) else fc2 a p x n (10 * n)))) (fun jj => [(q 0, .inr (12, oM q ab be (fe2 a p x n (10 * n)) (fc2 a p x n (10 * n)) mo bl ta tl tkn va)), (q 1, .inl (E.2.1 0, 188, .inl a)), (q 4, .inl (E.2.1 0, 3, .inl r)), (q 5, .inl (E.2.1 0, 7, .inl (jj 0)))]) := by
  refine fe_I (by decide) (Nat.le_of_ble_eq_true rfl) (fun _ => rfl) ?_
  intro K hC hR
  show G K E 4 [(q 0, .inr (12, oM q ab be fe fc mo bl ta tl tkn va)), (q 1, .inl (E.2.1 0, 188, .inl a)), (q 4, .inl (E.2.1 0, 3, .inl r)), (q 5, .inl (E.2.1 0, 7, .inl g))] [(0, .ref (q 0)), (1, .int (nI p)), (2, .int (nI x)), (3, .int (nI wh))] 0 []
  refine g_aload_n hC dX12_calls_0 rfl 0 rfl ?_
  refine g_iload_n hC dX12_calls_1 rfl 1 rfl ?_
  refine g_callV hC (f_X12_isOne (kl K) E q ab be fe fc mo bl ta tl tkn va a n (nI p) (hn) (by omega)) wX12_isOne m4_62 dX12_calls_2 [0, 1] [(q 0, .inr (12, oM q ab be fe fc mo bl ta tl tkn va)), (q 1, .inl (E.2.1 0, 188, .inl a)), (q 4, .inl (E.2.1 0, 3, .inl r)), (q 5, .inl (E.2.1 0, 7, .inl g))] 0 12 rfl rfl (by decide) rfl (Nat.le_of_ble_eq_true rfl) rfl rfl rfl rfl rfl ?_
  refine g_if_eqB (tgt := 26) hC dX12_calls_5 (by decide) (fun h_5 => ?_) (fun h_5 => ?_)
  · exact Bool.noConfusion ((inB_ok (by omega) (by omega)).symm.trans h_5)
  · refine g_aload_n hC dX12_calls_8 rfl 0 rfl ?_
    refine g_iload_n hC dX12_calls_9 rfl 2 rfl ?_
    refine g_callV hC (f_X12_isOne (kl K) E q ab be fe fc mo bl ta tl tkn va a n (nI x) (hn) (by omega)) wX12_isOne m4_62 dX12_calls_10 [0, 1] [(q 0, .inr (12, oM q ab be fe fc mo bl ta tl tkn va)), (q 1, .inl (E.2.1 0, 188, .inl a)), (q 4, .inl (E.2.1 0, 3, .inl r)), (q 5, .inl (E.2.1 0, 7, .inl g))] 0 12 rfl rfl (by decide) rfl (Nat.le_of_ble_eq_true rfl) rfl rfl rfl rfl rfl ?_
    refine g_if_eqB (tgt := 26) hC dX12_calls_13 (by decide) (fun h_13 => ?_) (fun h_13 => ?_)
    · exact Bool.noConfusion ((inB_ok (by omega) (by omega)).symm.trans h_13)
    · refine g_iload_n hC dX12_calls_16 rfl 3 rfl ?_
      refine g_i2l hC dX12_calls_17 ?_
      refine g_lconst (v := 0) hC dX12_calls_18 (by decide) ?_
      refine g_lconst (v := 1) hC dX12_calls_19 (by decide) ?_
      refine g_callS hC (f_X12_in (kl K) E ((nI wh).toInt64) 0 1) wX12_in m4_31 dX12_calls_20 [] [(q 0, .inr (12, oM q ab be fe fc mo bl ta tl tkn va)), (q 1, .inl (E.2.1 0, 188, .inl a)), (q 4, .inl (E.2.1 0, 3, .inl r)), (q 5, .inl (E.2.1 0, 7, .inl g))] (by decide) rfl (Nat.le_of_ble_eq_true rfl) rfl rfl rfl rfl rfl ?_
      refine g_val (v' := .int (bI (inB (nI wh) 2))) (by rw [inlC (n := 2) (by decide)]) ?_
      refine g_if_neB (tgt := 33) hC dX12_calls_23 (by decide) (fun h_23 => ?_) (fun h_23 => ?_)
      · refine g_aload_n hC dX12_calls_33 rfl 0 rfl ?_
        refine g_iload_n hC dX12_calls_34 rfl 1 rfl ?_
        refine g_iload_n hC dX12_calls_35 rfl 2 rfl ?_
        refine g_callVE hC (f_X12_layCalls (kl K) E q ab be fe fc mo bl ta tl tkn va a g n p x (hn) (hn7) (hpk) (by omega) (by omega)) wX12_layCalls m4_139 dX12_calls_36 [0, 1, 3] (fun jj => [(q 0, .inr (12, oM q ab be (fe2 a p x n (10 * n)) (fc2 a p x n (10 * n)) mo bl ta tl tkn va)), (q 1, .inl (E.2.1 0, 188, .inl a)), (q 4, .inl (E.2.1 0, 3, .inl r)), (q 5, .inl (E.2.1 0, 7, .inl (jj 0)))]) 0 12 rfl rfl (by decide) rfl (Nat.le_of_ble_eq_true rfl) rfl rfl rfl (fun _ => rfl) (fun _ => rfl) (fun jj_36 => ?_)
        refine g_iload_n hC dX12_calls_39 rfl 3 rfl ?_
        refine g_if_neN (tgt := 50) hC dX12_calls_40 (by decide) (by omega) (fun h_40 => ?_) (fun h_40 => ?_)
        · refine g_aload_n hC dX12_calls_50 rfl 0 rfl ?_
          refine g_get hC 0 12 8 inX12 m3_216 dX12_calls_51 rfl rfl (by decide) rfl ?_
          exact g_val (by simp [h_40]) (g_ws (rfl) (hR (fun i => (jj_36 0)) _ _ dX12_calls_54))
        · refine g_aload_n hC dX12_calls_43 rfl 0 rfl ?_
          refine g_get hC 0 12 7 inX12 m3_215 dX12_calls_44 rfl rfl (by decide) rfl ?_
          refine g_goto (tgt := 54) hC dX12_calls_47 (by decide) ?_
          exact g_val (by simp [h_40]) (g_ws (rfl) (hR (fun i => (jj_36 0)) _ _ dX12_calls_54))
      · exact Bool.noConfusion ((inB_ok (by omega) (by omega)).symm.trans h_23)
set_option maxHeartbeats 4000000 in
set_option maxRecDepth 100000 in
theorem f_X12_calls_bad (l : Launch) (E : Ew) (q : Nat → Nat) (ab : Int64) (be : Int64) (fe : Int32) (fc : Int32) (mo : Int32) (bl : Int32) (ta : Int32) (tl : Int32) (tkn : Int32) (va : Int32) (a : Nat → Int32) (r : Nat → Int32) (n : Nat) (p : Int32) (x : Int32) (wh : Int32) (hn : a 0 = nI n) (hn7 : n ≤ 7) (hb : (inB p n && inB x n && inB wh 2) = false) : Fn l E 2 yX12_calls cX12_calls 4 (some .int) [.ref (q 0), .int p, .int x, .int wh] [(q 0, .inr (12, oM q ab be fe fc mo bl ta tl tkn va)), (q 1, .inl (E.2.1 0, 188, .inl a)), (q 4, .inl (E.2.1 0, 3, .inl r))] (some (.int (-2))) [(q 0, .inr (12, oM q ab be fe fc mo bl ta tl tkn va)), (q 1, .inl (E.2.1 0, 188, .inl a)), (q 4, .inl (E.2.1 0, 3, .inl (upd r 0 (r 0 + nI 1))))] := by
  refine fn_I (by decide) (Nat.le_of_ble_eq_true rfl) rfl ?_
  intro K hC hR
  show G K E 4 [(q 0, .inr (12, oM q ab be fe fc mo bl ta tl tkn va)), (q 1, .inl (E.2.1 0, 188, .inl a)), (q 4, .inl (E.2.1 0, 3, .inl r))] [(0, .ref (q 0)), (1, .int p), (2, .int x), (3, .int wh)] 0 []
  refine g_aload_n hC dX12_calls_0 rfl 0 rfl ?_
  refine g_iload_n hC dX12_calls_1 rfl 1 rfl ?_
  refine g_callV hC (f_X12_isOne (kl K) E q ab be fe fc mo bl ta tl tkn va a n p (hn) (by omega)) wX12_isOne m4_62 dX12_calls_2 [0, 1] [(q 0, .inr (12, oM q ab be fe fc mo bl ta tl tkn va)), (q 1, .inl (E.2.1 0, 188, .inl a)), (q 4, .inl (E.2.1 0, 3, .inl r))] 0 12 rfl rfl (by decide) rfl (Nat.le_of_ble_eq_true rfl) rfl rfl rfl rfl rfl ?_
  refine g_if_eqB (tgt := 26) hC dX12_calls_5 (by decide) (fun h_5 => ?_) (fun h_5 => ?_)
  · refine g_aload_n hC dX12_calls_26 rfl 0 rfl ?_
    refine g_bipush (v := (-2)) hC dX12_calls_27 (by decide) ?_
    refine g_callV hC (f_X12_bad (kl K) E q ab be fe fc mo bl ta tl tkn va r (-2)) wX12_bad m4_34 dX12_calls_29 [0, 2] [(q 0, .inr (12, oM q ab be fe fc mo bl ta tl tkn va)), (q 1, .inl (E.2.1 0, 188, .inl a)), (q 4, .inl (E.2.1 0, 3, .inl (upd r 0 (r 0 + nI 1))))] 0 12 rfl rfl (by decide) rfl (Nat.le_of_ble_eq_true rfl) rfl rfl rfl rfl rfl ?_
    exact g_val (rfl) (g_ws (rfl) (hR _ _ dX12_calls_32))
  · refine g_aload_n hC dX12_calls_8 rfl 0 rfl ?_
    refine g_iload_n hC dX12_calls_9 rfl 2 rfl ?_
    refine g_callV hC (f_X12_isOne (kl K) E q ab be fe fc mo bl ta tl tkn va a n x (hn) (by omega)) wX12_isOne m4_62 dX12_calls_10 [0, 1] [(q 0, .inr (12, oM q ab be fe fc mo bl ta tl tkn va)), (q 1, .inl (E.2.1 0, 188, .inl a)), (q 4, .inl (E.2.1 0, 3, .inl r))] 0 12 rfl rfl (by decide) rfl (Nat.le_of_ble_eq_true rfl) rfl rfl rfl rfl rfl ?_
    refine g_if_eqB (tgt := 26) hC dX12_calls_13 (by decide) (fun h_13 => ?_) (fun h_13 => ?_)
    · refine g_aload_n hC dX12_calls_26 rfl 0 rfl ?_
      refine g_bipush (v := (-2)) hC dX12_calls_27 (by decide) ?_
      refine g_callV hC (f_X12_bad (kl K) E q ab be fe fc mo bl ta tl tkn va r (-2)) wX12_bad m4_34 dX12_calls_29 [0, 2] [(q 0, .inr (12, oM q ab be fe fc mo bl ta tl tkn va)), (q 1, .inl (E.2.1 0, 188, .inl a)), (q 4, .inl (E.2.1 0, 3, .inl (upd r 0 (r 0 + nI 1))))] 0 12 rfl rfl (by decide) rfl (Nat.le_of_ble_eq_true rfl) rfl rfl rfl rfl rfl ?_
      exact g_val (rfl) (g_ws (rfl) (hR _ _ dX12_calls_32))
    · refine g_iload_n hC dX12_calls_16 rfl 3 rfl ?_
      refine g_i2l hC dX12_calls_17 ?_
      refine g_lconst (v := 0) hC dX12_calls_18 (by decide) ?_
      refine g_lconst (v := 1) hC dX12_calls_19 (by decide) ?_
      refine g_callS hC (f_X12_in (kl K) E wh.toInt64 0 1) wX12_in m4_31 dX12_calls_20 [] [(q 0, .inr (12, oM q ab be fe fc mo bl ta tl tkn va)), (q 1, .inl (E.2.1 0, 188, .inl a)), (q 4, .inl (E.2.1 0, 3, .inl r))] (by decide) rfl (Nat.le_of_ble_eq_true rfl) rfl rfl rfl rfl rfl ?_
      refine g_val (v' := .int (bI (inB wh 2))) (by rw [inlC (n := 2) (by decide)]) ?_
      refine g_if_neB (tgt := 33) hC dX12_calls_23 (by decide) (fun h_23 => ?_) (fun h_23 => ?_)
      · exact absurd hb (by simp [h_5, h_13, h_23])
      · refine g_aload_n hC dX12_calls_26 rfl 0 rfl ?_
        refine g_bipush (v := (-2)) hC dX12_calls_27 (by decide) ?_
        refine g_callV hC (f_X12_bad (kl K) E q ab be fe fc mo bl ta tl tkn va r (-2)) wX12_bad m4_34 dX12_calls_29 [0, 2] [(q 0, .inr (12, oM q ab be fe fc mo bl ta tl tkn va)), (q 1, .inl (E.2.1 0, 188, .inl a)), (q 4, .inl (E.2.1 0, 3, .inl (upd r 0 (r 0 + nI 1))))] 0 12 rfl rfl (by decide) rfl (Nat.le_of_ble_eq_true rfl) rfl rfl rfl rfl rfl ?_
        exact g_val (rfl) (g_ws (rfl) (hR _ _ dX12_calls_32))
set_option maxHeartbeats 4000000 in
set_option maxRecDepth 100000 in
theorem f_X12_judgeOwn (l : Launch) (E : Ew) (q : Nat → Nat) (ab : Int64) (be : Int64) (fe : Int32) (fc : Int32) (mo : Int32) (bl : Int32) (ta : Int32) (tl : Int32) (tkn : Int32) (va : Int32) (a : Nat → Int32) (g : Nat → Int32) (n : Nat) (c : Int32) (f : Int32) (hn : a 0 = nI n) (hn7 : n ≤ 7) : Fn l E 2 yX12_judgeOwn cX12_judgeOwn 4 none [.ref (q 0), .int c, .int f] [(q 0, .inr (12, oM q ab be fe fc mo bl ta tl tkn va)), (q 1, .inl (E.2.1 0, 188, .inl a)), (q 5, .inl (E.2.1 0, 7, .inl g))] none [(q 0, .inr (12, oM q ab be ((jd (mo, fe, fc) (ow g n) c f).2.1) ((jd (mo, fe, fc) (ow g n) c f).2.2) ((jd (mo, fe, fc) (ow g n) c f).1) bl ta tl tkn va)), (q 1, .inl (E.2.1 0, 188, .inl a)), (q 5, .inl (E.2.1 0, 7, .inl g))] := by
  refine fn_V (by decide) (Nat.le_of_ble_eq_true rfl) rfl ?_
  intro K hC hR
  show G K E 4 [(q 0, .inr (12, oM q ab be fe fc mo bl ta tl tkn va)), (q 1, .inl (E.2.1 0, 188, .inl a)), (q 5, .inl (E.2.1 0, 7, .inl g))] [(0, .ref (q 0)), (1, .int c), (2, .int f)] 0 []
  refine g_aload_n hC dX12_judgeOwn_0 rfl 0 rfl ?_
  refine g_callV hC (f_X12_ownNow (kl K) E q ab be fe fc mo bl ta tl tkn va a g n (hn) (hn7)) wX12_ownNow m4_159 dX12_judgeOwn_1 [0, 1, 2] [(q 0, .inr (12, oM q ab be fe fc mo bl ta tl tkn va)), (q 1, .inl (E.2.1 0, 188, .inl a)), (q 5, .inl (E.2.1 0, 7, .inl g))] 0 12 rfl rfl (by decide) rfl (Nat.le_of_ble_eq_true rfl) rfl rfl rfl rfl rfl ?_
  refine g_istore_n hC [(3, .int (nI (ow g n))), (0, .ref (q 0)), (1, .int c), (2, .int f)] dX12_judgeOwn_4 rfl (by decide) rfl ?_
  refine g_iload_n hC dX12_judgeOwn_5 rfl 0 rfl ?_
  refine g_aload_n hC dX12_judgeOwn_6 rfl 1 rfl ?_
  refine g_get hC 0 12 9 inX12 m3_217 dX12_judgeOwn_7 rfl rfl (by decide) rfl ?_
  refine g_icmp_le (tgt := 28) hC dX12_judgeOwn_10 (by decide) (fun h_10 => ?_) (fun h_10 => ?_)
  · exact g_ws (by simp [jd, h_10]) (hR _ _ dX12_judgeOwn_28)
  · refine g_aload_n hC dX12_judgeOwn_13 rfl 1 rfl ?_
    refine g_iload_n hC dX12_judgeOwn_14 rfl 0 rfl ?_
    refine g_put hC 0 12 9 [(q 0, .inr (12, oM q ab be fe fc (nI (ow g n)) bl ta tl tkn va)), (q 1, .inl (E.2.1 0, 188, .inl a)), (q 5, .inl (E.2.1 0, 7, .inl g))] .int inX12 tyX12_ok nmX12 m3_217 dX12_judgeOwn_15 rfl rfl (by decide) rfl (by decide +kernel) rfl rfl (Nat.le_of_ble_eq_true rfl) rfl ?_
    refine g_aload_n hC dX12_judgeOwn_18 rfl 1 rfl ?_
    refine g_iload_n hC dX12_judgeOwn_19 rfl 2 rfl ?_
    refine g_put hC 0 12 7 [(q 0, .inr (12, oM q ab be c fc (nI (ow g n)) bl ta tl tkn va)), (q 1, .inl (E.2.1 0, 188, .inl a)), (q 5, .inl (E.2.1 0, 7, .inl g))] .int inX12 tyX12_ok nmX12 m3_215 dX12_judgeOwn_20 rfl rfl (by decide) rfl (by decide +kernel) rfl rfl (Nat.le_of_ble_eq_true rfl) rfl ?_
    refine g_aload_n hC dX12_judgeOwn_23 rfl 1 rfl ?_
    refine g_iload_n hC dX12_judgeOwn_24 rfl 3 rfl ?_
    refine g_put hC 0 12 8 [(q 0, .inr (12, oM q ab be c f (nI (ow g n)) bl ta tl tkn va)), (q 1, .inl (E.2.1 0, 188, .inl a)), (q 5, .inl (E.2.1 0, 7, .inl g))] .int inX12 tyX12_ok nmX12 m3_216 dX12_judgeOwn_25 rfl rfl (by decide) rfl (by decide +kernel) rfl rfl (Nat.le_of_ble_eq_true rfl) rfl ?_
    exact g_ws (by simp [jd, h_10]) (hR _ _ dX12_judgeOwn_28)
set_option maxHeartbeats 4000000 in
set_option maxRecDepth 100000 in
theorem f_X12_layOwn (l : Launch) (E : Ew) (q : Nat → Nat) (ab : Int64) (be : Int64) (fe : Int32) (fc : Int32) (mo : Int32) (bl : Int32) (ta : Int32) (tl : Int32) (tkn : Int32) (va : Int32) (a : Nat → Int32) (g : Nat → Int32) (n : Nat) (hn : a 0 = nI n) (hn7 : n ≤ 7) (hpk : ∀ p, p < n → isN (a (12 + p)) 10 ∧ isN (a (19 + p)) 6) : Fe l E 5 yX12_layOwn cX12_layOwn 4 none [.ref (q 0)] [(q 0, .inr (12, oM q ab be fe fc mo bl ta tl tkn va)), (q 1, .inl (E.2.1 0, 188, .inl a)), (q 5, .inl (E.2.1 0, 7, .inl g))] none (fun jj => [(q 0, .inr (12, oM q ab be ((owF a n fe fc).2.1) ((owF a n fe fc).2.2) ((owF a n fe fc).1) bl ta tl tkn va)), (q 1, .inl (E.2.1 0, 188, .inl a)), (q 5, .inl (E.2.1 0, 7, .inl (jj 0)))]) := by
  refine fe_V (by decide) (Nat.le_of_ble_eq_true rfl) (fun _ => rfl) ?_
  intro K hC hR
  show G K E 4 [(q 0, .inr (12, oM q ab be fe fc mo bl ta tl tkn va)), (q 1, .inl (E.2.1 0, 188, .inl a)), (q 5, .inl (E.2.1 0, 7, .inl g))] [(0, .ref (q 0))] 0 []
  have hw1 : ∀ (gg : Nat → Int32) (c : Nat), ow (cl a (hnd a gg n) c n) n = ow (cl a (N5 a) c n) n := fun gg c => ow_cong (cl_cong hnd5)
  have hw2 : ∀ (gg : Nat → Int32) (c e : Nat), ow (cl a (cl a (hnd a gg n) c n) e n) n = ow (cl a (cl a (N5 a) c n) e n) n := fun gg c e => ow_cong (cl_cong (cl_cong hnd5))
  have hw0 : ∀ gg : Nat → Int32, ow (hnd a gg n) n = ow (N5 a) n := fun gg => ow_cong hnd5
  refine g_bipush (v := (nI 10)) hC dX12_layOwn_0 (by decide) ?_
  refine g_aload_n hC dX12_layOwn_2 rfl 0 rfl ?_
  refine g_callV hC (f_X12_many (kl K) E q ab be fe fc mo bl ta tl tkn va a) wX12_many m4_38 dX12_layOwn_3 [0, 1] [(q 0, .inr (12, oM q ab be fe fc mo bl ta tl tkn va)), (q 1, .inl (E.2.1 0, 188, .inl a)), (q 5, .inl (E.2.1 0, 7, .inl g))] 0 12 rfl rfl (by decide) rfl (Nat.le_of_ble_eq_true rfl) rfl rfl rfl rfl rfl ?_
  refine g_val (v' := .int (nI n)) (by rw [hn]) ?_
  refine g_imulN hC dX12_layOwn_6 ?_
  refine g_istore_n hC [(1, .int (nI (10 * n))), (0, .ref (q 0))] dX12_layOwn_7 rfl (by decide) rfl ?_
  refine g_aload_n hC dX12_layOwn_8 rfl 1 rfl ?_
  refine g_iconst (v := (-1)) hC dX12_layOwn_9 (by decide) ?_
  refine g_put hC 0 12 9 [(q 0, .inr (12, oM q ab be fe fc (-1) bl ta tl tkn va)), (q 1, .inl (E.2.1 0, 188, .inl a)), (q 5, .inl (E.2.1 0, 7, .inl g))] .int inX12 tyX12_ok nmX12 m3_217 dX12_layOwn_10 rfl rfl (by decide) rfl (by decide +kernel) rfl rfl (Nat.le_of_ble_eq_true rfl) rfl ?_
  refine g_aload_n hC dX12_layOwn_13 rfl 1 rfl ?_
  refine g_iconst (v := (-1)) hC dX12_layOwn_14 (by decide) ?_
  refine g_iconst (v := (-1)) hC dX12_layOwn_15 (by decide) ?_
  refine g_callV hC (f_X12_goCodes0 (kl K) E q ab be fe fc (-1) bl ta tl tkn va a g n (hn) (hn7) (hpk)) wX12_goCodes m4_143 dX12_layOwn_16 [0, 1, 2] [(q 0, .inr (12, oM q ab be fe fc (-1) bl ta tl tkn va)), (q 1, .inl (E.2.1 0, 188, .inl a)), (q 5, .inl (E.2.1 0, 7, .inl (hnd a g n)))] 0 12 rfl rfl (by decide) rfl (Nat.le_of_ble_eq_true rfl) rfl rfl rfl rfl rfl ?_
  refine g_aload_n hC dX12_layOwn_19 rfl 1 rfl ?_
  refine g_iconst (v := (nI 0)) hC dX12_layOwn_20 (by decide) ?_
  refine g_iconst (v := (-1)) hC dX12_layOwn_21 (by decide) ?_
  refine g_callV hC (f_X12_judgeOwn (kl K) E q ab be fe fc (-1) bl ta tl tkn va a (hnd a g n) n (nI 0) (-1) (hn) (hn7)) wX12_judgeOwn m4_155 dX12_layOwn_22 [0, 1, 2] [(q 0, .inr (12, oM q ab be ((jd ((-1), fe, fc) (ow (hnd a g n) n) (nI 0) (-1)).2.1) ((jd ((-1), fe, fc) (ow (hnd a g n) n) (nI 0) (-1)).2.2) ((jd ((-1), fe, fc) (ow (hnd a g n) n) (nI 0) (-1)).1) bl ta tl tkn va)), (q 1, .inl (E.2.1 0, 188, .inl a)), (q 5, .inl (E.2.1 0, 7, .inl (hnd a g n)))] 0 12 rfl rfl (by decide) rfl (Nat.le_of_ble_eq_true rfl) rfl rfl rfl rfl rfl ?_
  refine g_iconst (v := (nI 0)) hC dX12_layOwn_25 (by decide) ?_
  refine g_istore_n hC [(2, .int (nI 0)), (1, .int (nI (10 * n))), (0, .ref (q 0))] dX12_layOwn_26 rfl (by decide) rfl ?_
  have L_27 : ∀ (fu : Nat) (k : Nat) (gg : Nat → Int32) (hk : k ≤ 10 * n), 10 * n - k < fu → G K E 4 [(q 0, .inr (12, oM q ab be ((jd1 a n (jd0 a n (-1, fe, fc)) k).2.1) ((jd1 a n (jd0 a n (-1, fe, fc)) k).2.2) ((jd1 a n (jd0 a n (-1, fe, fc)) k).1) bl ta tl tkn va)), (q 1, .inl (E.2.1 0, 188, .inl a)), (q 5, .inl (E.2.1 0, 7, .inl gg))] [(2, .int (nI k)), (1, .int (nI (10 * n))), (0, .ref (q 0))] 27 [] := by
    intro fu
    induction fu with
    | zero => intro k gg hk hm_27; exact absurd hm_27 (Nat.not_lt_zero _)
    | succ fu ih_27 =>
      intro k gg hk hm_27
      refine g_iload_n hC dX12_layOwn_27 rfl 0 rfl ?_
      refine g_iload_n hC dX12_layOwn_28 rfl 1 rfl ?_
      refine g_icmp_geN (tgt := 50) hC dX12_layOwn_29 (by decide) (by omega) (by omega) (fun h_29 => ?_) (fun h_29 => ?_)
      · refine g_iconst (v := (nI 0)) hC dX12_layOwn_50 (by decide) ?_
        refine g_istore_n hC [(2, .int (nI 0)), (1, .int (nI (10 * n))), (0, .ref (q 0))] dX12_layOwn_51 rfl (by decide) rfl ?_
        have L_52 : ∀ (fu : Nat) (k : Nat) (gg : Nat → Int32) (hk : k ≤ 10 * n), 10 * n - k < fu → G K E 4 [(q 0, .inr (12, oM q ab be ((jd2 a n (jd1 a n (jd0 a n (-1, fe, fc)) (10 * n)) k).2.1) ((jd2 a n (jd1 a n (jd0 a n (-1, fe, fc)) (10 * n)) k).2.2) ((jd2 a n (jd1 a n (jd0 a n (-1, fe, fc)) (10 * n)) k).1) bl ta tl tkn va)), (q 1, .inl (E.2.1 0, 188, .inl a)), (q 5, .inl (E.2.1 0, 7, .inl gg))] [(2, .int (nI k)), (1, .int (nI (10 * n))), (0, .ref (q 0))] 52 [] := by
          intro fu
          induction fu with
          | zero => intro k gg hk hm_52; exact absurd hm_52 (Nat.not_lt_zero _)
          | succ fu ih_52 =>
            intro k gg hk hm_52
            refine g_iload_n hC dX12_layOwn_52 rfl 0 rfl ?_
            refine g_iload_n hC dX12_layOwn_53 rfl 1 rfl ?_
            refine g_icmp_geN (tgt := 88) hC dX12_layOwn_54 (by decide) (by omega) (by omega) (fun h_54 => ?_) (fun h_54 => ?_)
            · exact g_ws (by rw [show k = 10 * n by omega]; rfl) (hR (fun i => gg) _ _ dX12_layOwn_88)
            · refine g_iconst (v := (nI 0)) hC dX12_layOwn_57 (by decide) ?_
              refine g_istore_n hC [(3, .int (nI 0)), (2, .int (nI k)), (1, .int (nI (10 * n))), (0, .ref (q 0))] dX12_layOwn_58 rfl (by decide) rfl ?_
              have L_59 : ∀ (fu : Nat) (j : Nat) (gi : Nat → Int32) (hj : j ≤ 10 * n), 10 * n - j < fu → G K E 4 [(q 0, .inr (12, oM q ab be ((jd3 a n k (jd2 a n (jd1 a n (jd0 a n (-1, fe, fc)) (10 * n)) k) j).2.1) ((jd3 a n k (jd2 a n (jd1 a n (jd0 a n (-1, fe, fc)) (10 * n)) k) j).2.2) ((jd3 a n k (jd2 a n (jd1 a n (jd0 a n (-1, fe, fc)) (10 * n)) k) j).1) bl ta tl tkn va)), (q 1, .inl (E.2.1 0, 188, .inl a)), (q 5, .inl (E.2.1 0, 7, .inl gi))] [(3, .int (nI j)), (2, .int (nI k)), (1, .int (nI (10 * n))), (0, .ref (q 0))] 59 [] := by
                intro fu
                induction fu with
                | zero => intro j gi hj hm_59; exact absurd hm_59 (Nat.not_lt_zero _)
                | succ fu ih_59 =>
                  intro j gi hj hm_59
                  refine g_iload_n hC dX12_layOwn_59 rfl 0 rfl ?_
                  refine g_iload_n hC dX12_layOwn_60 rfl 2 rfl ?_
                  refine g_icmp_geN (tgt := 82) hC dX12_layOwn_61 (by decide) (by omega) (by omega) (fun h_61 => ?_) (fun h_61 => ?_)
                  · refine g_iincN hC (q := 1) 1 [(2, .int (nI (k + 1))), (3, .int (nI j)), (1, .int (nI (10 * n))), (0, .ref (q 0))] dX12_layOwn_82 rfl rfl (by decide) rfl ?_
                    refine g_goto (tgt := 52) hC dX12_layOwn_85 (by decide) ?_
                    refine g_lv (lv' := [(2, .int (nI (k + 1))), (1, .int (nI (10 * n))), (0, .ref (q 0))]) [0, 2, 3] rfl ?_
                    refine g_ws (ws' := [(q 0, .inr (12, oM q ab be ((jd2 a n (jd1 a n (jd0 a n (-1, fe, fc)) (10 * n)) (k + 1)).2.1) ((jd2 a n (jd1 a n (jd0 a n (-1, fe, fc)) (10 * n)) (k + 1)).2.2) ((jd2 a n (jd1 a n (jd0 a n (-1, fe, fc)) (10 * n)) (k + 1)).1) bl ta tl tkn va)), (q 1, .inl (E.2.1 0, 188, .inl a)), (q 5, .inl (E.2.1 0, 7, .inl gi))]) (by rw [show j = 10 * n by omega]; rfl) ?_
                    exact ih_52 (k + 1) gi (by omega) (by omega)
                  · refine g_aload_n hC dX12_layOwn_64 rfl 3 rfl ?_
                    refine g_iload_n hC dX12_layOwn_65 rfl 1 rfl ?_
                    refine g_iload_n hC dX12_layOwn_66 rfl 0 rfl ?_
                    refine g_callV hC (f_X12_goCodes2 (kl K) E q ab be ((jd3 a n k (jd2 a n (jd1 a n (jd0 a n (-1, fe, fc)) (10 * n)) k) j).2.1) ((jd3 a n k (jd2 a n (jd1 a n (jd0 a n (-1, fe, fc)) (10 * n)) k) j).2.2) ((jd3 a n k (jd2 a n (jd1 a n (jd0 a n (-1, fe, fc)) (10 * n)) k) j).1) bl ta tl tkn va a gi n k j (hn) (hn7) (hpk) (by omega) (by omega)) wX12_goCodes m4_143 dX12_layOwn_67 [0, 1, 2] [(q 0, .inr (12, oM q ab be ((jd3 a n k (jd2 a n (jd1 a n (jd0 a n (-1, fe, fc)) (10 * n)) k) j).2.1) ((jd3 a n k (jd2 a n (jd1 a n (jd0 a n (-1, fe, fc)) (10 * n)) k) j).2.2) ((jd3 a n k (jd2 a n (jd1 a n (jd0 a n (-1, fe, fc)) (10 * n)) k) j).1) bl ta tl tkn va)), (q 1, .inl (E.2.1 0, 188, .inl a)), (q 5, .inl (E.2.1 0, 7, .inl (cl a (cl a (hnd a gi n) k n) j n)))] 0 12 rfl rfl (by decide) rfl (Nat.le_of_ble_eq_true rfl) rfl rfl rfl rfl rfl ?_
                    refine g_aload_n hC dX12_layOwn_70 rfl 3 rfl ?_
                    refine g_iconst (v := (nI 2)) hC dX12_layOwn_71 (by decide) ?_
                    refine g_iload_n hC dX12_layOwn_72 rfl 1 rfl ?_
                    refine g_callV hC (f_X12_judgeOwn (kl K) E q ab be ((jd3 a n k (jd2 a n (jd1 a n (jd0 a n (-1, fe, fc)) (10 * n)) k) j).2.1) ((jd3 a n k (jd2 a n (jd1 a n (jd0 a n (-1, fe, fc)) (10 * n)) k) j).2.2) ((jd3 a n k (jd2 a n (jd1 a n (jd0 a n (-1, fe, fc)) (10 * n)) k) j).1) bl ta tl tkn va a (cl a (cl a (hnd a gi n) k n) j n) n (nI 2) (nI k) (hn) (hn7)) wX12_judgeOwn m4_155 dX12_layOwn_73 [0, 1, 2] [(q 0, .inr (12, oM q ab be ((jd (((jd3 a n k (jd2 a n (jd1 a n (jd0 a n (-1, fe, fc)) (10 * n)) k) j).1), ((jd3 a n k (jd2 a n (jd1 a n (jd0 a n (-1, fe, fc)) (10 * n)) k) j).2.1), ((jd3 a n k (jd2 a n (jd1 a n (jd0 a n (-1, fe, fc)) (10 * n)) k) j).2.2)) (ow (cl a (cl a (hnd a gi n) k n) j n) n) (nI 2) (nI k)).2.1) ((jd (((jd3 a n k (jd2 a n (jd1 a n (jd0 a n (-1, fe, fc)) (10 * n)) k) j).1), ((jd3 a n k (jd2 a n (jd1 a n (jd0 a n (-1, fe, fc)) (10 * n)) k) j).2.1), ((jd3 a n k (jd2 a n (jd1 a n (jd0 a n (-1, fe, fc)) (10 * n)) k) j).2.2)) (ow (cl a (cl a (hnd a gi n) k n) j n) n) (nI 2) (nI k)).2.2) ((jd (((jd3 a n k (jd2 a n (jd1 a n (jd0 a n (-1, fe, fc)) (10 * n)) k) j).1), ((jd3 a n k (jd2 a n (jd1 a n (jd0 a n (-1, fe, fc)) (10 * n)) k) j).2.1), ((jd3 a n k (jd2 a n (jd1 a n (jd0 a n (-1, fe, fc)) (10 * n)) k) j).2.2)) (ow (cl a (cl a (hnd a gi n) k n) j n) n) (nI 2) (nI k)).1) bl ta tl tkn va)), (q 1, .inl (E.2.1 0, 188, .inl a)), (q 5, .inl (E.2.1 0, 7, .inl (cl a (cl a (hnd a gi n) k n) j n)))] 0 12 rfl rfl (by decide) rfl (Nat.le_of_ble_eq_true rfl) rfl rfl rfl rfl rfl ?_
                    refine g_iincN hC (q := 0) 1 [(3, .int (nI (j + 1))), (2, .int (nI k)), (1, .int (nI (10 * n))), (0, .ref (q 0))] dX12_layOwn_76 rfl rfl (by decide) rfl ?_
                    refine g_goto (tgt := 59) hC dX12_layOwn_79 (by decide) ?_
                    refine g_lv (lv' := [(3, .int (nI (j + 1))), (2, .int (nI k)), (1, .int (nI (10 * n))), (0, .ref (q 0))]) [0, 1, 2, 3] rfl ?_
                    refine g_ws (ws' := [(q 0, .inr (12, oM q ab be ((jd3 a n k (jd2 a n (jd1 a n (jd0 a n (-1, fe, fc)) (10 * n)) k) (j + 1)).2.1) ((jd3 a n k (jd2 a n (jd1 a n (jd0 a n (-1, fe, fc)) (10 * n)) k) (j + 1)).2.2) ((jd3 a n k (jd2 a n (jd1 a n (jd0 a n (-1, fe, fc)) (10 * n)) k) (j + 1)).1) bl ta tl tkn va)), (q 1, .inl (E.2.1 0, 188, .inl a)), (q 5, .inl (E.2.1 0, 7, .inl (cl a (cl a (hnd a gi n) k n) j n)))]) (by rw [hw2]; rfl) ?_
                    exact ih_59 (j + 1) (cl a (cl a (hnd a gi n) k n) j n) (by omega) (by omega)
              refine g_lv (lv' := [(3, .int (nI 0)), (2, .int (nI k)), (1, .int (nI (10 * n))), (0, .ref (q 0))]) [0, 1, 2, 3] rfl ?_
              refine g_ws (ws' := [(q 0, .inr (12, oM q ab be ((jd3 a n k (jd2 a n (jd1 a n (jd0 a n (-1, fe, fc)) (10 * n)) k) 0).2.1) ((jd3 a n k (jd2 a n (jd1 a n (jd0 a n (-1, fe, fc)) (10 * n)) k) 0).2.2) ((jd3 a n k (jd2 a n (jd1 a n (jd0 a n (-1, fe, fc)) (10 * n)) k) 0).1) bl ta tl tkn va)), (q 1, .inl (E.2.1 0, 188, .inl a)), (q 5, .inl (E.2.1 0, 7, .inl gg))]) (rfl) ?_
              exact L_59 ((10 * n - 0) + 1) 0 gg (by omega) (Nat.lt_succ_self _)
        refine g_lv (lv' := [(2, .int (nI 0)), (1, .int (nI (10 * n))), (0, .ref (q 0))]) [0, 1, 2] rfl ?_
        refine g_ws (ws' := [(q 0, .inr (12, oM q ab be ((jd2 a n (jd1 a n (jd0 a n (-1, fe, fc)) (10 * n)) 0).2.1) ((jd2 a n (jd1 a n (jd0 a n (-1, fe, fc)) (10 * n)) 0).2.2) ((jd2 a n (jd1 a n (jd0 a n (-1, fe, fc)) (10 * n)) 0).1) bl ta tl tkn va)), (q 1, .inl (E.2.1 0, 188, .inl a)), (q 5, .inl (E.2.1 0, 7, .inl gg))]) (by rw [show k = 10 * n by omega]; rfl) ?_
        exact L_52 ((10 * n - 0) + 1) 0 gg (by omega) (Nat.lt_succ_self _)
      · refine g_aload_n hC dX12_layOwn_32 rfl 2 rfl ?_
        refine g_iload_n hC dX12_layOwn_33 rfl 0 rfl ?_
        refine g_iconst (v := (-1)) hC dX12_layOwn_34 (by decide) ?_
        refine g_callV hC (f_X12_goCodes1 (kl K) E q ab be ((jd1 a n (jd0 a n (-1, fe, fc)) k).2.1) ((jd1 a n (jd0 a n (-1, fe, fc)) k).2.2) ((jd1 a n (jd0 a n (-1, fe, fc)) k).1) bl ta tl tkn va a gg n k (hn) (hn7) (hpk) (by omega)) wX12_goCodes m4_143 dX12_layOwn_35 [0, 1, 2] [(q 0, .inr (12, oM q ab be ((jd1 a n (jd0 a n (-1, fe, fc)) k).2.1) ((jd1 a n (jd0 a n (-1, fe, fc)) k).2.2) ((jd1 a n (jd0 a n (-1, fe, fc)) k).1) bl ta tl tkn va)), (q 1, .inl (E.2.1 0, 188, .inl a)), (q 5, .inl (E.2.1 0, 7, .inl (cl a (hnd a gg n) k n)))] 0 12 rfl rfl (by decide) rfl (Nat.le_of_ble_eq_true rfl) rfl rfl rfl rfl rfl ?_
        refine g_aload_n hC dX12_layOwn_38 rfl 2 rfl ?_
        refine g_iconst (v := (nI 1)) hC dX12_layOwn_39 (by decide) ?_
        refine g_iload_n hC dX12_layOwn_40 rfl 0 rfl ?_
        refine g_callV hC (f_X12_judgeOwn (kl K) E q ab be ((jd1 a n (jd0 a n (-1, fe, fc)) k).2.1) ((jd1 a n (jd0 a n (-1, fe, fc)) k).2.2) ((jd1 a n (jd0 a n (-1, fe, fc)) k).1) bl ta tl tkn va a (cl a (hnd a gg n) k n) n (nI 1) (nI k) (hn) (hn7)) wX12_judgeOwn m4_155 dX12_layOwn_41 [0, 1, 2] [(q 0, .inr (12, oM q ab be ((jd (((jd1 a n (jd0 a n (-1, fe, fc)) k).1), ((jd1 a n (jd0 a n (-1, fe, fc)) k).2.1), ((jd1 a n (jd0 a n (-1, fe, fc)) k).2.2)) (ow (cl a (hnd a gg n) k n) n) (nI 1) (nI k)).2.1) ((jd (((jd1 a n (jd0 a n (-1, fe, fc)) k).1), ((jd1 a n (jd0 a n (-1, fe, fc)) k).2.1), ((jd1 a n (jd0 a n (-1, fe, fc)) k).2.2)) (ow (cl a (hnd a gg n) k n) n) (nI 1) (nI k)).2.2) ((jd (((jd1 a n (jd0 a n (-1, fe, fc)) k).1), ((jd1 a n (jd0 a n (-1, fe, fc)) k).2.1), ((jd1 a n (jd0 a n (-1, fe, fc)) k).2.2)) (ow (cl a (hnd a gg n) k n) n) (nI 1) (nI k)).1) bl ta tl tkn va)), (q 1, .inl (E.2.1 0, 188, .inl a)), (q 5, .inl (E.2.1 0, 7, .inl (cl a (hnd a gg n) k n)))] 0 12 rfl rfl (by decide) rfl (Nat.le_of_ble_eq_true rfl) rfl rfl rfl rfl rfl ?_
        refine g_iincN hC (q := 0) 1 [(2, .int (nI (k + 1))), (1, .int (nI (10 * n))), (0, .ref (q 0))] dX12_layOwn_44 rfl rfl (by decide) rfl ?_
        refine g_goto (tgt := 27) hC dX12_layOwn_47 (by decide) ?_
        refine g_lv (lv' := [(2, .int (nI (k + 1))), (1, .int (nI (10 * n))), (0, .ref (q 0))]) [0, 1, 2] rfl ?_
        refine g_ws (ws' := [(q 0, .inr (12, oM q ab be ((jd1 a n (jd0 a n (-1, fe, fc)) (k + 1)).2.1) ((jd1 a n (jd0 a n (-1, fe, fc)) (k + 1)).2.2) ((jd1 a n (jd0 a n (-1, fe, fc)) (k + 1)).1) bl ta tl tkn va)), (q 1, .inl (E.2.1 0, 188, .inl a)), (q 5, .inl (E.2.1 0, 7, .inl (cl a (hnd a gg n) k n)))]) (by rw [hw1]; rfl) ?_
        exact ih_27 (k + 1) (cl a (hnd a gg n) k n) (by omega) (by omega)
  refine g_lv (lv' := [(2, .int (nI 0)), (1, .int (nI (10 * n))), (0, .ref (q 0))]) [0, 1, 2] rfl ?_
  refine g_ws (ws' := [(q 0, .inr (12, oM q ab be ((jd1 a n (jd0 a n (-1, fe, fc)) 0).2.1) ((jd1 a n (jd0 a n (-1, fe, fc)) 0).2.2) ((jd1 a n (jd0 a n (-1, fe, fc)) 0).1) bl ta tl tkn va)), (q 1, .inl (E.2.1 0, 188, .inl a)), (q 5, .inl (E.2.1 0, 7, .inl (hnd a g n)))]) (by rw [hw0]; rfl) ?_
  exact L_27 ((10 * n - 0) + 1) 0 (hnd a g n) (by omega) (Nat.lt_succ_self _)
set_option maxHeartbeats 4000000 in
set_option maxRecDepth 100000 in
theorem f_X12_own_ok (l : Launch) (E : Ew) (q : Nat → Nat) (ab : Int64) (be : Int64) (fe : Int32) (fc : Int32) (mo : Int32) (bl : Int32) (ta : Int32) (tl : Int32) (tkn : Int32) (va : Int32) (a : Nat → Int32) (r : Nat → Int32) (g : Nat → Int32) (n : Nat) (wh : Nat) (hn : a 0 = nI n) (hn7 : n ≤ 7) (hpk : ∀ p, p < n → isN (a (12 + p)) 10 ∧ isN (a (19 + p)) 6) (hwh : wh < 3) : Fe l E 6 yX12_own cX12_own 2 (some .int) [.ref (q 0), .int (nI wh)] [(q 0, .inr (12, oM q ab be fe fc mo bl ta tl tkn va)), (q 1, .inl (E.2.1 0, 188, .inl a)), (q 4, .inl (E.2.1 0, 3, .inl r)), (q 5, .inl (E.2.1 0, 7, .inl g))] (some (.int (if wh = 0 then (owF a n fe fc).2.1 else if wh = 1 then (owF a n fe fc).1 else (owF a n fe fc).2.2))) (fun jj => [(q 0, .inr (12, oM q ab be ((owF a n fe fc).2.1) ((owF a n fe fc).2.2) ((owF a n fe fc).1) bl ta tl tkn va)), (q 1, .inl (E.2.1 0, 188, .inl a)), (q 4, .inl (E.2.1 0, 3, .inl r)), (q 5, .inl (E.2.1 0, 7, .inl (jj 0)))]) := by
  refine fe_I (by decide) (Nat.le_of_ble_eq_true rfl) (fun _ => rfl) ?_
  intro K hC hR
  show G K E 2 [(q 0, .inr (12, oM q ab be fe fc mo bl ta tl tkn va)), (q 1, .inl (E.2.1 0, 188, .inl a)), (q 4, .inl (E.2.1 0, 3, .inl r)), (q 5, .inl (E.2.1 0, 7, .inl g))] [(0, .ref (q 0)), (1, .int (nI wh))] 0 []
  refine g_iload_n hC dX12_own_0 rfl 1 rfl ?_
  refine g_i2l hC dX12_own_1 ?_
  refine g_lconst (v := 0) hC dX12_own_2 (by decide) ?_
  refine g_ldc2 (v := 2) hC dX12_own_3 m4_119 ?_
  refine g_callS hC (f_X12_in (kl K) E ((nI wh).toInt64) 0 2) wX12_in m4_31 dX12_own_6 [] [(q 0, .inr (12, oM q ab be fe fc mo bl ta tl tkn va)), (q 1, .inl (E.2.1 0, 188, .inl a)), (q 4, .inl (E.2.1 0, 3, .inl r)), (q 5, .inl (E.2.1 0, 7, .inl g))] (by decide) rfl (Nat.le_of_ble_eq_true rfl) rfl rfl rfl rfl rfl ?_
  refine g_val (v' := .int (bI (inB (nI wh) 3))) (by rw [inlC (n := 3) (by decide)]) ?_
  refine g_if_neB (tgt := 19) hC dX12_own_9 (by decide) (fun h_9 => ?_) (fun h_9 => ?_)
  · refine g_aload_n hC dX12_own_19 rfl 0 rfl ?_
    refine g_callVE hC (f_X12_layOwn (kl K) E q ab be fe fc mo bl ta tl tkn va a g n (hn) (hn7) (hpk)) wX12_layOwn m4_151 dX12_own_20 [0, 1, 3] (fun jj => [(q 0, .inr (12, oM q ab be ((owF a n fe fc).2.1) ((owF a n fe fc).2.2) ((owF a n fe fc).1) bl ta tl tkn va)), (q 1, .inl (E.2.1 0, 188, .inl a)), (q 4, .inl (E.2.1 0, 3, .inl r)), (q 5, .inl (E.2.1 0, 7, .inl (jj 0)))]) 0 12 rfl rfl (by decide) rfl (Nat.le_of_ble_eq_true rfl) rfl rfl rfl (fun _ => rfl) (fun _ => rfl) (fun jj_20 => ?_)
    refine g_iload_n hC dX12_own_23 rfl 1 rfl ?_
    refine g_if_neN (tgt := 34) hC dX12_own_24 (by decide) (by omega) (fun h_24 => ?_) (fun h_24 => ?_)
    · refine g_iload_n hC dX12_own_34 rfl 1 rfl ?_
      refine g_iconst (v := (nI 1)) hC dX12_own_35 (by decide) ?_
      refine g_icmp_neN (tgt := 46) hC dX12_own_36 (by decide) (by omega) (by omega) (fun h_36 => ?_) (fun h_36 => ?_)
      · refine g_aload_n hC dX12_own_46 rfl 0 rfl ?_
        refine g_get hC 0 12 8 inX12 m3_216 dX12_own_47 rfl rfl (by decide) rfl ?_
        exact g_val (by simp [h_9, h_24, h_36]) (g_ws (rfl) (hR (fun i => (jj_20 0)) _ _ dX12_own_50))
      · refine g_aload_n hC dX12_own_39 rfl 0 rfl ?_
        refine g_get hC 0 12 9 inX12 m3_217 dX12_own_40 rfl rfl (by decide) rfl ?_
        refine g_goto (tgt := 50) hC dX12_own_43 (by decide) ?_
        exact g_val (by simp [h_9, h_24, h_36]) (g_ws (rfl) (hR (fun i => (jj_20 0)) _ _ dX12_own_50))
    · refine g_aload_n hC dX12_own_27 rfl 0 rfl ?_
      refine g_get hC 0 12 7 inX12 m3_215 dX12_own_28 rfl rfl (by decide) rfl ?_
      refine g_goto (tgt := 50) hC dX12_own_31 (by decide) ?_
      exact g_val (by simp [h_9, h_24]) (g_ws (rfl) (hR (fun i => (jj_20 0)) _ _ dX12_own_50))
  · exact Bool.noConfusion ((inB_ok (by omega) (by omega)).symm.trans h_9)
set_option maxHeartbeats 4000000 in
set_option maxRecDepth 100000 in
theorem f_X12_own_bad (l : Launch) (E : Ew) (q : Nat → Nat) (ab : Int64) (be : Int64) (fe : Int32) (fc : Int32) (mo : Int32) (bl : Int32) (ta : Int32) (tl : Int32) (tkn : Int32) (va : Int32) (a : Nat → Int32) (r : Nat → Int32) (wh : Int32) (hb : inB wh 3 = false) : Fn l E 1 yX12_own cX12_own 2 (some .int) [.ref (q 0), .int wh] [(q 0, .inr (12, oM q ab be fe fc mo bl ta tl tkn va)), (q 1, .inl (E.2.1 0, 188, .inl a)), (q 4, .inl (E.2.1 0, 3, .inl r))] (some (.int (-2))) [(q 0, .inr (12, oM q ab be fe fc mo bl ta tl tkn va)), (q 1, .inl (E.2.1 0, 188, .inl a)), (q 4, .inl (E.2.1 0, 3, .inl (upd r 0 (r 0 + nI 1))))] := by
  refine fn_I (by decide) (Nat.le_of_ble_eq_true rfl) rfl ?_
  intro K hC hR
  show G K E 2 [(q 0, .inr (12, oM q ab be fe fc mo bl ta tl tkn va)), (q 1, .inl (E.2.1 0, 188, .inl a)), (q 4, .inl (E.2.1 0, 3, .inl r))] [(0, .ref (q 0)), (1, .int wh)] 0 []
  refine g_iload_n hC dX12_own_0 rfl 1 rfl ?_
  refine g_i2l hC dX12_own_1 ?_
  refine g_lconst (v := 0) hC dX12_own_2 (by decide) ?_
  refine g_ldc2 (v := 2) hC dX12_own_3 m4_119 ?_
  refine g_callS hC (f_X12_in (kl K) E wh.toInt64 0 2) wX12_in m4_31 dX12_own_6 [] [(q 0, .inr (12, oM q ab be fe fc mo bl ta tl tkn va)), (q 1, .inl (E.2.1 0, 188, .inl a)), (q 4, .inl (E.2.1 0, 3, .inl r))] (by decide) rfl (Nat.le_of_ble_eq_true rfl) rfl rfl rfl rfl rfl ?_
  refine g_val (v' := .int (bI (inB wh 3))) (by rw [inlC (n := 3) (by decide)]) ?_
  refine g_if_neB (tgt := 19) hC dX12_own_9 (by decide) (fun h_9 => ?_) (fun h_9 => ?_)
  · exact absurd h_9 (by rw [hb]; decide)
  · refine g_aload_n hC dX12_own_12 rfl 0 rfl ?_
    refine g_bipush (v := (-2)) hC dX12_own_13 (by decide) ?_
    refine g_callV hC (f_X12_bad (kl K) E q ab be fe fc mo bl ta tl tkn va r (-2)) wX12_bad m4_34 dX12_own_15 [0, 2] [(q 0, .inr (12, oM q ab be fe fc mo bl ta tl tkn va)), (q 1, .inl (E.2.1 0, 188, .inl a)), (q 4, .inl (E.2.1 0, 3, .inl (upd r 0 (r 0 + nI 1))))] 0 12 rfl rfl (by decide) rfl (Nat.le_of_ble_eq_true rfl) rfl rfl rfl rfl rfl ?_
    exact g_val (rfl) (g_ws (rfl) (hR _ _ dX12_own_18))
