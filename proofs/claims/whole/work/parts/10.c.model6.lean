theorem nx_le {a : Nat → Int32} {p v k : Nat} : ct (nxY a p v k) 10 ≤ ct (plS a p v).testBit 31 := by
  rw [ct_tb (x := plS a p v) (n := 10) (m := 31) (bs_lt _ 10) (by decide)]
  exact ct_sub (fun j _ h => by simp only [nxY, Bool.and_eq_true] at h; exact h.1)
set_option maxHeartbeats 4000000 in
set_option maxRecDepth 100000 in
theorem f_X12_note_ok (l : Launch) (E : Ew) (q : Nat → Nat) (ab : Int64) (be : Int64) (fe : Int32) (fc : Int32) (mo : Int32) (bl : Int32) (ta : Int32) (tl : Int32) (tkn : Int32) (va : Int32) (a : Nat → Int32) (r : Nat → Int32) (n : Nat) (v : Nat) (p : Nat) (x : Nat) (d : Nat) (bo : Nat) (tu : Nat) (hn : a 0 = nI n) (hn7 : n ≤ 7) (hv : a 3 = nI v) (hv6 : v < 6) (hp : p < n) (hx : x < 10) (hd : d < 100) (hbo : bo < 2) (htu : tu < 2) : Fn l E 2 yX12_note cX12_note 7 (some .int) [.ref (q 0), .int (nI p), .int (nI x), .int (nI d), .int (nI bo), .int (nI tu)] [(q 0, .inr (12, oM q ab be fe fc mo bl ta tl tkn va)), (q 1, .inl (E.2.1 0, 188, .inl a)), (q 4, .inl (E.2.1 0, 3, .inl r))] (some (.int (nI (v + 1)))) [(q 0, .inr (12, oM q ab be fe fc mo bl ta tl tkn va)), (q 1, .inl (E.2.1 0, 188, .inl (ntF a p x d bo tu v))), (q 4, .inl (E.2.1 0, 3, .inl r))] := by
  refine fn_I (by decide) (Nat.le_of_ble_eq_true rfl) rfl ?_
  intro K hC hR
  show G K E 7 [(q 0, .inr (12, oM q ab be fe fc mo bl ta tl tkn va)), (q 1, .inl (E.2.1 0, 188, .inl a)), (q 4, .inl (E.2.1 0, 3, .inl r))] [(0, .ref (q 0)), (1, .int (nI p)), (2, .int (nI x)), (3, .int (nI d)), (4, .int (nI bo)), (5, .int (nI tu))] 0 []
  refine g_aload_n hC dX12_note_0 rfl 0 rfl ?_
  refine g_iload_n hC dX12_note_1 rfl 1 rfl ?_
  refine g_callV hC (f_X12_isOne (kl K) E q ab be fe fc mo bl ta tl tkn va a n (nI p) (hn) (by omega)) wX12_isOne m4_62 dX12_note_2 [0, 1] [(q 0, .inr (12, oM q ab be fe fc mo bl ta tl tkn va)), (q 1, .inl (E.2.1 0, 188, .inl a)), (q 4, .inl (E.2.1 0, 3, .inl r))] 0 12 rfl rfl (by decide) rfl (Nat.le_of_ble_eq_true rfl) rfl rfl rfl rfl rfl ?_
  refine g_if_eqB (tgt := 49) hC dX12_note_5 (by decide) (fun h_5 => ?_) (fun h_5 => ?_)
  · exact Bool.noConfusion ((inB_ok (by omega) (by omega)).symm.trans h_5)
  · refine g_iload_n hC dX12_note_8 rfl 2 rfl ?_
    refine g_callS hC (f_X12_isPlace (kl K) E (nI x)) wX12_isPlace m4_47 dX12_note_9 [] [(q 0, .inr (12, oM q ab be fe fc mo bl ta tl tkn va)), (q 1, .inl (E.2.1 0, 188, .inl a)), (q 4, .inl (E.2.1 0, 3, .inl r))] (by decide) rfl (Nat.le_of_ble_eq_true rfl) rfl rfl rfl rfl rfl ?_
    refine g_if_eqB (tgt := 49) hC dX12_note_12 (by decide) (fun h_12 => ?_) (fun h_12 => ?_)
    · exact Bool.noConfusion ((inB_ok (by omega) (by omega)).symm.trans h_12)
    · refine g_iload_n hC dX12_note_15 rfl 3 rfl ?_
      refine g_i2l hC dX12_note_16 ?_
      refine g_lconst (v := 0) hC dX12_note_17 (by decide) ?_
      refine g_ldc2 (v := 99) hC dX12_note_18 m4_30 ?_
      refine g_callS hC (f_X12_in (kl K) E ((nI d).toInt64) 0 99) wX12_in m4_31 dX12_note_21 [] [(q 0, .inr (12, oM q ab be fe fc mo bl ta tl tkn va)), (q 1, .inl (E.2.1 0, 188, .inl a)), (q 4, .inl (E.2.1 0, 3, .inl r))] (by decide) rfl (Nat.le_of_ble_eq_true rfl) rfl rfl rfl rfl rfl ?_
      refine g_val (v' := .int (bI (inB (nI d) 100))) (by rw [inlC (n := 100) (by decide)]) ?_
      refine g_if_eqB (tgt := 49) hC dX12_note_24 (by decide) (fun h_24 => ?_) (fun h_24 => ?_)
      · exact Bool.noConfusion ((inB_ok (by omega) (by omega)).symm.trans h_24)
      · refine g_iload hC dX12_note_27 4 rfl ?_
        refine g_i2l hC dX12_note_29 ?_
        refine g_lconst (v := 0) hC dX12_note_30 (by decide) ?_
        refine g_lconst (v := 1) hC dX12_note_31 (by decide) ?_
        refine g_callS hC (f_X12_in (kl K) E ((nI bo).toInt64) 0 1) wX12_in m4_31 dX12_note_32 [] [(q 0, .inr (12, oM q ab be fe fc mo bl ta tl tkn va)), (q 1, .inl (E.2.1 0, 188, .inl a)), (q 4, .inl (E.2.1 0, 3, .inl r))] (by decide) rfl (Nat.le_of_ble_eq_true rfl) rfl rfl rfl rfl rfl ?_
        refine g_val (v' := .int (bI (inB (nI bo) 2))) (by rw [inlC (n := 2) (by decide)]) ?_
        refine g_if_eqB (tgt := 49) hC dX12_note_35 (by decide) (fun h_35 => ?_) (fun h_35 => ?_)
        · exact Bool.noConfusion ((inB_ok (by omega) (by omega)).symm.trans h_35)
        · refine g_iload hC dX12_note_38 5 rfl ?_
          refine g_i2l hC dX12_note_40 ?_
          refine g_lconst (v := 0) hC dX12_note_41 (by decide) ?_
          refine g_lconst (v := 1) hC dX12_note_42 (by decide) ?_
          refine g_callS hC (f_X12_in (kl K) E ((nI tu).toInt64) 0 1) wX12_in m4_31 dX12_note_43 [] [(q 0, .inr (12, oM q ab be fe fc mo bl ta tl tkn va)), (q 1, .inl (E.2.1 0, 188, .inl a)), (q 4, .inl (E.2.1 0, 3, .inl r))] (by decide) rfl (Nat.le_of_ble_eq_true rfl) rfl rfl rfl rfl rfl ?_
          refine g_val (v' := .int (bI (inB (nI tu) 2))) (by rw [inlC (n := 2) (by decide)]) ?_
          refine g_if_neB (tgt := 56) hC dX12_note_46 (by decide) (fun h_46 => ?_) (fun h_46 => ?_)
          · refine g_aload_n hC dX12_note_56 rfl 0 rfl ?_
            refine g_get hC 0 12 0 inX12 m3_208 dX12_note_57 rfl rfl (by decide) rfl ?_
            refine g_iconst (v := (nI 3)) hC dX12_note_60 (by decide) ?_
            refine g_ialdN hC 1 dX12_note_61 rfl (by decide) (by omega) ?_
            refine g_val (v' := .int (nI v)) (by rw [hv]) ?_
            refine g_bipush (v := (nI 6)) hC dX12_note_62 (by decide) ?_
            refine g_icmp_neN (tgt := 72) hC dX12_note_64 (by decide) (by omega) (by omega) (fun h_64 => ?_) (fun h_64 => ?_)
            · refine g_bipush (v := (nI 38)) hC dX12_note_72 (by decide) ?_
              refine g_iconst (v := (nI 5)) hC dX12_note_74 (by decide) ?_
              refine g_aload_n hC dX12_note_75 rfl 0 rfl ?_
              refine g_get hC 0 12 0 inX12 m3_208 dX12_note_76 rfl rfl (by decide) rfl ?_
              refine g_iconst (v := (nI 3)) hC dX12_note_79 (by decide) ?_
              refine g_ialdN hC 1 dX12_note_80 rfl (by decide) (by omega) ?_
              refine g_val (v' := .int (nI v)) (by rw [hv]) ?_
              refine g_imulN hC dX12_note_81 ?_
              refine g_iaddN hC dX12_note_82 ?_
              refine g_istore hC [(6, .int (nI (38 + (5 * v)))), (0, .ref (q 0)), (1, .int (nI p)), (2, .int (nI x)), (3, .int (nI d)), (4, .int (nI bo)), (5, .int (nI tu))] dX12_note_83 (by decide) rfl ?_
              refine g_aload_n hC dX12_note_85 rfl 1 rfl ?_
              refine g_get hC 0 12 0 inX12 m3_208 dX12_note_86 rfl rfl (by decide) rfl ?_
              refine g_iload hC dX12_note_89 0 rfl ?_
              refine g_iload_n hC dX12_note_91 rfl 2 rfl ?_
              refine g_iastN hC 1 [(q 0, .inr (12, oM q ab be fe fc mo bl ta tl tkn va)), (q 1, .inl (E.2.1 0, 188, .inl (upd a (38 + (5 * v)) (nI p)))), (q 4, .inl (E.2.1 0, 3, .inl r))] dX12_note_92 rfl (by decide) (by omega) rfl ?_
              refine g_aload_n hC dX12_note_93 rfl 1 rfl ?_
              refine g_get hC 0 12 0 inX12 m3_208 dX12_note_94 rfl rfl (by decide) rfl ?_
              refine g_iload hC dX12_note_97 0 rfl ?_
              refine g_iconst (v := (nI 1)) hC dX12_note_99 (by decide) ?_
              refine g_iaddN hC dX12_note_100 ?_
              refine g_iload_n hC dX12_note_101 rfl 3 rfl ?_
              refine g_iastN hC 1 [(q 0, .inr (12, oM q ab be fe fc mo bl ta tl tkn va)), (q 1, .inl (E.2.1 0, 188, .inl (upd (upd a (38 + (5 * v)) (nI p)) ((38 + (5 * v)) + 1) (nI x)))), (q 4, .inl (E.2.1 0, 3, .inl r))] dX12_note_102 rfl (by decide) (by omega) rfl ?_
              refine g_aload_n hC dX12_note_103 rfl 1 rfl ?_
              refine g_get hC 0 12 0 inX12 m3_208 dX12_note_104 rfl rfl (by decide) rfl ?_
              refine g_iload hC dX12_note_107 0 rfl ?_
              refine g_iconst (v := (nI 2)) hC dX12_note_109 (by decide) ?_
              refine g_iaddN hC dX12_note_110 ?_
              refine g_iload_n hC dX12_note_111 rfl 4 rfl ?_
              refine g_iastN hC 1 [(q 0, .inr (12, oM q ab be fe fc mo bl ta tl tkn va)), (q 1, .inl (E.2.1 0, 188, .inl (upd (upd (upd a (38 + (5 * v)) (nI p)) ((38 + (5 * v)) + 1) (nI x)) ((38 + (5 * v)) + 2) (nI d)))), (q 4, .inl (E.2.1 0, 3, .inl r))] dX12_note_112 rfl (by decide) (by omega) rfl ?_
              refine g_aload_n hC dX12_note_113 rfl 1 rfl ?_
              refine g_get hC 0 12 0 inX12 m3_208 dX12_note_114 rfl rfl (by decide) rfl ?_
              refine g_iload hC dX12_note_117 0 rfl ?_
              refine g_iconst (v := (nI 3)) hC dX12_note_119 (by decide) ?_
              refine g_iaddN hC dX12_note_120 ?_
              refine g_iload hC dX12_note_121 5 rfl ?_
              refine g_iastN hC 1 [(q 0, .inr (12, oM q ab be fe fc mo bl ta tl tkn va)), (q 1, .inl (E.2.1 0, 188, .inl (upd (upd (upd (upd a (38 + (5 * v)) (nI p)) ((38 + (5 * v)) + 1) (nI x)) ((38 + (5 * v)) + 2) (nI d)) ((38 + (5 * v)) + 3) (nI bo)))), (q 4, .inl (E.2.1 0, 3, .inl r))] dX12_note_123 rfl (by decide) (by omega) rfl ?_
              refine g_aload_n hC dX12_note_124 rfl 1 rfl ?_
              refine g_get hC 0 12 0 inX12 m3_208 dX12_note_125 rfl rfl (by decide) rfl ?_
              refine g_iload hC dX12_note_128 0 rfl ?_
              refine g_iconst (v := (nI 4)) hC dX12_note_130 (by decide) ?_
              refine g_iaddN hC dX12_note_131 ?_
              refine g_iload hC dX12_note_132 6 rfl ?_
              refine g_iastN hC 1 [(q 0, .inr (12, oM q ab be fe fc mo bl ta tl tkn va)), (q 1, .inl (E.2.1 0, 188, .inl (upd (upd (upd (upd (upd a (38 + (5 * v)) (nI p)) ((38 + (5 * v)) + 1) (nI x)) ((38 + (5 * v)) + 2) (nI d)) ((38 + (5 * v)) + 3) (nI bo)) ((38 + (5 * v)) + 4) (nI tu)))), (q 4, .inl (E.2.1 0, 3, .inl r))] dX12_note_134 rfl (by decide) (by omega) rfl ?_
              refine g_aload_n hC dX12_note_135 rfl 1 rfl ?_
              refine g_get hC 0 12 0 inX12 m3_208 dX12_note_136 rfl rfl (by decide) rfl ?_
              refine g_iconst (v := (nI 3)) hC dX12_note_139 (by decide) ?_
              refine g_dup2 hC dX12_note_140 rfl rfl ?_
              refine g_ialdN hC 1 dX12_note_141 rfl (by decide) (by omega) ?_
              refine g_val (v' := .int (nI v)) (by rw [upd_n (by omega), upd_n (by omega), upd_n (by omega), upd_n (by omega), upd_n (by omega), hv]) ?_
              refine g_iconst (v := (nI 1)) hC dX12_note_142 (by decide) ?_
              refine g_iaddN hC dX12_note_143 ?_
              refine g_iastN hC 1 [(q 0, .inr (12, oM q ab be fe fc mo bl ta tl tkn va)), (q 1, .inl (E.2.1 0, 188, .inl (upd (upd (upd (upd (upd (upd a (38 + (5 * v)) (nI p)) ((38 + (5 * v)) + 1) (nI x)) ((38 + (5 * v)) + 2) (nI d)) ((38 + (5 * v)) + 3) (nI bo)) ((38 + (5 * v)) + 4) (nI tu)) 3 (nI (v + 1))))), (q 4, .inl (E.2.1 0, 3, .inl r))] dX12_note_144 rfl (by decide) (by omega) rfl ?_
              refine g_aload_n hC dX12_note_145 rfl 1 rfl ?_
              refine g_get hC 0 12 0 inX12 m3_208 dX12_note_146 rfl rfl (by decide) rfl ?_
              refine g_iconst (v := (nI 3)) hC dX12_note_149 (by decide) ?_
              refine g_ialdN hC 1 dX12_note_150 rfl (by decide) (by omega) ?_
              refine g_val (v' := .int (nI (v + 1))) (by rw [upd_s]) ?_
              exact g_val (rfl) (g_ws (rfl) (hR _ _ dX12_note_151))
            · omega
          · exact Bool.noConfusion ((inB_ok (by omega) (by omega)).symm.trans h_46)
set_option maxHeartbeats 4000000 in
set_option maxRecDepth 100000 in
theorem f_X12_note_full (l : Launch) (E : Ew) (q : Nat → Nat) (ab : Int64) (be : Int64) (fe : Int32) (fc : Int32) (mo : Int32) (bl : Int32) (ta : Int32) (tl : Int32) (tkn : Int32) (va : Int32) (a : Nat → Int32) (r : Nat → Int32) (n : Nat) (p : Nat) (x : Nat) (d : Nat) (bo : Nat) (tu : Nat) (hn : a 0 = nI n) (hn7 : n ≤ 7) (hv : a 3 = nI 6) (hp : p < n) (hx : x < 10) (hd : d < 100) (hbo : bo < 2) (htu : tu < 2) : Fn l E 2 yX12_note cX12_note 7 (some .int) [.ref (q 0), .int (nI p), .int (nI x), .int (nI d), .int (nI bo), .int (nI tu)] [(q 0, .inr (12, oM q ab be fe fc mo bl ta tl tkn va)), (q 1, .inl (E.2.1 0, 188, .inl a)), (q 4, .inl (E.2.1 0, 3, .inl r))] (some (.int (-4))) [(q 0, .inr (12, oM q ab be fe fc mo bl ta tl tkn va)), (q 1, .inl (E.2.1 0, 188, .inl a)), (q 4, .inl (E.2.1 0, 3, .inl (upd r 2 (r 2 + nI 1))))] := by
  refine fn_I (by decide) (Nat.le_of_ble_eq_true rfl) rfl ?_
  intro K hC hR
  show G K E 7 [(q 0, .inr (12, oM q ab be fe fc mo bl ta tl tkn va)), (q 1, .inl (E.2.1 0, 188, .inl a)), (q 4, .inl (E.2.1 0, 3, .inl r))] [(0, .ref (q 0)), (1, .int (nI p)), (2, .int (nI x)), (3, .int (nI d)), (4, .int (nI bo)), (5, .int (nI tu))] 0 []
  refine g_aload_n hC dX12_note_0 rfl 0 rfl ?_
  refine g_iload_n hC dX12_note_1 rfl 1 rfl ?_
  refine g_callV hC (f_X12_isOne (kl K) E q ab be fe fc mo bl ta tl tkn va a n (nI p) (hn) (by omega)) wX12_isOne m4_62 dX12_note_2 [0, 1] [(q 0, .inr (12, oM q ab be fe fc mo bl ta tl tkn va)), (q 1, .inl (E.2.1 0, 188, .inl a)), (q 4, .inl (E.2.1 0, 3, .inl r))] 0 12 rfl rfl (by decide) rfl (Nat.le_of_ble_eq_true rfl) rfl rfl rfl rfl rfl ?_
  refine g_if_eqB (tgt := 49) hC dX12_note_5 (by decide) (fun h_5 => ?_) (fun h_5 => ?_)
  · exact Bool.noConfusion ((inB_ok (by omega) (by omega)).symm.trans h_5)
  · refine g_iload_n hC dX12_note_8 rfl 2 rfl ?_
    refine g_callS hC (f_X12_isPlace (kl K) E (nI x)) wX12_isPlace m4_47 dX12_note_9 [] [(q 0, .inr (12, oM q ab be fe fc mo bl ta tl tkn va)), (q 1, .inl (E.2.1 0, 188, .inl a)), (q 4, .inl (E.2.1 0, 3, .inl r))] (by decide) rfl (Nat.le_of_ble_eq_true rfl) rfl rfl rfl rfl rfl ?_
    refine g_if_eqB (tgt := 49) hC dX12_note_12 (by decide) (fun h_12 => ?_) (fun h_12 => ?_)
    · exact Bool.noConfusion ((inB_ok (by omega) (by omega)).symm.trans h_12)
    · refine g_iload_n hC dX12_note_15 rfl 3 rfl ?_
      refine g_i2l hC dX12_note_16 ?_
      refine g_lconst (v := 0) hC dX12_note_17 (by decide) ?_
      refine g_ldc2 (v := 99) hC dX12_note_18 m4_30 ?_
      refine g_callS hC (f_X12_in (kl K) E ((nI d).toInt64) 0 99) wX12_in m4_31 dX12_note_21 [] [(q 0, .inr (12, oM q ab be fe fc mo bl ta tl tkn va)), (q 1, .inl (E.2.1 0, 188, .inl a)), (q 4, .inl (E.2.1 0, 3, .inl r))] (by decide) rfl (Nat.le_of_ble_eq_true rfl) rfl rfl rfl rfl rfl ?_
      refine g_val (v' := .int (bI (inB (nI d) 100))) (by rw [inlC (n := 100) (by decide)]) ?_
      refine g_if_eqB (tgt := 49) hC dX12_note_24 (by decide) (fun h_24 => ?_) (fun h_24 => ?_)
      · exact Bool.noConfusion ((inB_ok (by omega) (by omega)).symm.trans h_24)
      · refine g_iload hC dX12_note_27 4 rfl ?_
        refine g_i2l hC dX12_note_29 ?_
        refine g_lconst (v := 0) hC dX12_note_30 (by decide) ?_
        refine g_lconst (v := 1) hC dX12_note_31 (by decide) ?_
        refine g_callS hC (f_X12_in (kl K) E ((nI bo).toInt64) 0 1) wX12_in m4_31 dX12_note_32 [] [(q 0, .inr (12, oM q ab be fe fc mo bl ta tl tkn va)), (q 1, .inl (E.2.1 0, 188, .inl a)), (q 4, .inl (E.2.1 0, 3, .inl r))] (by decide) rfl (Nat.le_of_ble_eq_true rfl) rfl rfl rfl rfl rfl ?_
        refine g_val (v' := .int (bI (inB (nI bo) 2))) (by rw [inlC (n := 2) (by decide)]) ?_
        refine g_if_eqB (tgt := 49) hC dX12_note_35 (by decide) (fun h_35 => ?_) (fun h_35 => ?_)
        · exact Bool.noConfusion ((inB_ok (by omega) (by omega)).symm.trans h_35)
        · refine g_iload hC dX12_note_38 5 rfl ?_
          refine g_i2l hC dX12_note_40 ?_
          refine g_lconst (v := 0) hC dX12_note_41 (by decide) ?_
          refine g_lconst (v := 1) hC dX12_note_42 (by decide) ?_
          refine g_callS hC (f_X12_in (kl K) E ((nI tu).toInt64) 0 1) wX12_in m4_31 dX12_note_43 [] [(q 0, .inr (12, oM q ab be fe fc mo bl ta tl tkn va)), (q 1, .inl (E.2.1 0, 188, .inl a)), (q 4, .inl (E.2.1 0, 3, .inl r))] (by decide) rfl (Nat.le_of_ble_eq_true rfl) rfl rfl rfl rfl rfl ?_
          refine g_val (v' := .int (bI (inB (nI tu) 2))) (by rw [inlC (n := 2) (by decide)]) ?_
          refine g_if_neB (tgt := 56) hC dX12_note_46 (by decide) (fun h_46 => ?_) (fun h_46 => ?_)
          · refine g_aload_n hC dX12_note_56 rfl 0 rfl ?_
            refine g_get hC 0 12 0 inX12 m3_208 dX12_note_57 rfl rfl (by decide) rfl ?_
            refine g_iconst (v := (nI 3)) hC dX12_note_60 (by decide) ?_
            refine g_ialdN hC 1 dX12_note_61 rfl (by decide) (by omega) ?_
            refine g_val (v' := .int (nI 6)) (by rw [hv]) ?_
            refine g_bipush (v := (nI 6)) hC dX12_note_62 (by decide) ?_
            refine g_icmp_neN (tgt := 72) hC dX12_note_64 (by decide) (by omega) (by omega) (fun h_64 => ?_) (fun h_64 => ?_)
            · omega
            · refine g_aload_n hC dX12_note_67 rfl 0 rfl ?_
              refine g_callV hC (f_X12_full (kl K) E q ab be fe fc mo bl ta tl tkn va r) wX12_full m4_51 dX12_note_68 [0, 2] [(q 0, .inr (12, oM q ab be fe fc mo bl ta tl tkn va)), (q 1, .inl (E.2.1 0, 188, .inl a)), (q 4, .inl (E.2.1 0, 3, .inl (upd r 2 (r 2 + nI 1))))] 0 12 rfl rfl (by decide) rfl (Nat.le_of_ble_eq_true rfl) rfl rfl rfl rfl rfl ?_
              exact g_val (rfl) (g_ws (rfl) (hR _ _ dX12_note_71))
          · exact Bool.noConfusion ((inB_ok (by omega) (by omega)).symm.trans h_46)
set_option maxHeartbeats 4000000 in
set_option maxRecDepth 100000 in
theorem f_X12_note_bad (l : Launch) (E : Ew) (q : Nat → Nat) (ab : Int64) (be : Int64) (fe : Int32) (fc : Int32) (mo : Int32) (bl : Int32) (ta : Int32) (tl : Int32) (tkn : Int32) (va : Int32) (a : Nat → Int32) (r : Nat → Int32) (n : Nat) (p : Int32) (x : Int32) (d : Int32) (bo : Int32) (tu : Int32) (hn : a 0 = nI n) (hn7 : n ≤ 7) (hb : (inB p n && inB x 10 && inB d 100 && inB bo 2 && inB tu 2) = false) : Fn l E 2 yX12_note cX12_note 7 (some .int) [.ref (q 0), .int p, .int x, .int d, .int bo, .int tu] [(q 0, .inr (12, oM q ab be fe fc mo bl ta tl tkn va)), (q 1, .inl (E.2.1 0, 188, .inl a)), (q 4, .inl (E.2.1 0, 3, .inl r))] (some (.int (-2))) [(q 0, .inr (12, oM q ab be fe fc mo bl ta tl tkn va)), (q 1, .inl (E.2.1 0, 188, .inl a)), (q 4, .inl (E.2.1 0, 3, .inl (upd r 0 (r 0 + nI 1))))] := by
  refine fn_I (by decide) (Nat.le_of_ble_eq_true rfl) rfl ?_
  intro K hC hR
  show G K E 7 [(q 0, .inr (12, oM q ab be fe fc mo bl ta tl tkn va)), (q 1, .inl (E.2.1 0, 188, .inl a)), (q 4, .inl (E.2.1 0, 3, .inl r))] [(0, .ref (q 0)), (1, .int p), (2, .int x), (3, .int d), (4, .int bo), (5, .int tu)] 0 []
  refine g_aload_n hC dX12_note_0 rfl 0 rfl ?_
  refine g_iload_n hC dX12_note_1 rfl 1 rfl ?_
  refine g_callV hC (f_X12_isOne (kl K) E q ab be fe fc mo bl ta tl tkn va a n p (hn) (by omega)) wX12_isOne m4_62 dX12_note_2 [0, 1] [(q 0, .inr (12, oM q ab be fe fc mo bl ta tl tkn va)), (q 1, .inl (E.2.1 0, 188, .inl a)), (q 4, .inl (E.2.1 0, 3, .inl r))] 0 12 rfl rfl (by decide) rfl (Nat.le_of_ble_eq_true rfl) rfl rfl rfl rfl rfl ?_
  refine g_if_eqB (tgt := 49) hC dX12_note_5 (by decide) (fun h_5 => ?_) (fun h_5 => ?_)
  · refine g_aload_n hC dX12_note_49 rfl 0 rfl ?_
    refine g_bipush (v := (-2)) hC dX12_note_50 (by decide) ?_
    refine g_callV hC (f_X12_bad (kl K) E q ab be fe fc mo bl ta tl tkn va r (-2)) wX12_bad m4_34 dX12_note_52 [0, 2] [(q 0, .inr (12, oM q ab be fe fc mo bl ta tl tkn va)), (q 1, .inl (E.2.1 0, 188, .inl a)), (q 4, .inl (E.2.1 0, 3, .inl (upd r 0 (r 0 + nI 1))))] 0 12 rfl rfl (by decide) rfl (Nat.le_of_ble_eq_true rfl) rfl rfl rfl rfl rfl ?_
    exact g_val (rfl) (g_ws (rfl) (hR _ _ dX12_note_55))
  · refine g_iload_n hC dX12_note_8 rfl 2 rfl ?_
    refine g_callS hC (f_X12_isPlace (kl K) E x) wX12_isPlace m4_47 dX12_note_9 [] [(q 0, .inr (12, oM q ab be fe fc mo bl ta tl tkn va)), (q 1, .inl (E.2.1 0, 188, .inl a)), (q 4, .inl (E.2.1 0, 3, .inl r))] (by decide) rfl (Nat.le_of_ble_eq_true rfl) rfl rfl rfl rfl rfl ?_
    refine g_if_eqB (tgt := 49) hC dX12_note_12 (by decide) (fun h_12 => ?_) (fun h_12 => ?_)
    · refine g_aload_n hC dX12_note_49 rfl 0 rfl ?_
      refine g_bipush (v := (-2)) hC dX12_note_50 (by decide) ?_
      refine g_callV hC (f_X12_bad (kl K) E q ab be fe fc mo bl ta tl tkn va r (-2)) wX12_bad m4_34 dX12_note_52 [0, 2] [(q 0, .inr (12, oM q ab be fe fc mo bl ta tl tkn va)), (q 1, .inl (E.2.1 0, 188, .inl a)), (q 4, .inl (E.2.1 0, 3, .inl (upd r 0 (r 0 + nI 1))))] 0 12 rfl rfl (by decide) rfl (Nat.le_of_ble_eq_true rfl) rfl rfl rfl rfl rfl ?_
      exact g_val (rfl) (g_ws (rfl) (hR _ _ dX12_note_55))
    · refine g_iload_n hC dX12_note_15 rfl 3 rfl ?_
      refine g_i2l hC dX12_note_16 ?_
      refine g_lconst (v := 0) hC dX12_note_17 (by decide) ?_
      refine g_ldc2 (v := 99) hC dX12_note_18 m4_30 ?_
      refine g_callS hC (f_X12_in (kl K) E d.toInt64 0 99) wX12_in m4_31 dX12_note_21 [] [(q 0, .inr (12, oM q ab be fe fc mo bl ta tl tkn va)), (q 1, .inl (E.2.1 0, 188, .inl a)), (q 4, .inl (E.2.1 0, 3, .inl r))] (by decide) rfl (Nat.le_of_ble_eq_true rfl) rfl rfl rfl rfl rfl ?_
      refine g_val (v' := .int (bI (inB d 100))) (by rw [inlC (n := 100) (by decide)]) ?_
      refine g_if_eqB (tgt := 49) hC dX12_note_24 (by decide) (fun h_24 => ?_) (fun h_24 => ?_)
      · refine g_aload_n hC dX12_note_49 rfl 0 rfl ?_
        refine g_bipush (v := (-2)) hC dX12_note_50 (by decide) ?_
        refine g_callV hC (f_X12_bad (kl K) E q ab be fe fc mo bl ta tl tkn va r (-2)) wX12_bad m4_34 dX12_note_52 [0, 2] [(q 0, .inr (12, oM q ab be fe fc mo bl ta tl tkn va)), (q 1, .inl (E.2.1 0, 188, .inl a)), (q 4, .inl (E.2.1 0, 3, .inl (upd r 0 (r 0 + nI 1))))] 0 12 rfl rfl (by decide) rfl (Nat.le_of_ble_eq_true rfl) rfl rfl rfl rfl rfl ?_
        exact g_val (rfl) (g_ws (rfl) (hR _ _ dX12_note_55))
      · refine g_iload hC dX12_note_27 4 rfl ?_
        refine g_i2l hC dX12_note_29 ?_
        refine g_lconst (v := 0) hC dX12_note_30 (by decide) ?_
        refine g_lconst (v := 1) hC dX12_note_31 (by decide) ?_
        refine g_callS hC (f_X12_in (kl K) E bo.toInt64 0 1) wX12_in m4_31 dX12_note_32 [] [(q 0, .inr (12, oM q ab be fe fc mo bl ta tl tkn va)), (q 1, .inl (E.2.1 0, 188, .inl a)), (q 4, .inl (E.2.1 0, 3, .inl r))] (by decide) rfl (Nat.le_of_ble_eq_true rfl) rfl rfl rfl rfl rfl ?_
        refine g_val (v' := .int (bI (inB bo 2))) (by rw [inlC (n := 2) (by decide)]) ?_
        refine g_if_eqB (tgt := 49) hC dX12_note_35 (by decide) (fun h_35 => ?_) (fun h_35 => ?_)
        · refine g_aload_n hC dX12_note_49 rfl 0 rfl ?_
          refine g_bipush (v := (-2)) hC dX12_note_50 (by decide) ?_
          refine g_callV hC (f_X12_bad (kl K) E q ab be fe fc mo bl ta tl tkn va r (-2)) wX12_bad m4_34 dX12_note_52 [0, 2] [(q 0, .inr (12, oM q ab be fe fc mo bl ta tl tkn va)), (q 1, .inl (E.2.1 0, 188, .inl a)), (q 4, .inl (E.2.1 0, 3, .inl (upd r 0 (r 0 + nI 1))))] 0 12 rfl rfl (by decide) rfl (Nat.le_of_ble_eq_true rfl) rfl rfl rfl rfl rfl ?_
          exact g_val (rfl) (g_ws (rfl) (hR _ _ dX12_note_55))
        · refine g_iload hC dX12_note_38 5 rfl ?_
          refine g_i2l hC dX12_note_40 ?_
          refine g_lconst (v := 0) hC dX12_note_41 (by decide) ?_
          refine g_lconst (v := 1) hC dX12_note_42 (by decide) ?_
          refine g_callS hC (f_X12_in (kl K) E tu.toInt64 0 1) wX12_in m4_31 dX12_note_43 [] [(q 0, .inr (12, oM q ab be fe fc mo bl ta tl tkn va)), (q 1, .inl (E.2.1 0, 188, .inl a)), (q 4, .inl (E.2.1 0, 3, .inl r))] (by decide) rfl (Nat.le_of_ble_eq_true rfl) rfl rfl rfl rfl rfl ?_
          refine g_val (v' := .int (bI (inB tu 2))) (by rw [inlC (n := 2) (by decide)]) ?_
          refine g_if_neB (tgt := 56) hC dX12_note_46 (by decide) (fun h_46 => ?_) (fun h_46 => ?_)
          · exact absurd hb (by simp [h_5, h_12, h_24, h_35, h_46])
          · refine g_aload_n hC dX12_note_49 rfl 0 rfl ?_
            refine g_bipush (v := (-2)) hC dX12_note_50 (by decide) ?_
            refine g_callV hC (f_X12_bad (kl K) E q ab be fe fc mo bl ta tl tkn va r (-2)) wX12_bad m4_34 dX12_note_52 [0, 2] [(q 0, .inr (12, oM q ab be fe fc mo bl ta tl tkn va)), (q 1, .inl (E.2.1 0, 188, .inl a)), (q 4, .inl (E.2.1 0, 3, .inl (upd r 0 (r 0 + nI 1))))] 0 12 rfl rfl (by decide) rfl (Nat.le_of_ble_eq_true rfl) rfl rfl rfl rfl rfl ?_
            exact g_val (rfl) (g_ws (rfl) (hR _ _ dX12_note_55))
set_option maxHeartbeats 4000000 in
set_option maxRecDepth 100000 in
theorem f_X12_forget_ok (l : Launch) (E : Ew) (q : Nat → Nat) (ab : Int64) (be : Int64) (fe : Int32) (fc : Int32) (mo : Int32) (bl : Int32) (ta : Int32) (tl : Int32) (tkn : Int32) (va : Int32) (a : Nat → Int32) (r : Nat → Int32) (wh : Nat) (hwh : wh < 2) : Fn l E 1 yX12_forget cX12_forget 3 (some .int) [.ref (q 0), .int (nI wh)] [(q 0, .inr (12, oM q ab be fe fc mo bl ta tl tkn va)), (q 1, .inl (E.2.1 0, 188, .inl a)), (q 4, .inl (E.2.1 0, 3, .inl r))] (some (.int (a (2 + wh)))) [(q 0, .inr (12, oM q ab be fe fc mo bl ta tl tkn va)), (q 1, .inl (E.2.1 0, 188, .inl (upd a (2 + wh) (nI 0)))), (q 4, .inl (E.2.1 0, 3, .inl r))] := by
  refine fn_I (by decide) (Nat.le_of_ble_eq_true rfl) rfl ?_
  intro K hC hR
  show G K E 3 [(q 0, .inr (12, oM q ab be fe fc mo bl ta tl tkn va)), (q 1, .inl (E.2.1 0, 188, .inl a)), (q 4, .inl (E.2.1 0, 3, .inl r))] [(0, .ref (q 0)), (1, .int (nI wh))] 0 []
  refine g_iload_n hC dX12_forget_0 rfl 1 rfl ?_
  refine g_i2l hC dX12_forget_1 ?_
  refine g_lconst (v := 0) hC dX12_forget_2 (by decide) ?_
  refine g_lconst (v := 1) hC dX12_forget_3 (by decide) ?_
  refine g_callS hC (f_X12_in (kl K) E ((nI wh).toInt64) 0 1) wX12_in m4_31 dX12_forget_4 [] [(q 0, .inr (12, oM q ab be fe fc mo bl ta tl tkn va)), (q 1, .inl (E.2.1 0, 188, .inl a)), (q 4, .inl (E.2.1 0, 3, .inl r))] (by decide) rfl (Nat.le_of_ble_eq_true rfl) rfl rfl rfl rfl rfl ?_
  refine g_val (v' := .int (bI (inB (nI wh) 2))) (by rw [inlC (n := 2) (by decide)]) ?_
  refine g_if_neB (tgt := 17) hC dX12_forget_7 (by decide) (fun h_7 => ?_) (fun h_7 => ?_)
  · refine g_aload_n hC dX12_forget_17 rfl 0 rfl ?_
    refine g_get hC 0 12 0 inX12 m3_208 dX12_forget_18 rfl rfl (by decide) rfl ?_
    refine g_iconst (v := (nI 2)) hC dX12_forget_21 (by decide) ?_
    refine g_iload_n hC dX12_forget_22 rfl 1 rfl ?_
    refine g_iaddN hC dX12_forget_23 ?_
    refine g_ialdN hC 1 dX12_forget_24 rfl (by decide) (by omega) ?_
    refine g_istore_n hC [(2, .int (a (2 + wh))), (0, .ref (q 0)), (1, .int (nI wh))] dX12_forget_25 rfl (by decide) rfl ?_
    refine g_aload_n hC dX12_forget_26 rfl 1 rfl ?_
    refine g_get hC 0 12 0 inX12 m3_208 dX12_forget_27 rfl rfl (by decide) rfl ?_
    refine g_iconst (v := (nI 2)) hC dX12_forget_30 (by decide) ?_
    refine g_iload_n hC dX12_forget_31 rfl 2 rfl ?_
    refine g_iaddN hC dX12_forget_32 ?_
    refine g_iconst (v := (nI 0)) hC dX12_forget_33 (by decide) ?_
    refine g_iastN hC 1 [(q 0, .inr (12, oM q ab be fe fc mo bl ta tl tkn va)), (q 1, .inl (E.2.1 0, 188, .inl (upd a (2 + wh) (nI 0)))), (q 4, .inl (E.2.1 0, 3, .inl r))] dX12_forget_34 rfl (by decide) (by omega) rfl ?_
    refine g_iload_n hC dX12_forget_35 rfl 0 rfl ?_
    exact g_val (rfl) (g_ws (rfl) (hR _ _ dX12_forget_36))
  · exact Bool.noConfusion ((inB_ok (by omega) (by omega)).symm.trans h_7)
set_option maxHeartbeats 4000000 in
set_option maxRecDepth 100000 in
theorem f_X12_forget_bad (l : Launch) (E : Ew) (q : Nat → Nat) (ab : Int64) (be : Int64) (fe : Int32) (fc : Int32) (mo : Int32) (bl : Int32) (ta : Int32) (tl : Int32) (tkn : Int32) (va : Int32) (a : Nat → Int32) (r : Nat → Int32) (wh : Int32) (hb : inB wh 2 = false) : Fn l E 1 yX12_forget cX12_forget 3 (some .int) [.ref (q 0), .int wh] [(q 0, .inr (12, oM q ab be fe fc mo bl ta tl tkn va)), (q 1, .inl (E.2.1 0, 188, .inl a)), (q 4, .inl (E.2.1 0, 3, .inl r))] (some (.int (-2))) [(q 0, .inr (12, oM q ab be fe fc mo bl ta tl tkn va)), (q 1, .inl (E.2.1 0, 188, .inl a)), (q 4, .inl (E.2.1 0, 3, .inl (upd r 0 (r 0 + nI 1))))] := by
  refine fn_I (by decide) (Nat.le_of_ble_eq_true rfl) rfl ?_
  intro K hC hR
  show G K E 3 [(q 0, .inr (12, oM q ab be fe fc mo bl ta tl tkn va)), (q 1, .inl (E.2.1 0, 188, .inl a)), (q 4, .inl (E.2.1 0, 3, .inl r))] [(0, .ref (q 0)), (1, .int wh)] 0 []
  refine g_iload_n hC dX12_forget_0 rfl 1 rfl ?_
  refine g_i2l hC dX12_forget_1 ?_
  refine g_lconst (v := 0) hC dX12_forget_2 (by decide) ?_
  refine g_lconst (v := 1) hC dX12_forget_3 (by decide) ?_
  refine g_callS hC (f_X12_in (kl K) E wh.toInt64 0 1) wX12_in m4_31 dX12_forget_4 [] [(q 0, .inr (12, oM q ab be fe fc mo bl ta tl tkn va)), (q 1, .inl (E.2.1 0, 188, .inl a)), (q 4, .inl (E.2.1 0, 3, .inl r))] (by decide) rfl (Nat.le_of_ble_eq_true rfl) rfl rfl rfl rfl rfl ?_
  refine g_val (v' := .int (bI (inB wh 2))) (by rw [inlC (n := 2) (by decide)]) ?_
  refine g_if_neB (tgt := 17) hC dX12_forget_7 (by decide) (fun h_7 => ?_) (fun h_7 => ?_)
  · exact absurd h_7 (by rw [hb]; decide)
  · refine g_aload_n hC dX12_forget_10 rfl 0 rfl ?_
    refine g_bipush (v := (-2)) hC dX12_forget_11 (by decide) ?_
    refine g_callV hC (f_X12_bad (kl K) E q ab be fe fc mo bl ta tl tkn va r (-2)) wX12_bad m4_34 dX12_forget_13 [0, 2] [(q 0, .inr (12, oM q ab be fe fc mo bl ta tl tkn va)), (q 1, .inl (E.2.1 0, 188, .inl a)), (q 4, .inl (E.2.1 0, 3, .inl (upd r 0 (r 0 + nI 1))))] 0 12 rfl rfl (by decide) rfl (Nat.le_of_ble_eq_true rfl) rfl rfl rfl rfl rfl ?_
    exact g_val (rfl) (g_ws (rfl) (hR _ _ dX12_forget_16))
set_option maxHeartbeats 4000000 in
set_option maxRecDepth 100000 in
theorem f_X12_areSo (l : Launch) (E : Ew) (q : Nat → Nat) (ab : Int64) (be : Int64) (fe : Int32) (fc : Int32) (mo : Int32) (bl : Int32) (ta : Int32) (tl : Int32) (tkn : Int32) (va : Int32) (a : Nat → Int32) (v : Nat) (p : Nat) (kd : Nat) (pl : Nat) (hv : a 3 = nI v) (hv6 : v ≤ 6) (hnt : ∀ k, k < v → isN (a (38 + 5 * k + 1)) 10) (hkd : kd < 6) (hpl : pl < 10) : Fn l E 1 yX12_areSo cX12_areSo 8 (some .boolean) [.ref (q 0), .int (nI p), .int (nI kd), .int (nI pl)] [(q 0, .inr (12, oM q ab be fe fc mo bl ta tl tkn va)), (q 1, .inl (E.2.1 0, 188, .inl a))] (some (.int (bI (arS a p kd pl v)))) [(q 0, .inr (12, oM q ab be fe fc mo bl ta tl tkn va)), (q 1, .inl (E.2.1 0, 188, .inl a))] := by
  refine fn_Z (by decide) (Nat.le_of_ble_eq_true rfl) rfl (nar_bI _) ?_
  intro K hC hR
  show G K E 8 [(q 0, .inr (12, oM q ab be fe fc mo bl ta tl tkn va)), (q 1, .inl (E.2.1 0, 188, .inl a))] [(0, .ref (q 0)), (1, .int (nI p)), (2, .int (nI kd)), (3, .int (nI pl))] 0 []
  refine g_iconst (v := (nI 1)) hC dX12_areSo_0 (by decide) ?_
  refine g_istore hC [(4, .int (nI 1)), (0, .ref (q 0)), (1, .int (nI p)), (2, .int (nI kd)), (3, .int (nI pl))] dX12_areSo_1 (by decide) rfl ?_
  refine g_iconst (v := (nI 0)) hC dX12_areSo_3 (by decide) ?_
  refine g_istore hC [(5, .int (nI 0)), (4, .int (nI 1)), (0, .ref (q 0)), (1, .int (nI p)), (2, .int (nI kd)), (3, .int (nI pl))] dX12_areSo_4 (by decide) rfl ?_
  have L_6 : ∀ (fu : Nat) (k : Nat) (b : Bool) (hk : k ≤ v) (hb : b = arS a p kd pl k), v - k < fu → G K E 8 [(q 0, .inr (12, oM q ab be fe fc mo bl ta tl tkn va)), (q 1, .inl (E.2.1 0, 188, .inl a))] [(5, .int (nI k)), (4, .int (bI b)), (0, .ref (q 0)), (1, .int (nI p)), (2, .int (nI kd)), (3, .int (nI pl))] 6 [] := by
    intro fu
    induction fu with
    | zero => intro k b hk hb hm_6; exact absurd hm_6 (Nat.not_lt_zero _)
    | succ fu ih_6 =>
      intro k b hk hb hm_6
      refine g_iload hC dX12_areSo_6 0 rfl ?_
      refine g_aload_n hC dX12_areSo_8 rfl 2 rfl ?_
      refine g_get hC 0 12 0 inX12 m3_208 dX12_areSo_9 rfl rfl (by decide) rfl ?_
      refine g_iconst (v := (nI 3)) hC dX12_areSo_12 (by decide) ?_
      refine g_ialdN hC 1 dX12_areSo_13 rfl (by decide) (by omega) ?_
      refine g_val (v' := .int (nI v)) (by rw [hv]) ?_
      refine g_icmp_geN (tgt := 125) hC dX12_areSo_14 (by decide) (by omega) (by omega) (fun h_14 => ?_) (fun h_14 => ?_)
      · refine g_iload hC dX12_areSo_125 1 rfl ?_
        exact g_val (by rw [hb, show k = v by omega]) (g_ws (rfl) (hR _ _ dX12_areSo_127))
      · have hn1 := (hnt k (by omega)).2
        refine g_bipush (v := (nI 38)) hC dX12_areSo_17 (by decide) ?_
        refine g_iconst (v := (nI 5)) hC dX12_areSo_19 (by decide) ?_
        refine g_iload hC dX12_areSo_20 0 rfl ?_
        refine g_imulN hC dX12_areSo_22 ?_
        refine g_iaddN hC dX12_areSo_23 ?_
        refine g_istore hC [(6, .int (nI (38 + (5 * k)))), (5, .int (nI k)), (4, .int (bI b)), (0, .ref (q 0)), (1, .int (nI p)), (2, .int (nI kd)), (3, .int (nI pl))] dX12_areSo_24 (by decide) rfl ?_
        refine g_iload_n hC dX12_areSo_26 rfl 5 rfl ?_
        refine g_iload_n hC dX12_areSo_27 rfl 6 rfl ?_
        refine g_aload_n hC dX12_areSo_28 rfl 3 rfl ?_
        refine g_get hC 0 12 0 inX12 m3_208 dX12_areSo_29 rfl rfl (by decide) rfl ?_
        refine g_iload hC dX12_areSo_32 0 rfl ?_
        refine g_iconst (v := (nI 1)) hC dX12_areSo_34 (by decide) ?_
        refine g_iaddN hC dX12_areSo_35 ?_
        refine g_ialdN hC 1 dX12_areSo_36 rfl (by decide) (by omega) ?_
        refine g_val (v' := .int (nI (tn (a (38 + 5 * k + 1))))) (by rw [← (hnt k (by omega)).1]) ?_
        refine g_callS hC (f_X12_farOf (kl K) E pl (tn (a (38 + 5 * k + 1))) (by omega) (by omega)) wX12_farOf m4_86 dX12_areSo_37 [] [(q 0, .inr (12, oM q ab be fe fc mo bl ta tl tkn va)), (q 1, .inl (E.2.1 0, 188, .inl a))] (by decide) rfl (Nat.le_of_ble_eq_true rfl) rfl rfl rfl rfl rfl ?_
        refine g_aload_n hC dX12_areSo_40 rfl 3 rfl ?_
        refine g_get hC 0 12 0 inX12 m3_208 dX12_areSo_41 rfl rfl (by decide) rfl ?_
        refine g_iload hC dX12_areSo_44 0 rfl ?_
        refine g_iconst (v := (nI 3)) hC dX12_areSo_46 (by decide) ?_
        refine g_iaddN hC dX12_areSo_47 ?_
        refine g_ialdN hC 1 dX12_areSo_48 rfl (by decide) (by omega) ?_
        refine g_iconst (v := (nI 1)) hC dX12_areSo_49 (by decide) ?_
        refine g_icmp_ne (tgt := 57) hC dX12_areSo_50 (by decide) (fun h_50 => ?_) (fun h_50 => ?_)
        · refine g_iconst (v := (nI 0)) hC dX12_areSo_57 (by decide) ?_
          refine g_iconst (v := (nI 0)) hC dX12_areSo_58 (by decide) ?_
          refine g_aload_n hC dX12_areSo_59 rfl 3 rfl ?_
          refine g_get hC 0 12 0 inX12 m3_208 dX12_areSo_60 rfl rfl (by decide) rfl ?_
          refine g_iload hC dX12_areSo_63 0 rfl ?_
          refine g_iconst (v := (nI 2)) hC dX12_areSo_65 (by decide) ?_
          refine g_iaddN hC dX12_areSo_66 ?_
          refine g_ialdN hC 1 dX12_areSo_67 rfl (by decide) (by omega) ?_
          refine g_callS hC (f_X12_turnsAs (kl K) E kd (fr pl (tn (a (38 + 5 * k + 1)))) false false (a ((38 + (5 * k)) + 2)) (by omega) (fr_lt (by omega) (by omega))) wX12_turnsAs m4_92 dX12_areSo_68 [] [(q 0, .inr (12, oM q ab be fe fc mo bl ta tl tkn va)), (q 1, .inl (E.2.1 0, 188, .inl a))] (by decide) rfl (Nat.le_of_ble_eq_true rfl) rfl rfl rfl rfl rfl ?_
          refine g_istore hC [(7, .int (bI (tk kd (fr pl (tn (a (38 + 5 * k + 1)))) false false (evn (a ((38 + (5 * k)) + 2)))))), (6, .int (nI (38 + (5 * k)))), (5, .int (nI k)), (4, .int (bI b)), (0, .ref (q 0)), (1, .int (nI p)), (2, .int (nI kd)), (3, .int (nI pl))] dX12_areSo_71 (by decide) rfl ?_
          refine g_iload hC dX12_areSo_73 3 rfl ?_
          refine g_if_eqB (tgt := 116) hC dX12_areSo_75 (by decide) (fun h_75 => ?_) (fun h_75 => ?_)
          · refine g_iconst (v := (nI 0)) hC dX12_areSo_116 (by decide) ?_
            refine g_istore hC [(4, .int (nI 0)), (7, .int (bI (tk kd (fr pl (tn (a (38 + 5 * k + 1)))) false false (evn (a ((38 + (5 * k)) + 2)))))), (6, .int (nI (38 + (5 * k)))), (5, .int (nI k)), (0, .ref (q 0)), (1, .int (nI p)), (2, .int (nI kd)), (3, .int (nI pl))] dX12_areSo_117 (by decide) rfl ?_
            refine g_iincN hC (q := 3) 1 [(5, .int (nI (k + 1))), (4, .int (nI 0)), (7, .int (bI (tk kd (fr pl (tn (a (38 + 5 * k + 1)))) false false (evn (a ((38 + (5 * k)) + 2)))))), (6, .int (nI (38 + (5 * k)))), (0, .ref (q 0)), (1, .int (nI p)), (2, .int (nI kd)), (3, .int (nI pl))] dX12_areSo_119 rfl rfl (by decide) rfl ?_
            refine g_goto (tgt := 6) hC dX12_areSo_122 (by decide) ?_
            refine g_lv (lv' := [(5, .int (nI (k + 1))), (4, .int (nI 0)), (0, .ref (q 0)), (1, .int (nI p)), (2, .int (nI kd)), (3, .int (nI pl))]) [0, 1, 4, 5, 6, 7] rfl ?_
            exact ih_6 (k + 1) false (by omega) (by rw [arS_s, ← hb]; simp [h_14, h_50, h_75, bI_N1, bI_N0]; try simp_all [bI_N1, bI_N0]) (by omega)
          · refine g_aload_n hC dX12_areSo_78 rfl 4 rfl ?_
            refine g_get hC 0 12 0 inX12 m3_208 dX12_areSo_79 rfl rfl (by decide) rfl ?_
            refine g_iload hC dX12_areSo_82 1 rfl ?_
            refine g_ialdN hC 1 dX12_areSo_84 rfl (by decide) (by omega) ?_
            refine g_iload_n hC dX12_areSo_85 rfl 5 rfl ?_
            refine g_icmp_ne (tgt := 112) hC dX12_areSo_86 (by decide) (fun h_86 => ?_) (fun h_86 => ?_)
            · refine g_iconst (v := (nI 1)) hC dX12_areSo_112 (by decide) ?_
              refine g_goto (tgt := 117) hC dX12_areSo_113 (by decide) ?_
              refine g_istore hC [(4, .int (nI 1)), (7, .int (bI (tk kd (fr pl (tn (a (38 + 5 * k + 1)))) false false (evn (a ((38 + (5 * k)) + 2)))))), (6, .int (nI (38 + (5 * k)))), (5, .int (nI k)), (0, .ref (q 0)), (1, .int (nI p)), (2, .int (nI kd)), (3, .int (nI pl))] dX12_areSo_117 (by decide) rfl ?_
              refine g_iincN hC (q := 3) 1 [(5, .int (nI (k + 1))), (4, .int (nI 1)), (7, .int (bI (tk kd (fr pl (tn (a (38 + 5 * k + 1)))) false false (evn (a ((38 + (5 * k)) + 2)))))), (6, .int (nI (38 + (5 * k)))), (0, .ref (q 0)), (1, .int (nI p)), (2, .int (nI kd)), (3, .int (nI pl))] dX12_areSo_119 rfl rfl (by decide) rfl ?_
              refine g_goto (tgt := 6) hC dX12_areSo_122 (by decide) ?_
              refine g_lv (lv' := [(5, .int (nI (k + 1))), (4, .int (nI 1)), (0, .ref (q 0)), (1, .int (nI p)), (2, .int (nI kd)), (3, .int (nI pl))]) [0, 1, 4, 5, 6, 7] rfl ?_
              exact ih_6 (k + 1) true (by omega) (by rw [arS_s, ← hb]; simp [h_14, h_50, h_75, h_86, bI_N1, bI_N0]; try simp_all [bI_N1, bI_N0]) (by omega)
            · refine g_iload hC dX12_areSo_89 0 rfl ?_
              refine g_aload_n hC dX12_areSo_91 rfl 4 rfl ?_
              refine g_get hC 0 12 0 inX12 m3_208 dX12_areSo_92 rfl rfl (by decide) rfl ?_
              refine g_iload hC dX12_areSo_95 1 rfl ?_
              refine g_iconst (v := (nI 4)) hC dX12_areSo_97 (by decide) ?_
              refine g_iaddN hC dX12_areSo_98 ?_
              refine g_ialdN hC 1 dX12_areSo_99 rfl (by decide) (by omega) ?_
              refine g_iconst (v := (nI 1)) hC dX12_areSo_100 (by decide) ?_
              refine g_icmp_ne (tgt := 108) hC dX12_areSo_101 (by decide) (fun h_101 => ?_) (fun h_101 => ?_)
              · refine g_iconst (v := (nI 0)) hC dX12_areSo_108 (by decide) ?_
                refine g_icmp_ne (tgt := 116) hC dX12_areSo_109 (by decide) (fun h_109 => ?_) (fun h_109 => ?_)
                · refine g_iconst (v := (nI 0)) hC dX12_areSo_116 (by decide) ?_
                  refine g_istore hC [(4, .int (nI 0)), (7, .int (bI (tk kd (fr pl (tn (a (38 + 5 * k + 1)))) false false (evn (a ((38 + (5 * k)) + 2)))))), (6, .int (nI (38 + (5 * k)))), (5, .int (nI k)), (0, .ref (q 0)), (1, .int (nI p)), (2, .int (nI kd)), (3, .int (nI pl))] dX12_areSo_117 (by decide) rfl ?_
                  refine g_iincN hC (q := 3) 1 [(5, .int (nI (k + 1))), (4, .int (nI 0)), (7, .int (bI (tk kd (fr pl (tn (a (38 + 5 * k + 1)))) false false (evn (a ((38 + (5 * k)) + 2)))))), (6, .int (nI (38 + (5 * k)))), (0, .ref (q 0)), (1, .int (nI p)), (2, .int (nI kd)), (3, .int (nI pl))] dX12_areSo_119 rfl rfl (by decide) rfl ?_
                  refine g_goto (tgt := 6) hC dX12_areSo_122 (by decide) ?_
                  refine g_lv (lv' := [(5, .int (nI (k + 1))), (4, .int (nI 0)), (0, .ref (q 0)), (1, .int (nI p)), (2, .int (nI kd)), (3, .int (nI pl))]) [0, 1, 4, 5, 6, 7] rfl ?_
                  exact ih_6 (k + 1) false (by omega) (by rw [arS_s, ← hb]; simp [h_14, h_50, h_75, h_86, h_101, h_109, bI_N1, bI_N0]; try simp_all [bI_N1, bI_N0]) (by omega)
                · refine g_iconst (v := (nI 1)) hC dX12_areSo_112 (by decide) ?_
                  refine g_goto (tgt := 117) hC dX12_areSo_113 (by decide) ?_
                  refine g_istore hC [(4, .int (nI 1)), (7, .int (bI (tk kd (fr pl (tn (a (38 + 5 * k + 1)))) false false (evn (a ((38 + (5 * k)) + 2)))))), (6, .int (nI (38 + (5 * k)))), (5, .int (nI k)), (0, .ref (q 0)), (1, .int (nI p)), (2, .int (nI kd)), (3, .int (nI pl))] dX12_areSo_117 (by decide) rfl ?_
                  refine g_iincN hC (q := 3) 1 [(5, .int (nI (k + 1))), (4, .int (nI 1)), (7, .int (bI (tk kd (fr pl (tn (a (38 + 5 * k + 1)))) false false (evn (a ((38 + (5 * k)) + 2)))))), (6, .int (nI (38 + (5 * k)))), (0, .ref (q 0)), (1, .int (nI p)), (2, .int (nI kd)), (3, .int (nI pl))] dX12_areSo_119 rfl rfl (by decide) rfl ?_
                  refine g_goto (tgt := 6) hC dX12_areSo_122 (by decide) ?_
                  refine g_lv (lv' := [(5, .int (nI (k + 1))), (4, .int (nI 1)), (0, .ref (q 0)), (1, .int (nI p)), (2, .int (nI kd)), (3, .int (nI pl))]) [0, 1, 4, 5, 6, 7] rfl ?_
                  exact ih_6 (k + 1) true (by omega) (by rw [arS_s, ← hb]; simp [h_14, h_50, h_75, h_86, h_101, h_109, bI_N1, bI_N0]; try simp_all [bI_N1, bI_N0]) (by omega)
              · refine g_iconst (v := (nI 1)) hC dX12_areSo_104 (by decide) ?_
                refine g_goto (tgt := 109) hC dX12_areSo_105 (by decide) ?_
                refine g_icmp_ne (tgt := 116) hC dX12_areSo_109 (by decide) (fun h_109 => ?_) (fun h_109 => ?_)
                · refine g_iconst (v := (nI 0)) hC dX12_areSo_116 (by decide) ?_
                  refine g_istore hC [(4, .int (nI 0)), (7, .int (bI (tk kd (fr pl (tn (a (38 + 5 * k + 1)))) false false (evn (a ((38 + (5 * k)) + 2)))))), (6, .int (nI (38 + (5 * k)))), (5, .int (nI k)), (0, .ref (q 0)), (1, .int (nI p)), (2, .int (nI kd)), (3, .int (nI pl))] dX12_areSo_117 (by decide) rfl ?_
                  refine g_iincN hC (q := 3) 1 [(5, .int (nI (k + 1))), (4, .int (nI 0)), (7, .int (bI (tk kd (fr pl (tn (a (38 + 5 * k + 1)))) false false (evn (a ((38 + (5 * k)) + 2)))))), (6, .int (nI (38 + (5 * k)))), (0, .ref (q 0)), (1, .int (nI p)), (2, .int (nI kd)), (3, .int (nI pl))] dX12_areSo_119 rfl rfl (by decide) rfl ?_
                  refine g_goto (tgt := 6) hC dX12_areSo_122 (by decide) ?_
                  refine g_lv (lv' := [(5, .int (nI (k + 1))), (4, .int (nI 0)), (0, .ref (q 0)), (1, .int (nI p)), (2, .int (nI kd)), (3, .int (nI pl))]) [0, 1, 4, 5, 6, 7] rfl ?_
                  exact ih_6 (k + 1) false (by omega) (by rw [arS_s, ← hb]; simp [h_14, h_50, h_75, h_86, h_101, h_109, bI_N1, bI_N0]; try simp_all [bI_N1, bI_N0]) (by omega)
                · refine g_iconst (v := (nI 1)) hC dX12_areSo_112 (by decide) ?_
                  refine g_goto (tgt := 117) hC dX12_areSo_113 (by decide) ?_
                  refine g_istore hC [(4, .int (nI 1)), (7, .int (bI (tk kd (fr pl (tn (a (38 + 5 * k + 1)))) false false (evn (a ((38 + (5 * k)) + 2)))))), (6, .int (nI (38 + (5 * k)))), (5, .int (nI k)), (0, .ref (q 0)), (1, .int (nI p)), (2, .int (nI kd)), (3, .int (nI pl))] dX12_areSo_117 (by decide) rfl ?_
                  refine g_iincN hC (q := 3) 1 [(5, .int (nI (k + 1))), (4, .int (nI 1)), (7, .int (bI (tk kd (fr pl (tn (a (38 + 5 * k + 1)))) false false (evn (a ((38 + (5 * k)) + 2)))))), (6, .int (nI (38 + (5 * k)))), (0, .ref (q 0)), (1, .int (nI p)), (2, .int (nI kd)), (3, .int (nI pl))] dX12_areSo_119 rfl rfl (by decide) rfl ?_
                  refine g_goto (tgt := 6) hC dX12_areSo_122 (by decide) ?_
                  refine g_lv (lv' := [(5, .int (nI (k + 1))), (4, .int (nI 1)), (0, .ref (q 0)), (1, .int (nI p)), (2, .int (nI kd)), (3, .int (nI pl))]) [0, 1, 4, 5, 6, 7] rfl ?_
                  exact ih_6 (k + 1) true (by omega) (by rw [arS_s, ← hb]; simp [h_14, h_50, h_75, h_86, h_101, h_109, bI_N1, bI_N0]; try simp_all [bI_N1, bI_N0]) (by omega)
        · refine g_iconst (v := (nI 1)) hC dX12_areSo_53 (by decide) ?_
          refine g_goto (tgt := 58) hC dX12_areSo_54 (by decide) ?_
          refine g_iconst (v := (nI 0)) hC dX12_areSo_58 (by decide) ?_
          refine g_aload_n hC dX12_areSo_59 rfl 3 rfl ?_
          refine g_get hC 0 12 0 inX12 m3_208 dX12_areSo_60 rfl rfl (by decide) rfl ?_
          refine g_iload hC dX12_areSo_63 0 rfl ?_
          refine g_iconst (v := (nI 2)) hC dX12_areSo_65 (by decide) ?_
          refine g_iaddN hC dX12_areSo_66 ?_
          refine g_ialdN hC 1 dX12_areSo_67 rfl (by decide) (by omega) ?_
          refine g_callS hC (f_X12_turnsAs (kl K) E kd (fr pl (tn (a (38 + 5 * k + 1)))) true false (a ((38 + (5 * k)) + 2)) (by omega) (fr_lt (by omega) (by omega))) wX12_turnsAs m4_92 dX12_areSo_68 [] [(q 0, .inr (12, oM q ab be fe fc mo bl ta tl tkn va)), (q 1, .inl (E.2.1 0, 188, .inl a))] (by decide) rfl (Nat.le_of_ble_eq_true rfl) rfl rfl rfl rfl rfl ?_
          refine g_istore hC [(7, .int (bI (tk kd (fr pl (tn (a (38 + 5 * k + 1)))) true false (evn (a ((38 + (5 * k)) + 2)))))), (6, .int (nI (38 + (5 * k)))), (5, .int (nI k)), (4, .int (bI b)), (0, .ref (q 0)), (1, .int (nI p)), (2, .int (nI kd)), (3, .int (nI pl))] dX12_areSo_71 (by decide) rfl ?_
          refine g_iload hC dX12_areSo_73 3 rfl ?_
          refine g_if_eqB (tgt := 116) hC dX12_areSo_75 (by decide) (fun h_75 => ?_) (fun h_75 => ?_)
          · refine g_iconst (v := (nI 0)) hC dX12_areSo_116 (by decide) ?_
            refine g_istore hC [(4, .int (nI 0)), (7, .int (bI (tk kd (fr pl (tn (a (38 + 5 * k + 1)))) true false (evn (a ((38 + (5 * k)) + 2)))))), (6, .int (nI (38 + (5 * k)))), (5, .int (nI k)), (0, .ref (q 0)), (1, .int (nI p)), (2, .int (nI kd)), (3, .int (nI pl))] dX12_areSo_117 (by decide) rfl ?_
            refine g_iincN hC (q := 3) 1 [(5, .int (nI (k + 1))), (4, .int (nI 0)), (7, .int (bI (tk kd (fr pl (tn (a (38 + 5 * k + 1)))) true false (evn (a ((38 + (5 * k)) + 2)))))), (6, .int (nI (38 + (5 * k)))), (0, .ref (q 0)), (1, .int (nI p)), (2, .int (nI kd)), (3, .int (nI pl))] dX12_areSo_119 rfl rfl (by decide) rfl ?_
            refine g_goto (tgt := 6) hC dX12_areSo_122 (by decide) ?_
            refine g_lv (lv' := [(5, .int (nI (k + 1))), (4, .int (nI 0)), (0, .ref (q 0)), (1, .int (nI p)), (2, .int (nI kd)), (3, .int (nI pl))]) [0, 1, 4, 5, 6, 7] rfl ?_
            exact ih_6 (k + 1) false (by omega) (by rw [arS_s, ← hb]; simp [h_14, h_50, h_75, bI_N1, bI_N0]; try simp_all [bI_N1, bI_N0]) (by omega)
          · refine g_aload_n hC dX12_areSo_78 rfl 4 rfl ?_
            refine g_get hC 0 12 0 inX12 m3_208 dX12_areSo_79 rfl rfl (by decide) rfl ?_
            refine g_iload hC dX12_areSo_82 1 rfl ?_
            refine g_ialdN hC 1 dX12_areSo_84 rfl (by decide) (by omega) ?_
            refine g_iload_n hC dX12_areSo_85 rfl 5 rfl ?_
            refine g_icmp_ne (tgt := 112) hC dX12_areSo_86 (by decide) (fun h_86 => ?_) (fun h_86 => ?_)
            · refine g_iconst (v := (nI 1)) hC dX12_areSo_112 (by decide) ?_
              refine g_goto (tgt := 117) hC dX12_areSo_113 (by decide) ?_
              refine g_istore hC [(4, .int (nI 1)), (7, .int (bI (tk kd (fr pl (tn (a (38 + 5 * k + 1)))) true false (evn (a ((38 + (5 * k)) + 2)))))), (6, .int (nI (38 + (5 * k)))), (5, .int (nI k)), (0, .ref (q 0)), (1, .int (nI p)), (2, .int (nI kd)), (3, .int (nI pl))] dX12_areSo_117 (by decide) rfl ?_
              refine g_iincN hC (q := 3) 1 [(5, .int (nI (k + 1))), (4, .int (nI 1)), (7, .int (bI (tk kd (fr pl (tn (a (38 + 5 * k + 1)))) true false (evn (a ((38 + (5 * k)) + 2)))))), (6, .int (nI (38 + (5 * k)))), (0, .ref (q 0)), (1, .int (nI p)), (2, .int (nI kd)), (3, .int (nI pl))] dX12_areSo_119 rfl rfl (by decide) rfl ?_
              refine g_goto (tgt := 6) hC dX12_areSo_122 (by decide) ?_
              refine g_lv (lv' := [(5, .int (nI (k + 1))), (4, .int (nI 1)), (0, .ref (q 0)), (1, .int (nI p)), (2, .int (nI kd)), (3, .int (nI pl))]) [0, 1, 4, 5, 6, 7] rfl ?_
              exact ih_6 (k + 1) true (by omega) (by rw [arS_s, ← hb]; simp [h_14, h_50, h_75, h_86, bI_N1, bI_N0]; try simp_all [bI_N1, bI_N0]) (by omega)
            · refine g_iload hC dX12_areSo_89 0 rfl ?_
              refine g_aload_n hC dX12_areSo_91 rfl 4 rfl ?_
              refine g_get hC 0 12 0 inX12 m3_208 dX12_areSo_92 rfl rfl (by decide) rfl ?_
              refine g_iload hC dX12_areSo_95 1 rfl ?_
              refine g_iconst (v := (nI 4)) hC dX12_areSo_97 (by decide) ?_
              refine g_iaddN hC dX12_areSo_98 ?_
              refine g_ialdN hC 1 dX12_areSo_99 rfl (by decide) (by omega) ?_
              refine g_iconst (v := (nI 1)) hC dX12_areSo_100 (by decide) ?_
              refine g_icmp_ne (tgt := 108) hC dX12_areSo_101 (by decide) (fun h_101 => ?_) (fun h_101 => ?_)
              · refine g_iconst (v := (nI 0)) hC dX12_areSo_108 (by decide) ?_
                refine g_icmp_ne (tgt := 116) hC dX12_areSo_109 (by decide) (fun h_109 => ?_) (fun h_109 => ?_)
                · refine g_iconst (v := (nI 0)) hC dX12_areSo_116 (by decide) ?_
                  refine g_istore hC [(4, .int (nI 0)), (7, .int (bI (tk kd (fr pl (tn (a (38 + 5 * k + 1)))) true false (evn (a ((38 + (5 * k)) + 2)))))), (6, .int (nI (38 + (5 * k)))), (5, .int (nI k)), (0, .ref (q 0)), (1, .int (nI p)), (2, .int (nI kd)), (3, .int (nI pl))] dX12_areSo_117 (by decide) rfl ?_
                  refine g_iincN hC (q := 3) 1 [(5, .int (nI (k + 1))), (4, .int (nI 0)), (7, .int (bI (tk kd (fr pl (tn (a (38 + 5 * k + 1)))) true false (evn (a ((38 + (5 * k)) + 2)))))), (6, .int (nI (38 + (5 * k)))), (0, .ref (q 0)), (1, .int (nI p)), (2, .int (nI kd)), (3, .int (nI pl))] dX12_areSo_119 rfl rfl (by decide) rfl ?_
                  refine g_goto (tgt := 6) hC dX12_areSo_122 (by decide) ?_
                  refine g_lv (lv' := [(5, .int (nI (k + 1))), (4, .int (nI 0)), (0, .ref (q 0)), (1, .int (nI p)), (2, .int (nI kd)), (3, .int (nI pl))]) [0, 1, 4, 5, 6, 7] rfl ?_
                  exact ih_6 (k + 1) false (by omega) (by rw [arS_s, ← hb]; simp [h_14, h_50, h_75, h_86, h_101, h_109, bI_N1, bI_N0]; try simp_all [bI_N1, bI_N0]) (by omega)
                · refine g_iconst (v := (nI 1)) hC dX12_areSo_112 (by decide) ?_
                  refine g_goto (tgt := 117) hC dX12_areSo_113 (by decide) ?_
                  refine g_istore hC [(4, .int (nI 1)), (7, .int (bI (tk kd (fr pl (tn (a (38 + 5 * k + 1)))) true false (evn (a ((38 + (5 * k)) + 2)))))), (6, .int (nI (38 + (5 * k)))), (5, .int (nI k)), (0, .ref (q 0)), (1, .int (nI p)), (2, .int (nI kd)), (3, .int (nI pl))] dX12_areSo_117 (by decide) rfl ?_
                  refine g_iincN hC (q := 3) 1 [(5, .int (nI (k + 1))), (4, .int (nI 1)), (7, .int (bI (tk kd (fr pl (tn (a (38 + 5 * k + 1)))) true false (evn (a ((38 + (5 * k)) + 2)))))), (6, .int (nI (38 + (5 * k)))), (0, .ref (q 0)), (1, .int (nI p)), (2, .int (nI kd)), (3, .int (nI pl))] dX12_areSo_119 rfl rfl (by decide) rfl ?_
                  refine g_goto (tgt := 6) hC dX12_areSo_122 (by decide) ?_
                  refine g_lv (lv' := [(5, .int (nI (k + 1))), (4, .int (nI 1)), (0, .ref (q 0)), (1, .int (nI p)), (2, .int (nI kd)), (3, .int (nI pl))]) [0, 1, 4, 5, 6, 7] rfl ?_
                  exact ih_6 (k + 1) true (by omega) (by rw [arS_s, ← hb]; simp [h_14, h_50, h_75, h_86, h_101, h_109, bI_N1, bI_N0]; try simp_all [bI_N1, bI_N0]) (by omega)
              · refine g_iconst (v := (nI 1)) hC dX12_areSo_104 (by decide) ?_
                refine g_goto (tgt := 109) hC dX12_areSo_105 (by decide) ?_
                refine g_icmp_ne (tgt := 116) hC dX12_areSo_109 (by decide) (fun h_109 => ?_) (fun h_109 => ?_)
                · refine g_iconst (v := (nI 0)) hC dX12_areSo_116 (by decide) ?_
                  refine g_istore hC [(4, .int (nI 0)), (7, .int (bI (tk kd (fr pl (tn (a (38 + 5 * k + 1)))) true false (evn (a ((38 + (5 * k)) + 2)))))), (6, .int (nI (38 + (5 * k)))), (5, .int (nI k)), (0, .ref (q 0)), (1, .int (nI p)), (2, .int (nI kd)), (3, .int (nI pl))] dX12_areSo_117 (by decide) rfl ?_
                  refine g_iincN hC (q := 3) 1 [(5, .int (nI (k + 1))), (4, .int (nI 0)), (7, .int (bI (tk kd (fr pl (tn (a (38 + 5 * k + 1)))) true false (evn (a ((38 + (5 * k)) + 2)))))), (6, .int (nI (38 + (5 * k)))), (0, .ref (q 0)), (1, .int (nI p)), (2, .int (nI kd)), (3, .int (nI pl))] dX12_areSo_119 rfl rfl (by decide) rfl ?_
                  refine g_goto (tgt := 6) hC dX12_areSo_122 (by decide) ?_
                  refine g_lv (lv' := [(5, .int (nI (k + 1))), (4, .int (nI 0)), (0, .ref (q 0)), (1, .int (nI p)), (2, .int (nI kd)), (3, .int (nI pl))]) [0, 1, 4, 5, 6, 7] rfl ?_
                  exact ih_6 (k + 1) false (by omega) (by rw [arS_s, ← hb]; simp [h_14, h_50, h_75, h_86, h_101, h_109, bI_N1, bI_N0]; try simp_all [bI_N1, bI_N0]) (by omega)
                · refine g_iconst (v := (nI 1)) hC dX12_areSo_112 (by decide) ?_
                  refine g_goto (tgt := 117) hC dX12_areSo_113 (by decide) ?_
                  refine g_istore hC [(4, .int (nI 1)), (7, .int (bI (tk kd (fr pl (tn (a (38 + 5 * k + 1)))) true false (evn (a ((38 + (5 * k)) + 2)))))), (6, .int (nI (38 + (5 * k)))), (5, .int (nI k)), (0, .ref (q 0)), (1, .int (nI p)), (2, .int (nI kd)), (3, .int (nI pl))] dX12_areSo_117 (by decide) rfl ?_
                  refine g_iincN hC (q := 3) 1 [(5, .int (nI (k + 1))), (4, .int (nI 1)), (7, .int (bI (tk kd (fr pl (tn (a (38 + 5 * k + 1)))) true false (evn (a ((38 + (5 * k)) + 2)))))), (6, .int (nI (38 + (5 * k)))), (0, .ref (q 0)), (1, .int (nI p)), (2, .int (nI kd)), (3, .int (nI pl))] dX12_areSo_119 rfl rfl (by decide) rfl ?_
                  refine g_goto (tgt := 6) hC dX12_areSo_122 (by decide) ?_
                  refine g_lv (lv' := [(5, .int (nI (k + 1))), (4, .int (nI 1)), (0, .ref (q 0)), (1, .int (nI p)), (2, .int (nI kd)), (3, .int (nI pl))]) [0, 1, 4, 5, 6, 7] rfl ?_
                  exact ih_6 (k + 1) true (by omega) (by rw [arS_s, ← hb]; simp [h_14, h_50, h_75, h_86, h_101, h_109, bI_N1, bI_N0]; try simp_all [bI_N1, bI_N0]) (by omega)
  refine g_lv (lv' := [(5, .int (nI 0)), (4, .int (nI 1)), (0, .ref (q 0)), (1, .int (nI p)), (2, .int (nI kd)), (3, .int (nI pl))]) [0, 1, 2, 3, 4, 5] rfl ?_
  exact L_6 ((v - 0) + 1) 0 true (by omega) (rfl) (Nat.lt_succ_self _)
set_option maxHeartbeats 4000000 in
set_option maxRecDepth 100000 in
theorem f_X12_is_ok (l : Launch) (E : Ew) (q : Nat → Nat) (ab : Int64) (be : Int64) (fe : Int32) (fc : Int32) (mo : Int32) (bl : Int32) (ta : Int32) (tl : Int32) (tkn : Int32) (va : Int32) (a : Nat → Int32) (r : Nat → Int32) (n : Nat) (v : Nat) (p : Nat) (hn : a 0 = nI n) (hn7 : n ≤ 7) (hv : a 3 = nI v) (hv6 : v ≤ 6) (hnt : ∀ k, k < v → isN (a (38 + 5 * k + 1)) 10) (hp : p < n) (hpp : isN (a (12 + p)) 10) : Fn l E 2 yX12_is cX12_is 4 (some .int) [.ref (q 0), .int (nI p)] [(q 0, .inr (12, oM q ab be fe fc mo bl ta tl tkn va)), (q 1, .inl (E.2.1 0, 188, .inl a)), (q 4, .inl (E.2.1 0, 3, .inl r))] (some (.int (nI (isS a p v)))) [(q 0, .inr (12, oM q ab be fe fc mo bl ta tl tkn va)), (q 1, .inl (E.2.1 0, 188, .inl a)), (q 4, .inl (E.2.1 0, 3, .inl r))] := by
  refine fn_I (by decide) (Nat.le_of_ble_eq_true rfl) rfl ?_
  intro K hC hR
  show G K E 4 [(q 0, .inr (12, oM q ab be fe fc mo bl ta tl tkn va)), (q 1, .inl (E.2.1 0, 188, .inl a)), (q 4, .inl (E.2.1 0, 3, .inl r))] [(0, .ref (q 0)), (1, .int (nI p))] 0 []
  refine g_aload_n hC dX12_is_0 rfl 0 rfl ?_
  refine g_iload_n hC dX12_is_1 rfl 1 rfl ?_
  refine g_callV hC (f_X12_isOne (kl K) E q ab be fe fc mo bl ta tl tkn va a n (nI p) (hn) (by omega)) wX12_isOne m4_62 dX12_is_2 [0, 1] [(q 0, .inr (12, oM q ab be fe fc mo bl ta tl tkn va)), (q 1, .inl (E.2.1 0, 188, .inl a)), (q 4, .inl (E.2.1 0, 3, .inl r))] 0 12 rfl rfl (by decide) rfl (Nat.le_of_ble_eq_true rfl) rfl rfl rfl rfl rfl ?_
  refine g_if_neB (tgt := 15) hC dX12_is_5 (by decide) (fun h_5 => ?_) (fun h_5 => ?_)
  · refine g_iconst (v := (nI 0)) hC dX12_is_15 (by decide) ?_
    refine g_istore_n hC [(2, .int (nI 0)), (0, .ref (q 0)), (1, .int (nI p))] dX12_is_16 rfl (by decide) rfl ?_
    refine g_iconst (v := (nI 0)) hC dX12_is_17 (by decide) ?_
    refine g_istore_n hC [(3, .int (nI 0)), (2, .int (nI 0)), (0, .ref (q 0)), (1, .int (nI p))] dX12_is_18 rfl (by decide) rfl ?_
    have L_19 : ∀ (fu : Nat) (k : Nat) (hk : k ≤ 6), 6 - k < fu → G K E 4 [(q 0, .inr (12, oM q ab be fe fc mo bl ta tl tkn va)), (q 1, .inl (E.2.1 0, 188, .inl a)), (q 4, .inl (E.2.1 0, 3, .inl r))] [(3, .int (nI k)), (2, .int (nI (bs (fun kd => arS a p kd (tn (a (12 + p))) v) k))), (0, .ref (q 0)), (1, .int (nI p))] 19 [] := by
      intro fu
      induction fu with
      | zero => intro k hk hm_19; exact absurd hm_19 (Nat.not_lt_zero _)
      | succ fu ih_19 =>
        intro k hk hm_19
        refine g_iload_n hC dX12_is_19 rfl 0 rfl ?_
        refine g_bipush (v := (nI 6)) hC dX12_is_20 (by decide) ?_
        refine g_icmp_geN (tgt := 59) hC dX12_is_22 (by decide) (by omega) (by omega) (fun h_22 => ?_) (fun h_22 => ?_)
        · refine g_iload_n hC dX12_is_59 rfl 1 rfl ?_
          exact g_val (by rw [show k = 6 by omega]; rfl) (g_ws (rfl) (hR _ _ dX12_is_60))
        · refine g_iload_n hC dX12_is_25 rfl 1 rfl ?_
          refine g_aload_n hC dX12_is_26 rfl 2 rfl ?_
          refine g_iload_n hC dX12_is_27 rfl 3 rfl ?_
          refine g_iload_n hC dX12_is_28 rfl 0 rfl ?_
          refine g_aload_n hC dX12_is_29 rfl 2 rfl ?_
          refine g_get hC 0 12 0 inX12 m3_208 dX12_is_30 rfl rfl (by decide) rfl ?_
          refine g_bipush (v := (nI 12)) hC dX12_is_33 (by decide) ?_
          refine g_iload_n hC dX12_is_35 rfl 3 rfl ?_
          refine g_iaddN hC dX12_is_36 ?_
          refine g_ialdN hC 1 dX12_is_37 rfl (by decide) (by omega) ?_
          refine g_val (v' := .int (nI (tn (a (12 + p))))) (by rw [← hpp.1]) ?_
          refine g_callV hC (f_X12_areSo (kl K) E q ab be fe fc mo bl ta tl tkn va a v p k (tn (a (12 + p))) (hv) (by omega) (hnt) (by omega) (hpp.2)) wX12_areSo m4_204 dX12_is_38 [0, 1] [(q 0, .inr (12, oM q ab be fe fc mo bl ta tl tkn va)), (q 1, .inl (E.2.1 0, 188, .inl a)), (q 4, .inl (E.2.1 0, 3, .inl r))] 0 12 rfl rfl (by decide) rfl (Nat.le_of_ble_eq_true rfl) rfl rfl rfl rfl rfl ?_
          refine g_if_eqB (tgt := 50) hC dX12_is_41 (by decide) (fun h_41 => ?_) (fun h_41 => ?_)
          · refine g_iconst (v := (nI 0)) hC dX12_is_50 (by decide) ?_
            refine g_ior hC dX12_is_51 ?_
            refine g_val (v' := .int (nI (bs (fun kd => arS a p kd (tn (a (12 + p))) v) (k + 1)))) (by rw [bs_no (p := fun kd => arS a p kd (tn (a (12 + p))) v) h_41]) ?_
            refine g_istore_n hC [(2, .int (nI (bs (fun kd => arS a p kd (tn (a (12 + p))) v) (k + 1)))), (3, .int (nI k)), (0, .ref (q 0)), (1, .int (nI p))] dX12_is_52 rfl (by decide) rfl ?_
            refine g_iincN hC (q := 1) 1 [(3, .int (nI (k + 1))), (2, .int (nI (bs (fun kd => arS a p kd (tn (a (12 + p))) v) (k + 1)))), (0, .ref (q 0)), (1, .int (nI p))] dX12_is_53 rfl rfl (by decide) rfl ?_
            refine g_goto (tgt := 19) hC dX12_is_56 (by decide) ?_
            refine g_lv (lv' := [(3, .int (nI (k + 1))), (2, .int (nI (bs (fun kd => arS a p kd (tn (a (12 + p))) v) (k + 1)))), (0, .ref (q 0)), (1, .int (nI p))]) [0, 1, 2, 3] rfl ?_
            exact ih_19 (k + 1) (by omega) (by omega)
          · refine g_iconst (v := (nI 1)) hC dX12_is_44 (by decide) ?_
            refine g_iload_n hC dX12_is_45 rfl 0 rfl ?_
            refine g_ishl hC dX12_is_46 ?_
            refine g_goto (tgt := 51) hC dX12_is_47 (by decide) ?_
            refine g_ior hC dX12_is_51 ?_
            refine g_val (v' := .int (nI (bs (fun kd => arS a p kd (tn (a (12 + p))) v) (k + 1)))) (by rw [bs_yes (p := fun kd => arS a p kd (tn (a (12 + p))) v) (by omega) h_41]) ?_
            refine g_istore_n hC [(2, .int (nI (bs (fun kd => arS a p kd (tn (a (12 + p))) v) (k + 1)))), (3, .int (nI k)), (0, .ref (q 0)), (1, .int (nI p))] dX12_is_52 rfl (by decide) rfl ?_
            refine g_iincN hC (q := 1) 1 [(3, .int (nI (k + 1))), (2, .int (nI (bs (fun kd => arS a p kd (tn (a (12 + p))) v) (k + 1)))), (0, .ref (q 0)), (1, .int (nI p))] dX12_is_53 rfl rfl (by decide) rfl ?_
            refine g_goto (tgt := 19) hC dX12_is_56 (by decide) ?_
            refine g_lv (lv' := [(3, .int (nI (k + 1))), (2, .int (nI (bs (fun kd => arS a p kd (tn (a (12 + p))) v) (k + 1)))), (0, .ref (q 0)), (1, .int (nI p))]) [0, 1, 2, 3] rfl ?_
            exact ih_19 (k + 1) (by omega) (by omega)
    refine g_lv (lv' := [(3, .int (nI 0)), (2, .int (nI 0)), (0, .ref (q 0)), (1, .int (nI p))]) [0, 1, 2, 3] rfl ?_
    refine g_lve (lv' := [(3, .int (nI 0)), (2, .int (nI (bs (fun kd => arS a p kd (tn (a (12 + p))) v) 0))), (0, .ref (q 0)), (1, .int (nI p))]) (rfl) ?_
    exact L_19 ((6 - 0) + 1) 0 (by omega) (Nat.lt_succ_self _)
  · exact Bool.noConfusion ((inB_ok (by omega) (by omega)).symm.trans h_5)
set_option maxHeartbeats 4000000 in
set_option maxRecDepth 100000 in
theorem f_X12_is_bad (l : Launch) (E : Ew) (q : Nat → Nat) (ab : Int64) (be : Int64) (fe : Int32) (fc : Int32) (mo : Int32) (bl : Int32) (ta : Int32) (tl : Int32) (tkn : Int32) (va : Int32) (a : Nat → Int32) (r : Nat → Int32) (n : Nat) (p : Int32) (hn : a 0 = nI n) (hn7 : n ≤ 7) (hb : inB p n = false) : Fn l E 2 yX12_is cX12_is 4 (some .int) [.ref (q 0), .int p] [(q 0, .inr (12, oM q ab be fe fc mo bl ta tl tkn va)), (q 1, .inl (E.2.1 0, 188, .inl a)), (q 4, .inl (E.2.1 0, 3, .inl r))] (some (.int (-2))) [(q 0, .inr (12, oM q ab be fe fc mo bl ta tl tkn va)), (q 1, .inl (E.2.1 0, 188, .inl a)), (q 4, .inl (E.2.1 0, 3, .inl (upd r 0 (r 0 + nI 1))))] := by
  refine fn_I (by decide) (Nat.le_of_ble_eq_true rfl) rfl ?_
  intro K hC hR
  show G K E 4 [(q 0, .inr (12, oM q ab be fe fc mo bl ta tl tkn va)), (q 1, .inl (E.2.1 0, 188, .inl a)), (q 4, .inl (E.2.1 0, 3, .inl r))] [(0, .ref (q 0)), (1, .int p)] 0 []
  refine g_aload_n hC dX12_is_0 rfl 0 rfl ?_
  refine g_iload_n hC dX12_is_1 rfl 1 rfl ?_
  refine g_callV hC (f_X12_isOne (kl K) E q ab be fe fc mo bl ta tl tkn va a n p (hn) (by omega)) wX12_isOne m4_62 dX12_is_2 [0, 1] [(q 0, .inr (12, oM q ab be fe fc mo bl ta tl tkn va)), (q 1, .inl (E.2.1 0, 188, .inl a)), (q 4, .inl (E.2.1 0, 3, .inl r))] 0 12 rfl rfl (by decide) rfl (Nat.le_of_ble_eq_true rfl) rfl rfl rfl rfl rfl ?_
  refine g_if_neB (tgt := 15) hC dX12_is_5 (by decide) (fun h_5 => ?_) (fun h_5 => ?_)
  · exact absurd h_5 (by rw [hb]; decide)
  · refine g_aload_n hC dX12_is_8 rfl 0 rfl ?_
    refine g_bipush (v := (-2)) hC dX12_is_9 (by decide) ?_
    refine g_callV hC (f_X12_bad (kl K) E q ab be fe fc mo bl ta tl tkn va r (-2)) wX12_bad m4_34 dX12_is_11 [0, 2] [(q 0, .inr (12, oM q ab be fe fc mo bl ta tl tkn va)), (q 1, .inl (E.2.1 0, 188, .inl a)), (q 4, .inl (E.2.1 0, 3, .inl (upd r 0 (r 0 + nI 1))))] 0 12 rfl rfl (by decide) rfl (Nat.le_of_ble_eq_true rfl) rfl rfl rfl rfl rfl ?_
    exact g_val (rfl) (g_ws (rfl) (hR _ _ dX12_is_14))
set_option maxHeartbeats 4000000 in
set_option maxRecDepth 100000 in
theorem f_X12_placesOf (l : Launch) (E : Ew) (q : Nat → Nat) (ab : Int64) (be : Int64) (fe : Int32) (fc : Int32) (mo : Int32) (bl : Int32) (ta : Int32) (tl : Int32) (tkn : Int32) (va : Int32) (a : Nat → Int32) (v : Nat) (p : Nat) (hv : a 3 = nI v) (hv6 : v ≤ 6) (hnt : ∀ k, k < v → isN (a (38 + 5 * k + 1)) 10) (hp : p < 7) (hpk1 : isN (a (19 + p)) 6) : Fn l E 2 yX12_placesOf cX12_placesOf 4 (some .int) [.ref (q 0), .int (nI p)] [(q 0, .inr (12, oM q ab be fe fc mo bl ta tl tkn va)), (q 1, .inl (E.2.1 0, 188, .inl a))] (some (.int (nI (plS a p v)))) [(q 0, .inr (12, oM q ab be fe fc mo bl ta tl tkn va)), (q 1, .inl (E.2.1 0, 188, .inl a))] := by
  refine fn_I (by decide) (Nat.le_of_ble_eq_true rfl) rfl ?_
  intro K hC hR
  show G K E 4 [(q 0, .inr (12, oM q ab be fe fc mo bl ta tl tkn va)), (q 1, .inl (E.2.1 0, 188, .inl a))] [(0, .ref (q 0)), (1, .int (nI p))] 0 []
  refine g_iconst (v := (nI 0)) hC dX12_placesOf_0 (by decide) ?_
  refine g_istore_n hC [(2, .int (nI 0)), (0, .ref (q 0)), (1, .int (nI p))] dX12_placesOf_1 rfl (by decide) rfl ?_
  refine g_iconst (v := (nI 0)) hC dX12_placesOf_2 (by decide) ?_
  refine g_istore_n hC [(3, .int (nI 0)), (2, .int (nI 0)), (0, .ref (q 0)), (1, .int (nI p))] dX12_placesOf_3 rfl (by decide) rfl ?_
  have L_4 : ∀ (fu : Nat) (k : Nat) (hk : k ≤ 10), 10 - k < fu → G K E 4 [(q 0, .inr (12, oM q ab be fe fc mo bl ta tl tkn va)), (q 1, .inl (E.2.1 0, 188, .inl a))] [(3, .int (nI k)), (2, .int (nI (bs (fun pl => arS a p (tn (a (19 + p))) pl v) k))), (0, .ref (q 0)), (1, .int (nI p))] 4 [] := by
    intro fu
    induction fu with
    | zero => intro k hk hm_4; exact absurd hm_4 (Nat.not_lt_zero _)
    | succ fu ih_4 =>
      intro k hk hm_4
      refine g_iload_n hC dX12_placesOf_4 rfl 0 rfl ?_
      refine g_bipush (v := (nI 10)) hC dX12_placesOf_5 (by decide) ?_
      refine g_icmp_geN (tgt := 44) hC dX12_placesOf_7 (by decide) (by omega) (by omega) (fun h_7 => ?_) (fun h_7 => ?_)
      · refine g_iload_n hC dX12_placesOf_44 rfl 1 rfl ?_
        exact g_val (by rw [show k = 10 by omega]; rfl) (g_ws (rfl) (hR _ _ dX12_placesOf_45))
      · refine g_iload_n hC dX12_placesOf_10 rfl 1 rfl ?_
        refine g_aload_n hC dX12_placesOf_11 rfl 2 rfl ?_
        refine g_iload_n hC dX12_placesOf_12 rfl 3 rfl ?_
        refine g_aload_n hC dX12_placesOf_13 rfl 2 rfl ?_
        refine g_get hC 0 12 0 inX12 m3_208 dX12_placesOf_14 rfl rfl (by decide) rfl ?_
        refine g_bipush (v := (nI 19)) hC dX12_placesOf_17 (by decide) ?_
        refine g_iload_n hC dX12_placesOf_19 rfl 3 rfl ?_
        refine g_iaddN hC dX12_placesOf_20 ?_
        refine g_ialdN hC 1 dX12_placesOf_21 rfl (by decide) (by omega) ?_
        refine g_val (v' := .int (nI (tn (a (19 + p))))) (by rw [← hpk1.1]) ?_
        refine g_iload_n hC dX12_placesOf_22 rfl 0 rfl ?_
        refine g_callV hC (f_X12_areSo (kl K) E q ab be fe fc mo bl ta tl tkn va a v p (tn (a (19 + p))) k (hv) (by omega) (hnt) (hpk1.2) (by omega)) wX12_areSo m4_204 dX12_placesOf_23 [0, 1] [(q 0, .inr (12, oM q ab be fe fc mo bl ta tl tkn va)), (q 1, .inl (E.2.1 0, 188, .inl a))] 0 12 rfl rfl (by decide) rfl (Nat.le_of_ble_eq_true rfl) rfl rfl rfl rfl rfl ?_
        refine g_if_eqB (tgt := 35) hC dX12_placesOf_26 (by decide) (fun h_26 => ?_) (fun h_26 => ?_)
        · refine g_iconst (v := (nI 0)) hC dX12_placesOf_35 (by decide) ?_
          refine g_ior hC dX12_placesOf_36 ?_
          refine g_val (v' := .int (nI (bs (fun pl => arS a p (tn (a (19 + p))) pl v) (k + 1)))) (by rw [bs_no (p := fun pl => arS a p (tn (a (19 + p))) pl v) h_26]) ?_
          refine g_istore_n hC [(2, .int (nI (bs (fun pl => arS a p (tn (a (19 + p))) pl v) (k + 1)))), (3, .int (nI k)), (0, .ref (q 0)), (1, .int (nI p))] dX12_placesOf_37 rfl (by decide) rfl ?_
          refine g_iincN hC (q := 1) 1 [(3, .int (nI (k + 1))), (2, .int (nI (bs (fun pl => arS a p (tn (a (19 + p))) pl v) (k + 1)))), (0, .ref (q 0)), (1, .int (nI p))] dX12_placesOf_38 rfl rfl (by decide) rfl ?_
          refine g_goto (tgt := 4) hC dX12_placesOf_41 (by decide) ?_
          refine g_lv (lv' := [(3, .int (nI (k + 1))), (2, .int (nI (bs (fun pl => arS a p (tn (a (19 + p))) pl v) (k + 1)))), (0, .ref (q 0)), (1, .int (nI p))]) [0, 1, 2, 3] rfl ?_
          exact ih_4 (k + 1) (by omega) (by omega)
        · refine g_iconst (v := (nI 1)) hC dX12_placesOf_29 (by decide) ?_
          refine g_iload_n hC dX12_placesOf_30 rfl 0 rfl ?_
          refine g_ishl hC dX12_placesOf_31 ?_
          refine g_goto (tgt := 36) hC dX12_placesOf_32 (by decide) ?_
          refine g_ior hC dX12_placesOf_36 ?_
          refine g_val (v' := .int (nI (bs (fun pl => arS a p (tn (a (19 + p))) pl v) (k + 1)))) (by rw [bs_yes (p := fun pl => arS a p (tn (a (19 + p))) pl v) (by omega) h_26]) ?_
          refine g_istore_n hC [(2, .int (nI (bs (fun pl => arS a p (tn (a (19 + p))) pl v) (k + 1)))), (3, .int (nI k)), (0, .ref (q 0)), (1, .int (nI p))] dX12_placesOf_37 rfl (by decide) rfl ?_
          refine g_iincN hC (q := 1) 1 [(3, .int (nI (k + 1))), (2, .int (nI (bs (fun pl => arS a p (tn (a (19 + p))) pl v) (k + 1)))), (0, .ref (q 0)), (1, .int (nI p))] dX12_placesOf_38 rfl rfl (by decide) rfl ?_
          refine g_goto (tgt := 4) hC dX12_placesOf_41 (by decide) ?_
          refine g_lv (lv' := [(3, .int (nI (k + 1))), (2, .int (nI (bs (fun pl => arS a p (tn (a (19 + p))) pl v) (k + 1)))), (0, .ref (q 0)), (1, .int (nI p))]) [0, 1, 2, 3] rfl ?_
          exact ih_4 (k + 1) (by omega) (by omega)
  refine g_lv (lv' := [(3, .int (nI 0)), (2, .int (nI 0)), (0, .ref (q 0)), (1, .int (nI p))]) [0, 1, 2, 3] rfl ?_
  refine g_lve (lv' := [(3, .int (nI 0)), (2, .int (nI (bs (fun pl => arS a p (tn (a (19 + p))) pl v) 0))), (0, .ref (q 0)), (1, .int (nI p))]) (rfl) ?_
  exact L_4 ((10 - 0) + 1) 0 (by omega) (Nat.lt_succ_self _)
set_option maxHeartbeats 4000000 in
set_option maxRecDepth 100000 in
theorem f_X12_stood_ok (l : Launch) (E : Ew) (q : Nat → Nat) (ab : Int64) (be : Int64) (fe : Int32) (fc : Int32) (mo : Int32) (bl : Int32) (ta : Int32) (tl : Int32) (tkn : Int32) (va : Int32) (a : Nat → Int32) (r : Nat → Int32) (n : Nat) (v : Nat) (p : Nat) (hn : a 0 = nI n) (hn7 : n ≤ 7) (hv : a 3 = nI v) (hv6 : v ≤ 6) (hnt : ∀ k, k < v → isN (a (38 + 5 * k + 1)) 10) (hp : p < n) (hpk1 : isN (a (19 + p)) 6) : Fn l E 3 yX12_stood cX12_stood 2 (some .int) [.ref (q 0), .int (nI p)] [(q 0, .inr (12, oM q ab be fe fc mo bl ta tl tkn va)), (q 1, .inl (E.2.1 0, 188, .inl a)), (q 4, .inl (E.2.1 0, 3, .inl r))] (some (.int (nI (plS a p v)))) [(q 0, .inr (12, oM q ab be fe fc mo bl ta tl tkn va)), (q 1, .inl (E.2.1 0, 188, .inl a)), (q 4, .inl (E.2.1 0, 3, .inl r))] := by
  refine fn_I (by decide) (Nat.le_of_ble_eq_true rfl) rfl ?_
  intro K hC hR
  show G K E 2 [(q 0, .inr (12, oM q ab be fe fc mo bl ta tl tkn va)), (q 1, .inl (E.2.1 0, 188, .inl a)), (q 4, .inl (E.2.1 0, 3, .inl r))] [(0, .ref (q 0)), (1, .int (nI p))] 0 []
  refine g_aload_n hC dX12_stood_0 rfl 0 rfl ?_
  refine g_iload_n hC dX12_stood_1 rfl 1 rfl ?_
  refine g_callV hC (f_X12_isOne (kl K) E q ab be fe fc mo bl ta tl tkn va a n (nI p) (hn) (by omega)) wX12_isOne m4_62 dX12_stood_2 [0, 1] [(q 0, .inr (12, oM q ab be fe fc mo bl ta tl tkn va)), (q 1, .inl (E.2.1 0, 188, .inl a)), (q 4, .inl (E.2.1 0, 3, .inl r))] 0 12 rfl rfl (by decide) rfl (Nat.le_of_ble_eq_true rfl) rfl rfl rfl rfl rfl ?_
  refine g_if_eqB (tgt := 16) hC dX12_stood_5 (by decide) (fun h_5 => ?_) (fun h_5 => ?_)
  · exact Bool.noConfusion ((inB_ok (by omega) (by omega)).symm.trans h_5)
  · refine g_aload_n hC dX12_stood_8 rfl 0 rfl ?_
    refine g_iload_n hC dX12_stood_9 rfl 1 rfl ?_
    refine g_callV hC (f_X12_placesOf (kl K) E q ab be fe fc mo bl ta tl tkn va a v p (hv) (by omega) (hnt) (by omega) (hpk1)) wX12_placesOf m4_212 dX12_stood_10 [0, 1] [(q 0, .inr (12, oM q ab be fe fc mo bl ta tl tkn va)), (q 1, .inl (E.2.1 0, 188, .inl a)), (q 4, .inl (E.2.1 0, 3, .inl r))] 0 12 rfl rfl (by decide) rfl (Nat.le_of_ble_eq_true rfl) rfl rfl rfl rfl rfl ?_
    refine g_goto (tgt := 22) hC dX12_stood_13 (by decide) ?_
    exact g_val (rfl) (g_ws (rfl) (hR _ _ dX12_stood_22))
set_option maxHeartbeats 4000000 in
set_option maxRecDepth 100000 in
theorem f_X12_stood_bad (l : Launch) (E : Ew) (q : Nat → Nat) (ab : Int64) (be : Int64) (fe : Int32) (fc : Int32) (mo : Int32) (bl : Int32) (ta : Int32) (tl : Int32) (tkn : Int32) (va : Int32) (a : Nat → Int32) (r : Nat → Int32) (n : Nat) (p : Int32) (hn : a 0 = nI n) (hn7 : n ≤ 7) (hb : inB p n = false) : Fn l E 2 yX12_stood cX12_stood 2 (some .int) [.ref (q 0), .int p] [(q 0, .inr (12, oM q ab be fe fc mo bl ta tl tkn va)), (q 1, .inl (E.2.1 0, 188, .inl a)), (q 4, .inl (E.2.1 0, 3, .inl r))] (some (.int (-2))) [(q 0, .inr (12, oM q ab be fe fc mo bl ta tl tkn va)), (q 1, .inl (E.2.1 0, 188, .inl a)), (q 4, .inl (E.2.1 0, 3, .inl (upd r 0 (r 0 + nI 1))))] := by
  refine fn_I (by decide) (Nat.le_of_ble_eq_true rfl) rfl ?_
  intro K hC hR
  show G K E 2 [(q 0, .inr (12, oM q ab be fe fc mo bl ta tl tkn va)), (q 1, .inl (E.2.1 0, 188, .inl a)), (q 4, .inl (E.2.1 0, 3, .inl r))] [(0, .ref (q 0)), (1, .int p)] 0 []
  refine g_aload_n hC dX12_stood_0 rfl 0 rfl ?_
  refine g_iload_n hC dX12_stood_1 rfl 1 rfl ?_
  refine g_callV hC (f_X12_isOne (kl K) E q ab be fe fc mo bl ta tl tkn va a n p (hn) (by omega)) wX12_isOne m4_62 dX12_stood_2 [0, 1] [(q 0, .inr (12, oM q ab be fe fc mo bl ta tl tkn va)), (q 1, .inl (E.2.1 0, 188, .inl a)), (q 4, .inl (E.2.1 0, 3, .inl r))] 0 12 rfl rfl (by decide) rfl (Nat.le_of_ble_eq_true rfl) rfl rfl rfl rfl rfl ?_
  refine g_if_eqB (tgt := 16) hC dX12_stood_5 (by decide) (fun h_5 => ?_) (fun h_5 => ?_)
  · refine g_aload_n hC dX12_stood_16 rfl 0 rfl ?_
    refine g_bipush (v := (-2)) hC dX12_stood_17 (by decide) ?_
    refine g_callV hC (f_X12_bad (kl K) E q ab be fe fc mo bl ta tl tkn va r (-2)) wX12_bad m4_34 dX12_stood_19 [0, 2] [(q 0, .inr (12, oM q ab be fe fc mo bl ta tl tkn va)), (q 1, .inl (E.2.1 0, 188, .inl a)), (q 4, .inl (E.2.1 0, 3, .inl (upd r 0 (r 0 + nI 1))))] 0 12 rfl rfl (by decide) rfl (Nat.le_of_ble_eq_true rfl) rfl rfl rfl rfl rfl ?_
    exact g_val (rfl) (g_ws (rfl) (hR _ _ dX12_stood_22))
  · exact absurd h_5 (by rw [hb]; decide)
set_option maxHeartbeats 4000000 in
set_option maxRecDepth 100000 in
theorem f_X12_next_ok (l : Launch) (E : Ew) (q : Nat → Nat) (ab : Int64) (be : Int64) (fe : Int32) (fc : Int32) (mo : Int32) (bl : Int32) (ta : Int32) (tl : Int32) (tkn : Int32) (va : Int32) (a : Nat → Int32) (r : Nat → Int32) (n : Nat) (v : Nat) (p : Nat) (hn : a 0 = nI n) (hn7 : n ≤ 7) (hv : a 3 = nI v) (hv6 : v ≤ 6) (hnt : ∀ k, k < v → isN (a (38 + 5 * k + 1)) 10) (hp : p < n) (hpk1 : isN (a (19 + p)) 6) : Fn l E 3 yX12_next cX12_next 8 (some .int) [.ref (q 0), .int (nI p)] [(q 0, .inr (12, oM q ab be fe fc mo bl ta tl tkn va)), (q 1, .inl (E.2.1 0, 188, .inl a)), (q 4, .inl (E.2.1 0, 3, .inl r))] (some (.int (if plS a p v = 0 then -1 else (nxF a p v 10).1))) [(q 0, .inr (12, oM q ab be fe fc mo bl ta tl tkn va)), (q 1, .inl (E.2.1 0, 188, .inl a)), (q 4, .inl (E.2.1 0, 3, .inl r))] := by
  refine fn_I (by decide) (Nat.le_of_ble_eq_true rfl) rfl ?_
  intro K hC hR
  show G K E 8 [(q 0, .inr (12, oM q ab be fe fc mo bl ta tl tkn va)), (q 1, .inl (E.2.1 0, 188, .inl a)), (q 4, .inl (E.2.1 0, 3, .inl r))] [(0, .ref (q 0)), (1, .int (nI p))] 0 []
  have hps : plS a p v < 2147483648 := bs_lt' _ (m := 31) (by decide)
  have hcs := ct_le (plS a p v).testBit 31
  refine g_aload_n hC dX12_next_0 rfl 0 rfl ?_
  refine g_iload_n hC dX12_next_1 rfl 1 rfl ?_
  refine g_callV hC (f_X12_isOne (kl K) E q ab be fe fc mo bl ta tl tkn va a n (nI p) (hn) (by omega)) wX12_isOne m4_62 dX12_next_2 [0, 1] [(q 0, .inr (12, oM q ab be fe fc mo bl ta tl tkn va)), (q 1, .inl (E.2.1 0, 188, .inl a)), (q 4, .inl (E.2.1 0, 3, .inl r))] 0 12 rfl rfl (by decide) rfl (Nat.le_of_ble_eq_true rfl) rfl rfl rfl rfl rfl ?_
  refine g_if_neB (tgt := 15) hC dX12_next_5 (by decide) (fun h_5 => ?_) (fun h_5 => ?_)
  · refine g_aload_n hC dX12_next_15 rfl 0 rfl ?_
    refine g_iload_n hC dX12_next_16 rfl 1 rfl ?_
    refine g_callV hC (f_X12_placesOf (kl K) E q ab be fe fc mo bl ta tl tkn va a v p (hv) (by omega) (hnt) (by omega) (hpk1)) wX12_placesOf m4_212 dX12_next_17 [0, 1] [(q 0, .inr (12, oM q ab be fe fc mo bl ta tl tkn va)), (q 1, .inl (E.2.1 0, 188, .inl a)), (q 4, .inl (E.2.1 0, 3, .inl r))] 0 12 rfl rfl (by decide) rfl (Nat.le_of_ble_eq_true rfl) rfl rfl rfl rfl rfl ?_
    refine g_istore_n hC [(2, .int (nI (plS a p v))), (0, .ref (q 0)), (1, .int (nI p))] dX12_next_20 rfl (by decide) rfl ?_
    refine g_iconst (v := (-1)) hC dX12_next_21 (by decide) ?_
    refine g_istore_n hC [(3, .int (-1)), (2, .int (nI (plS a p v))), (0, .ref (q 0)), (1, .int (nI p))] dX12_next_22 rfl (by decide) rfl ?_
    refine g_ldc (v := nI 1000000) hC dX12_next_23 m4_220 ?_
    refine g_istore hC [(4, .int (nI 1000000)), (3, .int (-1)), (2, .int (nI (plS a p v))), (0, .ref (q 0)), (1, .int (nI p))] dX12_next_25 (by decide) rfl ?_
    refine g_iconst (v := (nI 0)) hC dX12_next_27 (by decide) ?_
    refine g_istore hC [(5, .int (nI 0)), (4, .int (nI 1000000)), (3, .int (-1)), (2, .int (nI (plS a p v))), (0, .ref (q 0)), (1, .int (nI p))] dX12_next_28 (by decide) rfl ?_
    have L_30 : ∀ (fu : Nat) (k : Nat) (b : Int32) (l0 : Nat) (hk : k ≤ 10) (hbl : (b, l0) = nxF a p v k) (hl0 : l0 < 2147483648) (hz : plS a p v = 0 → k = 0), 10 - k < fu → G K E 8 [(q 0, .inr (12, oM q ab be fe fc mo bl ta tl tkn va)), (q 1, .inl (E.2.1 0, 188, .inl a)), (q 4, .inl (E.2.1 0, 3, .inl r))] [(5, .int (nI k)), (4, .int (nI l0)), (3, .int b), (2, .int (nI (plS a p v))), (0, .ref (q 0)), (1, .int (nI p))] 30 [] := by
      intro fu
      induction fu with
      | zero => intro k b l0 hk hbl hl0 hz hm_30; exact absurd hm_30 (Nat.not_lt_zero _)
      | succ fu ih_30 =>
        intro k b l0 hk hbl hl0 hz hm_30
        refine g_iload hC dX12_next_30 0 rfl ?_
        refine g_bipush (v := (nI 10)) hC dX12_next_32 (by decide) ?_
        refine g_icmp_geN (tgt := 170) hC dX12_next_34 (by decide) (by omega) (by omega) (fun h_34 => ?_) (fun h_34 => ?_)
        · refine g_iload_n hC dX12_next_170 rfl 2 rfl ?_
          exact g_val (by rw [show k = 10 by omega] at hbl; rw [if_neg (by omega), ← hbl]) (g_ws (rfl) (hR _ _ dX12_next_171))
        · refine g_iload_n hC dX12_next_37 rfl 3 rfl ?_
          refine g_if_leN (tgt := 170) hC dX12_next_38 (by decide) (by omega) (fun h_38 => ?_) (fun h_38 => ?_)
          · refine g_iload_n hC dX12_next_170 rfl 2 rfl ?_
            exact g_val (by rw [if_pos (by omega)]; rw [show k = 0 by omega] at hbl; have := congrArg Prod.fst hbl; simp [nxF] at this; rw [this]) (g_ws (rfl) (hR _ _ dX12_next_171))
          · have hcy := ct_le (nxY a p v k)
            refine g_iconst (v := (nI 0)) hC dX12_next_41 (by decide) ?_
            refine g_istore hC [(6, .int (nI 0)), (5, .int (nI k)), (4, .int (nI l0)), (3, .int b), (2, .int (nI (plS a p v))), (0, .ref (q 0)), (1, .int (nI p))] dX12_next_42 (by decide) rfl ?_
            refine g_iconst (v := (nI 0)) hC dX12_next_44 (by decide) ?_
            refine g_istore hC [(7, .int (nI 0)), (6, .int (nI 0)), (5, .int (nI k)), (4, .int (nI l0)), (3, .int b), (2, .int (nI (plS a p v))), (0, .ref (q 0)), (1, .int (nI p))] dX12_next_45 (by decide) rfl ?_
            have L_47 : ∀ (fu : Nat) (j : Nat) (hj : j ≤ 10), 10 - j < fu → G K E 8 [(q 0, .inr (12, oM q ab be fe fc mo bl ta tl tkn va)), (q 1, .inl (E.2.1 0, 188, .inl a)), (q 4, .inl (E.2.1 0, 3, .inl r))] [(7, .int (nI j)), (6, .int (nI (ct (nxY a p v k) j))), (5, .int (nI k)), (4, .int (nI l0)), (3, .int b), (2, .int (nI (plS a p v))), (0, .ref (q 0)), (1, .int (nI p))] 47 [] := by
              intro fu
              induction fu with
              | zero => intro j hj hm_47; exact absurd hm_47 (Nat.not_lt_zero _)
              | succ fu ih_47 =>
                intro j hj hm_47
                refine g_iload hC dX12_next_47 0 rfl ?_
                refine g_bipush (v := (nI 10)) hC dX12_next_49 (by decide) ?_
                refine g_icmp_geN (tgt := 109) hC dX12_next_51 (by decide) (by omega) (by omega) (fun h_51 => ?_) (fun h_51 => ?_)
                · have hj10 : j = 10 := by omega
                  have hle : ct (nxY a p v k) j ≤ ct (plS a p v).testBit 31 := by rw [hj10]; exact nx_le
                  refine g_iconst (v := (nI 2)) hC dX12_next_109 (by decide) ?_
                  refine g_iload hC dX12_next_110 1 rfl ?_
                  refine g_imulN hC dX12_next_112 ?_
                  refine g_iload_n hC dX12_next_113 rfl 5 rfl ?_
                  refine g_callS hC (f_X12_bits (kl K) E (plS a p v) (hps)) wX12_bits m4_132 dX12_next_114 [] [(q 0, .inr (12, oM q ab be fe fc mo bl ta tl tkn va)), (q 1, .inl (E.2.1 0, 188, .inl a)), (q 4, .inl (E.2.1 0, 3, .inl r))] (by decide) rfl (Nat.le_of_ble_eq_true rfl) rfl rfl rfl rfl rfl ?_
                  refine g_icmp_leN (tgt := 125) hC dX12_next_117 (by decide) (by omega) (by omega) (fun h_117 => ?_) (fun h_117 => ?_)
                  · refine g_iload_n hC dX12_next_125 rfl 5 rfl ?_
                    refine g_callS hC (f_X12_bits (kl K) E (plS a p v) (hps)) wX12_bits m4_132 dX12_next_126 [] [(q 0, .inr (12, oM q ab be fe fc mo bl ta tl tkn va)), (q 1, .inl (E.2.1 0, 188, .inl a)), (q 4, .inl (E.2.1 0, 3, .inl r))] (by decide) rfl (Nat.le_of_ble_eq_true rfl) rfl rfl rfl rfl rfl ?_
                    refine g_iload hC dX12_next_129 1 rfl ?_
                    refine g_isubN hC dX12_next_131 (by omega) ?_
                    refine g_istore hC [(7, .int (nI (ct (plS a p v).testBit 31 - ct (nxY a p v k) j))), (6, .int (nI (ct (nxY a p v k) j))), (5, .int (nI k)), (4, .int (nI l0)), (3, .int b), (2, .int (nI (plS a p v))), (0, .ref (q 0)), (1, .int (nI p))] dX12_next_132 (by decide) rfl ?_
                    refine g_iload hC dX12_next_134 0 rfl ?_
                    refine g_iload hC dX12_next_136 3 rfl ?_
                    refine g_icmp_geN (tgt := 146) hC dX12_next_138 (by decide) (by omega) (by omega) (fun h_138 => ?_) (fun h_138 => ?_)
                    · refine g_iload_n hC dX12_next_146 rfl 4 rfl ?_
                      refine g_istore_n hC [(3, .int b), (7, .int (nI (ct (plS a p v).testBit 31 - ct (nxY a p v k) j))), (6, .int (nI (ct (nxY a p v k) j))), (5, .int (nI k)), (4, .int (nI l0)), (2, .int (nI (plS a p v))), (0, .ref (q 0)), (1, .int (nI p))] dX12_next_147 rfl (by decide) rfl ?_
                      refine g_iload hC dX12_next_148 1 rfl ?_
                      refine g_iload hC dX12_next_150 4 rfl ?_
                      refine g_icmp_geN (tgt := 160) hC dX12_next_152 (by decide) (by omega) (by omega) (fun h_152 => ?_) (fun h_152 => ?_)
                      · refine g_iload hC dX12_next_160 4 rfl ?_
                        refine g_istore hC [(4, .int (nI l0)), (3, .int b), (7, .int (nI (ct (plS a p v).testBit 31 - ct (nxY a p v k) j))), (6, .int (nI (ct (nxY a p v k) j))), (5, .int (nI k)), (2, .int (nI (plS a p v))), (0, .ref (q 0)), (1, .int (nI p))] dX12_next_162 (by decide) rfl ?_
                        refine g_iincN hC (q := 4) 1 [(5, .int (nI (k + 1))), (4, .int (nI l0)), (3, .int b), (7, .int (nI (ct (plS a p v).testBit 31 - ct (nxY a p v k) j))), (6, .int (nI (ct (nxY a p v k) j))), (2, .int (nI (plS a p v))), (0, .ref (q 0)), (1, .int (nI p))] dX12_next_164 rfl rfl (by decide) rfl ?_
                        refine g_goto (tgt := 30) hC dX12_next_167 (by decide) ?_
                        refine g_lv (lv' := [(5, .int (nI (k + 1))), (4, .int (nI l0)), (3, .int b), (2, .int (nI (plS a p v))), (0, .ref (q 0)), (1, .int (nI p))]) [0, 1, 2, 5, 6, 7] rfl ?_
                        exact ih_30 (k + 1) b l0 (by omega) (by subst hj10; have e : nxG a p v k = ct (plS a p v).testBit 31 - ct (nxY a p v k) 10 := (by unfold nxG; rw [if_neg (by omega)]); rw [nxF, ← hbl, e]; exact (if_neg (by show ¬ ct (plS a p v).testBit 31 - ct (nxY a p v k) 10 < l0; omega)).symm) (by omega) (by omega) (by omega)
                      · refine g_iload hC dX12_next_155 1 rfl ?_
                        refine g_goto (tgt := 162) hC dX12_next_157 (by decide) ?_
                        refine g_istore hC [(4, .int (nI (ct (plS a p v).testBit 31 - ct (nxY a p v k) j))), (3, .int b), (7, .int (nI (ct (plS a p v).testBit 31 - ct (nxY a p v k) j))), (6, .int (nI (ct (nxY a p v k) j))), (5, .int (nI k)), (2, .int (nI (plS a p v))), (0, .ref (q 0)), (1, .int (nI p))] dX12_next_162 (by decide) rfl ?_
                        refine g_iincN hC (q := 4) 1 [(5, .int (nI (k + 1))), (4, .int (nI (ct (plS a p v).testBit 31 - ct (nxY a p v k) j))), (3, .int b), (7, .int (nI (ct (plS a p v).testBit 31 - ct (nxY a p v k) j))), (6, .int (nI (ct (nxY a p v k) j))), (2, .int (nI (plS a p v))), (0, .ref (q 0)), (1, .int (nI p))] dX12_next_164 rfl rfl (by decide) rfl ?_
                        refine g_goto (tgt := 30) hC dX12_next_167 (by decide) ?_
                        refine g_lv (lv' := [(5, .int (nI (k + 1))), (4, .int (nI (ct (plS a p v).testBit 31 - ct (nxY a p v k) j))), (3, .int b), (2, .int (nI (plS a p v))), (0, .ref (q 0)), (1, .int (nI p))]) [0, 1, 2, 5, 6, 7] rfl ?_
                        exact ih_30 (k + 1) b (ct (plS a p v).testBit 31 - ct (nxY a p v k) j) (by omega) (by exfalso; omega) (by omega) (by omega) (by omega)
                    · refine g_iload hC dX12_next_141 2 rfl ?_
                      refine g_goto (tgt := 147) hC dX12_next_143 (by decide) ?_
                      refine g_istore_n hC [(3, .int (nI k)), (7, .int (nI (ct (plS a p v).testBit 31 - ct (nxY a p v k) j))), (6, .int (nI (ct (nxY a p v k) j))), (5, .int (nI k)), (4, .int (nI l0)), (2, .int (nI (plS a p v))), (0, .ref (q 0)), (1, .int (nI p))] dX12_next_147 rfl (by decide) rfl ?_
                      refine g_iload hC dX12_next_148 1 rfl ?_
                      refine g_iload hC dX12_next_150 4 rfl ?_
                      refine g_icmp_geN (tgt := 160) hC dX12_next_152 (by decide) (by omega) (by omega) (fun h_152 => ?_) (fun h_152 => ?_)
                      · refine g_iload hC dX12_next_160 4 rfl ?_
                        refine g_istore hC [(4, .int (nI l0)), (3, .int (nI k)), (7, .int (nI (ct (plS a p v).testBit 31 - ct (nxY a p v k) j))), (6, .int (nI (ct (nxY a p v k) j))), (5, .int (nI k)), (2, .int (nI (plS a p v))), (0, .ref (q 0)), (1, .int (nI p))] dX12_next_162 (by decide) rfl ?_
                        refine g_iincN hC (q := 4) 1 [(5, .int (nI (k + 1))), (4, .int (nI l0)), (3, .int (nI k)), (7, .int (nI (ct (plS a p v).testBit 31 - ct (nxY a p v k) j))), (6, .int (nI (ct (nxY a p v k) j))), (2, .int (nI (plS a p v))), (0, .ref (q 0)), (1, .int (nI p))] dX12_next_164 rfl rfl (by decide) rfl ?_
                        refine g_goto (tgt := 30) hC dX12_next_167 (by decide) ?_
                        refine g_lv (lv' := [(5, .int (nI (k + 1))), (4, .int (nI l0)), (3, .int (nI k)), (2, .int (nI (plS a p v))), (0, .ref (q 0)), (1, .int (nI p))]) [0, 1, 2, 5, 6, 7] rfl ?_
                        exact ih_30 (k + 1) (nI k) l0 (by omega) (by exfalso; omega) (by omega) (by omega) (by omega)
                      · refine g_iload hC dX12_next_155 1 rfl ?_
                        refine g_goto (tgt := 162) hC dX12_next_157 (by decide) ?_
                        refine g_istore hC [(4, .int (nI (ct (plS a p v).testBit 31 - ct (nxY a p v k) j))), (3, .int (nI k)), (7, .int (nI (ct (plS a p v).testBit 31 - ct (nxY a p v k) j))), (6, .int (nI (ct (nxY a p v k) j))), (5, .int (nI k)), (2, .int (nI (plS a p v))), (0, .ref (q 0)), (1, .int (nI p))] dX12_next_162 (by decide) rfl ?_
                        refine g_iincN hC (q := 4) 1 [(5, .int (nI (k + 1))), (4, .int (nI (ct (plS a p v).testBit 31 - ct (nxY a p v k) j))), (3, .int (nI k)), (7, .int (nI (ct (plS a p v).testBit 31 - ct (nxY a p v k) j))), (6, .int (nI (ct (nxY a p v k) j))), (2, .int (nI (plS a p v))), (0, .ref (q 0)), (1, .int (nI p))] dX12_next_164 rfl rfl (by decide) rfl ?_
                        refine g_goto (tgt := 30) hC dX12_next_167 (by decide) ?_
                        refine g_lv (lv' := [(5, .int (nI (k + 1))), (4, .int (nI (ct (plS a p v).testBit 31 - ct (nxY a p v k) j))), (3, .int (nI k)), (2, .int (nI (plS a p v))), (0, .ref (q 0)), (1, .int (nI p))]) [0, 1, 2, 5, 6, 7] rfl ?_
                        exact ih_30 (k + 1) (nI k) (ct (plS a p v).testBit 31 - ct (nxY a p v k) j) (by omega) (by subst hj10; have e : nxG a p v k = ct (plS a p v).testBit 31 - ct (nxY a p v k) 10 := (by unfold nxG; rw [if_neg (by omega)]); rw [nxF, ← hbl, e]; exact (if_pos (by show  ct (plS a p v).testBit 31 - ct (nxY a p v k) 10 < l0; omega)).symm) (by omega) (by omega) (by omega)
                  · refine g_iload hC dX12_next_120 1 rfl ?_
                    refine g_goto (tgt := 132) hC dX12_next_122 (by decide) ?_
                    refine g_istore hC [(7, .int (nI (ct (nxY a p v k) j))), (6, .int (nI (ct (nxY a p v k) j))), (5, .int (nI k)), (4, .int (nI l0)), (3, .int b), (2, .int (nI (plS a p v))), (0, .ref (q 0)), (1, .int (nI p))] dX12_next_132 (by decide) rfl ?_
                    refine g_iload hC dX12_next_134 0 rfl ?_
                    refine g_iload hC dX12_next_136 3 rfl ?_
                    refine g_icmp_geN (tgt := 146) hC dX12_next_138 (by decide) (by omega) (by omega) (fun h_138 => ?_) (fun h_138 => ?_)
                    · refine g_iload_n hC dX12_next_146 rfl 4 rfl ?_
                      refine g_istore_n hC [(3, .int b), (7, .int (nI (ct (nxY a p v k) j))), (6, .int (nI (ct (nxY a p v k) j))), (5, .int (nI k)), (4, .int (nI l0)), (2, .int (nI (plS a p v))), (0, .ref (q 0)), (1, .int (nI p))] dX12_next_147 rfl (by decide) rfl ?_
                      refine g_iload hC dX12_next_148 1 rfl ?_
                      refine g_iload hC dX12_next_150 4 rfl ?_
                      refine g_icmp_geN (tgt := 160) hC dX12_next_152 (by decide) (by omega) (by omega) (fun h_152 => ?_) (fun h_152 => ?_)
                      · refine g_iload hC dX12_next_160 4 rfl ?_
                        refine g_istore hC [(4, .int (nI l0)), (3, .int b), (7, .int (nI (ct (nxY a p v k) j))), (6, .int (nI (ct (nxY a p v k) j))), (5, .int (nI k)), (2, .int (nI (plS a p v))), (0, .ref (q 0)), (1, .int (nI p))] dX12_next_162 (by decide) rfl ?_
                        refine g_iincN hC (q := 4) 1 [(5, .int (nI (k + 1))), (4, .int (nI l0)), (3, .int b), (7, .int (nI (ct (nxY a p v k) j))), (6, .int (nI (ct (nxY a p v k) j))), (2, .int (nI (plS a p v))), (0, .ref (q 0)), (1, .int (nI p))] dX12_next_164 rfl rfl (by decide) rfl ?_
                        refine g_goto (tgt := 30) hC dX12_next_167 (by decide) ?_
                        refine g_lv (lv' := [(5, .int (nI (k + 1))), (4, .int (nI l0)), (3, .int b), (2, .int (nI (plS a p v))), (0, .ref (q 0)), (1, .int (nI p))]) [0, 1, 2, 5, 6, 7] rfl ?_
                        exact ih_30 (k + 1) b l0 (by omega) (by subst hj10; have e : nxG a p v k = ct (nxY a p v k) 10 := (by unfold nxG; rw [if_pos (by omega)]); rw [nxF, ← hbl, e]; exact (if_neg (by show ¬ ct (nxY a p v k) 10 < l0; omega)).symm) (by omega) (by omega) (by omega)
                      · refine g_iload hC dX12_next_155 1 rfl ?_
                        refine g_goto (tgt := 162) hC dX12_next_157 (by decide) ?_
                        refine g_istore hC [(4, .int (nI (ct (nxY a p v k) j))), (3, .int b), (7, .int (nI (ct (nxY a p v k) j))), (6, .int (nI (ct (nxY a p v k) j))), (5, .int (nI k)), (2, .int (nI (plS a p v))), (0, .ref (q 0)), (1, .int (nI p))] dX12_next_162 (by decide) rfl ?_
                        refine g_iincN hC (q := 4) 1 [(5, .int (nI (k + 1))), (4, .int (nI (ct (nxY a p v k) j))), (3, .int b), (7, .int (nI (ct (nxY a p v k) j))), (6, .int (nI (ct (nxY a p v k) j))), (2, .int (nI (plS a p v))), (0, .ref (q 0)), (1, .int (nI p))] dX12_next_164 rfl rfl (by decide) rfl ?_
                        refine g_goto (tgt := 30) hC dX12_next_167 (by decide) ?_
                        refine g_lv (lv' := [(5, .int (nI (k + 1))), (4, .int (nI (ct (nxY a p v k) j))), (3, .int b), (2, .int (nI (plS a p v))), (0, .ref (q 0)), (1, .int (nI p))]) [0, 1, 2, 5, 6, 7] rfl ?_
                        exact ih_30 (k + 1) b (ct (nxY a p v k) j) (by omega) (by exfalso; omega) (by omega) (by omega) (by omega)
                    · refine g_iload hC dX12_next_141 2 rfl ?_
                      refine g_goto (tgt := 147) hC dX12_next_143 (by decide) ?_
                      refine g_istore_n hC [(3, .int (nI k)), (7, .int (nI (ct (nxY a p v k) j))), (6, .int (nI (ct (nxY a p v k) j))), (5, .int (nI k)), (4, .int (nI l0)), (2, .int (nI (plS a p v))), (0, .ref (q 0)), (1, .int (nI p))] dX12_next_147 rfl (by decide) rfl ?_
                      refine g_iload hC dX12_next_148 1 rfl ?_
                      refine g_iload hC dX12_next_150 4 rfl ?_
                      refine g_icmp_geN (tgt := 160) hC dX12_next_152 (by decide) (by omega) (by omega) (fun h_152 => ?_) (fun h_152 => ?_)
                      · refine g_iload hC dX12_next_160 4 rfl ?_
                        refine g_istore hC [(4, .int (nI l0)), (3, .int (nI k)), (7, .int (nI (ct (nxY a p v k) j))), (6, .int (nI (ct (nxY a p v k) j))), (5, .int (nI k)), (2, .int (nI (plS a p v))), (0, .ref (q 0)), (1, .int (nI p))] dX12_next_162 (by decide) rfl ?_
                        refine g_iincN hC (q := 4) 1 [(5, .int (nI (k + 1))), (4, .int (nI l0)), (3, .int (nI k)), (7, .int (nI (ct (nxY a p v k) j))), (6, .int (nI (ct (nxY a p v k) j))), (2, .int (nI (plS a p v))), (0, .ref (q 0)), (1, .int (nI p))] dX12_next_164 rfl rfl (by decide) rfl ?_
                        refine g_goto (tgt := 30) hC dX12_next_167 (by decide) ?_
                        refine g_lv (lv' := [(5, .int (nI (k + 1))), (4, .int (nI l0)), (3, .int (nI k)), (2, .int (nI (plS a p v))), (0, .ref (q 0)), (1, .int (nI p))]) [0, 1, 2, 5, 6, 7] rfl ?_
                        exact ih_30 (k + 1) (nI k) l0 (by omega) (by exfalso; omega) (by omega) (by omega) (by omega)
                      · refine g_iload hC dX12_next_155 1 rfl ?_
                        refine g_goto (tgt := 162) hC dX12_next_157 (by decide) ?_
                        refine g_istore hC [(4, .int (nI (ct (nxY a p v k) j))), (3, .int (nI k)), (7, .int (nI (ct (nxY a p v k) j))), (6, .int (nI (ct (nxY a p v k) j))), (5, .int (nI k)), (2, .int (nI (plS a p v))), (0, .ref (q 0)), (1, .int (nI p))] dX12_next_162 (by decide) rfl ?_
                        refine g_iincN hC (q := 4) 1 [(5, .int (nI (k + 1))), (4, .int (nI (ct (nxY a p v k) j))), (3, .int (nI k)), (7, .int (nI (ct (nxY a p v k) j))), (6, .int (nI (ct (nxY a p v k) j))), (2, .int (nI (plS a p v))), (0, .ref (q 0)), (1, .int (nI p))] dX12_next_164 rfl rfl (by decide) rfl ?_
                        refine g_goto (tgt := 30) hC dX12_next_167 (by decide) ?_
                        refine g_lv (lv' := [(5, .int (nI (k + 1))), (4, .int (nI (ct (nxY a p v k) j))), (3, .int (nI k)), (2, .int (nI (plS a p v))), (0, .ref (q 0)), (1, .int (nI p))]) [0, 1, 2, 5, 6, 7] rfl ?_
                        exact ih_30 (k + 1) (nI k) (ct (nxY a p v k) j) (by omega) (by subst hj10; have e : nxG a p v k = ct (nxY a p v k) 10 := (by unfold nxG; rw [if_pos (by omega)]); rw [nxF, ← hbl, e]; exact (if_pos (by show  ct (nxY a p v k) 10 < l0; omega)).symm) (by omega) (by omega) (by omega)
                · have hcj := hcy j
                  refine g_iload hC dX12_next_54 1 rfl ?_
                  refine g_iload_n hC dX12_next_56 rfl 5 rfl ?_
                  refine g_iload hC dX12_next_57 0 rfl ?_
                  refine g_callS hC (f_X12_has (kl K) E (plS a p v) j (hps) (by omega)) wX12_has m4_89 dX12_next_59 [] [(q 0, .inr (12, oM q ab be fe fc mo bl ta tl tkn va)), (q 1, .inl (E.2.1 0, 188, .inl a)), (q 4, .inl (E.2.1 0, 3, .inl r))] (by decide) rfl (Nat.le_of_ble_eq_true rfl) rfl rfl rfl rfl rfl ?_
                  refine g_if_eqB (tgt := 99) hC dX12_next_62 (by decide) (fun h_62 => ?_) (fun h_62 => ?_)
                  · refine g_iconst (v := (nI 0)) hC dX12_next_99 (by decide) ?_
                    refine g_iaddN hC dX12_next_100 ?_
                    refine g_istore hC [(6, .int (nI (ct (nxY a p v k) j + 0))), (7, .int (nI j)), (5, .int (nI k)), (4, .int (nI l0)), (3, .int b), (2, .int (nI (plS a p v))), (0, .ref (q 0)), (1, .int (nI p))] dX12_next_101 (by decide) rfl ?_
                    refine g_iincN hC (q := 1) 1 [(7, .int (nI (j + 1))), (6, .int (nI (ct (nxY a p v k) j + 0))), (5, .int (nI k)), (4, .int (nI l0)), (3, .int b), (2, .int (nI (plS a p v))), (0, .ref (q 0)), (1, .int (nI p))] dX12_next_103 rfl rfl (by decide) rfl ?_
                    refine g_goto (tgt := 47) hC dX12_next_106 (by decide) ?_
                    refine g_lv (lv' := [(7, .int (nI (j + 1))), (6, .int (nI (ct (nxY a p v k) j + 0))), (5, .int (nI k)), (4, .int (nI l0)), (3, .int b), (2, .int (nI (plS a p v))), (0, .ref (q 0)), (1, .int (nI p))]) [0, 1, 2, 3, 4, 5, 6, 7] rfl ?_
                    refine g_lve (lv' := [(7, .int (nI (j + 1))), (6, .int (nI (ct (nxY a p v k) (j + 1)))), (5, .int (nI k)), (4, .int (nI l0)), (3, .int b), (2, .int (nI (plS a p v))), (0, .ref (q 0)), (1, .int (nI p))]) (by simp [ct, nxY, h_5, h_34, h_38, h_51, h_62]) ?_
                    exact ih_47 (j + 1) (by omega) (by omega)
                  · refine g_aload_n hC dX12_next_65 rfl 6 rfl ?_
                    refine g_get hC 0 12 0 inX12 m3_208 dX12_next_66 rfl rfl (by decide) rfl ?_
                    refine g_bipush (v := (nI 19)) hC dX12_next_69 (by decide) ?_
                    refine g_iload_n hC dX12_next_71 rfl 7 rfl ?_
                    refine g_iaddN hC dX12_next_72 ?_
                    refine g_ialdN hC 1 dX12_next_73 rfl (by decide) (by omega) ?_
                    refine g_val (v' := .int (nI (tn (a (19 + p))))) (by rw [← hpk1.1]) ?_
                    refine g_iload hC dX12_next_74 0 rfl ?_
                    refine g_iload hC dX12_next_76 2 rfl ?_
                    refine g_callS hC (f_X12_farOf (kl K) E j k (by omega) (by omega)) wX12_farOf m4_86 dX12_next_78 [] [(q 0, .inr (12, oM q ab be fe fc mo bl ta tl tkn va)), (q 1, .inl (E.2.1 0, 188, .inl a)), (q 4, .inl (E.2.1 0, 3, .inl r))] (by decide) rfl (Nat.le_of_ble_eq_true rfl) rfl rfl rfl rfl rfl ?_
                    refine g_iconst (v := (nI 0)) hC dX12_next_81 (by decide) ?_
                    refine g_iconst (v := (nI 0)) hC dX12_next_82 (by decide) ?_
                    refine g_aload_n hC dX12_next_83 rfl 6 rfl ?_
                    refine g_get hC 0 12 0 inX12 m3_208 dX12_next_84 rfl rfl (by decide) rfl ?_
                    refine g_iconst (v := (nI 1)) hC dX12_next_87 (by decide) ?_
                    refine g_ialdN hC 1 dX12_next_88 rfl (by decide) (by omega) ?_
                    refine g_callS hC (f_X12_turnsAs (kl K) E (tn (a (19 + p))) (fr j k) false false (a 1) (hpk1.2) (fr_lt (by omega) (by omega))) wX12_turnsAs m4_92 dX12_next_89 [] [(q 0, .inr (12, oM q ab be fe fc mo bl ta tl tkn va)), (q 1, .inl (E.2.1 0, 188, .inl a)), (q 4, .inl (E.2.1 0, 3, .inl r))] (by decide) rfl (Nat.le_of_ble_eq_true rfl) rfl rfl rfl rfl rfl ?_
                    refine g_if_eqB (tgt := 99) hC dX12_next_92 (by decide) (fun h_92 => ?_) (fun h_92 => ?_)
                    · refine g_iconst (v := (nI 0)) hC dX12_next_99 (by decide) ?_
                      refine g_iaddN hC dX12_next_100 ?_
                      refine g_istore hC [(6, .int (nI (ct (nxY a p v k) j + 0))), (7, .int (nI j)), (5, .int (nI k)), (4, .int (nI l0)), (3, .int b), (2, .int (nI (plS a p v))), (0, .ref (q 0)), (1, .int (nI p))] dX12_next_101 (by decide) rfl ?_
                      refine g_iincN hC (q := 1) 1 [(7, .int (nI (j + 1))), (6, .int (nI (ct (nxY a p v k) j + 0))), (5, .int (nI k)), (4, .int (nI l0)), (3, .int b), (2, .int (nI (plS a p v))), (0, .ref (q 0)), (1, .int (nI p))] dX12_next_103 rfl rfl (by decide) rfl ?_
                      refine g_goto (tgt := 47) hC dX12_next_106 (by decide) ?_
                      refine g_lv (lv' := [(7, .int (nI (j + 1))), (6, .int (nI (ct (nxY a p v k) j + 0))), (5, .int (nI k)), (4, .int (nI l0)), (3, .int b), (2, .int (nI (plS a p v))), (0, .ref (q 0)), (1, .int (nI p))]) [0, 1, 2, 3, 4, 5, 6, 7] rfl ?_
                      refine g_lve (lv' := [(7, .int (nI (j + 1))), (6, .int (nI (ct (nxY a p v k) (j + 1)))), (5, .int (nI k)), (4, .int (nI l0)), (3, .int b), (2, .int (nI (plS a p v))), (0, .ref (q 0)), (1, .int (nI p))]) (by simp [ct, nxY, h_5, h_34, h_38, h_51, h_62, h_92]) ?_
                      exact ih_47 (j + 1) (by omega) (by omega)
                    · refine g_iconst (v := (nI 1)) hC dX12_next_95 (by decide) ?_
                      refine g_goto (tgt := 100) hC dX12_next_96 (by decide) ?_
                      refine g_iaddN hC dX12_next_100 ?_
                      refine g_istore hC [(6, .int (nI (ct (nxY a p v k) j + 1))), (7, .int (nI j)), (5, .int (nI k)), (4, .int (nI l0)), (3, .int b), (2, .int (nI (plS a p v))), (0, .ref (q 0)), (1, .int (nI p))] dX12_next_101 (by decide) rfl ?_
                      refine g_iincN hC (q := 1) 1 [(7, .int (nI (j + 1))), (6, .int (nI (ct (nxY a p v k) j + 1))), (5, .int (nI k)), (4, .int (nI l0)), (3, .int b), (2, .int (nI (plS a p v))), (0, .ref (q 0)), (1, .int (nI p))] dX12_next_103 rfl rfl (by decide) rfl ?_
                      refine g_goto (tgt := 47) hC dX12_next_106 (by decide) ?_
                      refine g_lv (lv' := [(7, .int (nI (j + 1))), (6, .int (nI (ct (nxY a p v k) j + 1))), (5, .int (nI k)), (4, .int (nI l0)), (3, .int b), (2, .int (nI (plS a p v))), (0, .ref (q 0)), (1, .int (nI p))]) [0, 1, 2, 3, 4, 5, 6, 7] rfl ?_
                      refine g_lve (lv' := [(7, .int (nI (j + 1))), (6, .int (nI (ct (nxY a p v k) (j + 1)))), (5, .int (nI k)), (4, .int (nI l0)), (3, .int b), (2, .int (nI (plS a p v))), (0, .ref (q 0)), (1, .int (nI p))]) (by simp [ct, nxY, h_5, h_34, h_38, h_51, h_62, h_92]) ?_
                      exact ih_47 (j + 1) (by omega) (by omega)
            refine g_lv (lv' := [(7, .int (nI 0)), (6, .int (nI 0)), (5, .int (nI k)), (4, .int (nI l0)), (3, .int b), (2, .int (nI (plS a p v))), (0, .ref (q 0)), (1, .int (nI p))]) [0, 1, 2, 3, 4, 5, 6, 7] rfl ?_
            refine g_lve (lv' := [(7, .int (nI 0)), (6, .int (nI (ct (nxY a p v k) 0))), (5, .int (nI k)), (4, .int (nI l0)), (3, .int b), (2, .int (nI (plS a p v))), (0, .ref (q 0)), (1, .int (nI p))]) (rfl) ?_
            exact L_47 ((10 - 0) + 1) 0 (by omega) (Nat.lt_succ_self _)
    refine g_lv (lv' := [(5, .int (nI 0)), (4, .int (nI 1000000)), (3, .int (-1)), (2, .int (nI (plS a p v))), (0, .ref (q 0)), (1, .int (nI p))]) [0, 1, 2, 3, 4, 5] rfl ?_
    exact L_30 ((10 - 0) + 1) 0 (-1) 1000000 (by omega) (rfl) (by decide) (by omega) (Nat.lt_succ_self _)
  · exact Bool.noConfusion ((inB_ok (by omega) (by omega)).symm.trans h_5)
set_option maxHeartbeats 4000000 in
set_option maxRecDepth 100000 in
theorem f_X12_next_bad (l : Launch) (E : Ew) (q : Nat → Nat) (ab : Int64) (be : Int64) (fe : Int32) (fc : Int32) (mo : Int32) (bl : Int32) (ta : Int32) (tl : Int32) (tkn : Int32) (va : Int32) (a : Nat → Int32) (r : Nat → Int32) (n : Nat) (p : Int32) (hn : a 0 = nI n) (hn7 : n ≤ 7) (hb : inB p n = false) : Fn l E 2 yX12_next cX12_next 8 (some .int) [.ref (q 0), .int p] [(q 0, .inr (12, oM q ab be fe fc mo bl ta tl tkn va)), (q 1, .inl (E.2.1 0, 188, .inl a)), (q 4, .inl (E.2.1 0, 3, .inl r))] (some (.int (-2))) [(q 0, .inr (12, oM q ab be fe fc mo bl ta tl tkn va)), (q 1, .inl (E.2.1 0, 188, .inl a)), (q 4, .inl (E.2.1 0, 3, .inl (upd r 0 (r 0 + nI 1))))] := by
  refine fn_I (by decide) (Nat.le_of_ble_eq_true rfl) rfl ?_
  intro K hC hR
  show G K E 8 [(q 0, .inr (12, oM q ab be fe fc mo bl ta tl tkn va)), (q 1, .inl (E.2.1 0, 188, .inl a)), (q 4, .inl (E.2.1 0, 3, .inl r))] [(0, .ref (q 0)), (1, .int p)] 0 []
  refine g_aload_n hC dX12_next_0 rfl 0 rfl ?_
  refine g_iload_n hC dX12_next_1 rfl 1 rfl ?_
  refine g_callV hC (f_X12_isOne (kl K) E q ab be fe fc mo bl ta tl tkn va a n p (hn) (by omega)) wX12_isOne m4_62 dX12_next_2 [0, 1] [(q 0, .inr (12, oM q ab be fe fc mo bl ta tl tkn va)), (q 1, .inl (E.2.1 0, 188, .inl a)), (q 4, .inl (E.2.1 0, 3, .inl r))] 0 12 rfl rfl (by decide) rfl (Nat.le_of_ble_eq_true rfl) rfl rfl rfl rfl rfl ?_
  refine g_if_neB (tgt := 15) hC dX12_next_5 (by decide) (fun h_5 => ?_) (fun h_5 => ?_)
  · exact absurd h_5 (by rw [hb]; decide)
  · refine g_aload_n hC dX12_next_8 rfl 0 rfl ?_
    refine g_bipush (v := (-2)) hC dX12_next_9 (by decide) ?_
    refine g_callV hC (f_X12_bad (kl K) E q ab be fe fc mo bl ta tl tkn va r (-2)) wX12_bad m4_34 dX12_next_11 [0, 2] [(q 0, .inr (12, oM q ab be fe fc mo bl ta tl tkn va)), (q 1, .inl (E.2.1 0, 188, .inl a)), (q 4, .inl (E.2.1 0, 3, .inl (upd r 0 (r 0 + nI 1))))] 0 12 rfl rfl (by decide) rfl (Nat.le_of_ble_eq_true rfl) rfl rfl rfl rfl rfl ?_
    exact g_val (rfl) (g_ws (rfl) (hR _ _ dX12_next_14))
set_option maxHeartbeats 4000000 in
set_option maxRecDepth 100000 in
theorem f_X12_trippers_ok (l : Launch) (E : Ew) (q : Nat → Nat) (ab : Int64) (be : Int64) (fe : Int32) (fc : Int32) (mo : Int32) (bl : Int32) (ta : Int32) (tl : Int32) (tkn : Int32) (va : Int32) (a : Nat → Int32) (r : Nat → Int32) (g : Nat → Int32) (n : Nat) (p : Nat) (x : Nat) (pl : Nat) (c : Nat) (hn : a 0 = nI n) (hn7 : n ≤ 7) (hpk : ∀ p, p < n → isN (a (12 + p)) 10 ∧ isN (a (19 + p)) 6) (hp : p < n) (hx : x < n) (hpl : pl < 10) (hc : c < 11) : Fe l E 4 yX12_trippers cX12_trippers 13 (some .int) [.ref (q 0), .int (nI p), .int (nI x), .int (nI pl), .int (nI c)] [(q 0, .inr (12, oM q ab be fe fc mo bl ta tl tkn va)), (q 1, .inl (E.2.1 0, 188, .inl a)), (q 4, .inl (E.2.1 0, 3, .inl r)), (q 5, .inl (E.2.1 0, 7, .inl g))] (some (.int (nI 1))) (fun jj => [(q 0, .inr (12, oM q (lN (tpS a p x pl n c (2 ^ n) / Nat.gcd (tpS a p x pl n c (2 ^ n)) (10 ^ n))) (lN (10 ^ n / Nat.gcd (tpS a p x pl n c (2 ^ n)) (10 ^ n))) fe fc mo bl ta tl tkn va)), (q 1, .inl (E.2.1 0, 188, .inl a)), (q 4, .inl (E.2.1 0, 3, .inl r)), (q 5, .inl (E.2.1 0, 7, .inl (jj 0)))]) := by
  refine fe_I (by decide) (Nat.le_of_ble_eq_true rfl) (fun _ => rfl) ?_
  intro K hC hR
  show G K E 13 [(q 0, .inr (12, oM q ab be fe fc mo bl ta tl tkn va)), (q 1, .inl (E.2.1 0, 188, .inl a)), (q 4, .inl (E.2.1 0, 3, .inl r)), (q 5, .inl (E.2.1 0, 7, .inl g))] [(0, .ref (q 0)), (1, .int (nI p)), (2, .int (nI x)), (3, .int (nI pl)), (4, .int (nI c))] 0 []
  have h2n : 2 ^ n ≤ 128 := Nat.pow_le_pow_right (n := 2) (by decide) (show n ≤ 7 from hn7)
  have h10n : 10 ^ n ≤ 10000000 := Nat.pow_le_pow_right (n := 10) (by decide) (show n ≤ 7 from hn7)
  have h10p : 0 < 10 ^ n := Nat.pow_pos (by decide)
  have hTS : ∀ gg : Nat → Int32, tS a (hnd a gg n) (nI x) pl n = TS a (nI x) pl n := fun gg => tS_cong (fun _ _ => ⟨rfl, rfl⟩) rfl hnd5
  have hgt : ∀ (gg : Nat → Int32) (w : Nat), gT (hnd a gg n) (nI x) w n p = gT (N5 a) (nI x) w n p := fun gg w => gT_cong hnd5 p hp
  have htl : TS a (nI x) pl n < 2147483648 := bs_lt' _ (m := 31) (by omega)
  have htp := tpS_le (a := a) (p := p) (x := x) (pl := pl) (n := n) (show c ≤ 10 by omega) (2 ^ n)
  have htm : 2 ^ n * 10 ^ n ≤ 128 * 10000000 := Nat.mul_le_mul h2n h10n
  refine g_aload_n hC dX12_trippers_0 rfl 0 rfl ?_
  refine g_iload_n hC dX12_trippers_1 rfl 1 rfl ?_
  refine g_callV hC (f_X12_isOne (kl K) E q ab be fe fc mo bl ta tl tkn va a n (nI p) (hn) (by omega)) wX12_isOne m4_62 dX12_trippers_2 [0, 1] [(q 0, .inr (12, oM q ab be fe fc mo bl ta tl tkn va)), (q 1, .inl (E.2.1 0, 188, .inl a)), (q 4, .inl (E.2.1 0, 3, .inl r)), (q 5, .inl (E.2.1 0, 7, .inl g))] 0 12 rfl rfl (by decide) rfl (Nat.le_of_ble_eq_true rfl) rfl rfl rfl rfl rfl ?_
  refine g_if_eqB (tgt := 36) hC dX12_trippers_5 (by decide) (fun h_5 => ?_) (fun h_5 => ?_)
  · exact Bool.noConfusion ((inB_ok (by omega) (by omega)).symm.trans h_5)
  · refine g_aload_n hC dX12_trippers_8 rfl 0 rfl ?_
    refine g_iload_n hC dX12_trippers_9 rfl 2 rfl ?_
    refine g_callV hC (f_X12_isOne (kl K) E q ab be fe fc mo bl ta tl tkn va a n (nI x) (hn) (by omega)) wX12_isOne m4_62 dX12_trippers_10 [0, 1] [(q 0, .inr (12, oM q ab be fe fc mo bl ta tl tkn va)), (q 1, .inl (E.2.1 0, 188, .inl a)), (q 4, .inl (E.2.1 0, 3, .inl r)), (q 5, .inl (E.2.1 0, 7, .inl g))] 0 12 rfl rfl (by decide) rfl (Nat.le_of_ble_eq_true rfl) rfl rfl rfl rfl rfl ?_
    refine g_if_eqB (tgt := 36) hC dX12_trippers_13 (by decide) (fun h_13 => ?_) (fun h_13 => ?_)
    · exact Bool.noConfusion ((inB_ok (by omega) (by omega)).symm.trans h_13)
    · refine g_iload_n hC dX12_trippers_16 rfl 3 rfl ?_
      refine g_callS hC (f_X12_isPlace (kl K) E (nI pl)) wX12_isPlace m4_47 dX12_trippers_17 [] [(q 0, .inr (12, oM q ab be fe fc mo bl ta tl tkn va)), (q 1, .inl (E.2.1 0, 188, .inl a)), (q 4, .inl (E.2.1 0, 3, .inl r)), (q 5, .inl (E.2.1 0, 7, .inl g))] (by decide) rfl (Nat.le_of_ble_eq_true rfl) rfl rfl rfl rfl rfl ?_
      refine g_if_eqB (tgt := 36) hC dX12_trippers_20 (by decide) (fun h_20 => ?_) (fun h_20 => ?_)
      · exact Bool.noConfusion ((inB_ok (by omega) (by omega)).symm.trans h_20)
      · refine g_iload hC dX12_trippers_23 4 rfl ?_
        refine g_i2l hC dX12_trippers_25 ?_
        refine g_lconst (v := 0) hC dX12_trippers_26 (by decide) ?_
        refine g_ldc2 (v := 10) hC dX12_trippers_27 m4_225 ?_
        refine g_callS hC (f_X12_in (kl K) E ((nI c).toInt64) 0 10) wX12_in m4_31 dX12_trippers_30 [] [(q 0, .inr (12, oM q ab be fe fc mo bl ta tl tkn va)), (q 1, .inl (E.2.1 0, 188, .inl a)), (q 4, .inl (E.2.1 0, 3, .inl r)), (q 5, .inl (E.2.1 0, 7, .inl g))] (by decide) rfl (Nat.le_of_ble_eq_true rfl) rfl rfl rfl rfl rfl ?_
        refine g_val (v' := .int (bI (inB (nI c) 11))) (by rw [inlC (n := 11) (by decide)]) ?_
        refine g_if_neB (tgt := 43) hC dX12_trippers_33 (by decide) (fun h_33 => ?_) (fun h_33 => ?_)
        · refine g_lconst (v := 0) hC dX12_trippers_43 (by decide) ?_
          refine g_lstore hC [(5, .long 0), (0, .ref (q 0)), (1, .int (nI p)), (2, .int (nI x)), (3, .int (nI pl)), (4, .int (nI c))] dX12_trippers_44 (by decide) rfl ?_
          refine g_lconst (v := 1) hC dX12_trippers_46 (by decide) ?_
          refine g_lstore hC [(7, .long 1), (5, .long 0), (0, .ref (q 0)), (1, .int (nI p)), (2, .int (nI x)), (3, .int (nI pl)), (4, .int (nI c))] dX12_trippers_47 (by decide) rfl ?_
          refine g_iconst (v := (nI 0)) hC dX12_trippers_49 (by decide) ?_
          refine g_istore hC [(9, .int (nI 0)), (7, .long 1), (5, .long 0), (0, .ref (q 0)), (1, .int (nI p)), (2, .int (nI x)), (3, .int (nI pl)), (4, .int (nI c))] dX12_trippers_50 (by decide) rfl ?_
          have L_52 : ∀ (fu : Nat) (k : Nat) (hk : k ≤ n), n - k < fu → G K E 13 [(q 0, .inr (12, oM q ab be fe fc mo bl ta tl tkn va)), (q 1, .inl (E.2.1 0, 188, .inl a)), (q 4, .inl (E.2.1 0, 3, .inl r)), (q 5, .inl (E.2.1 0, 7, .inl g))] [(9, .int (nI k)), (7, .long (lN (10 ^ k))), (5, .long 0), (0, .ref (q 0)), (1, .int (nI p)), (2, .int (nI x)), (3, .int (nI pl)), (4, .int (nI c))] 52 [] := by
            intro fu
            induction fu with
            | zero => intro k hk hm_52; exact absurd hm_52 (Nat.not_lt_zero _)
            | succ fu ih_52 =>
              intro k hk hm_52
              refine g_iload hC dX12_trippers_52 0 rfl ?_
              refine g_aload_n hC dX12_trippers_54 rfl 3 rfl ?_
              refine g_callV hC (f_X12_many (kl K) E q ab be fe fc mo bl ta tl tkn va a) wX12_many m4_38 dX12_trippers_55 [0, 1] [(q 0, .inr (12, oM q ab be fe fc mo bl ta tl tkn va)), (q 1, .inl (E.2.1 0, 188, .inl a)), (q 4, .inl (E.2.1 0, 3, .inl r)), (q 5, .inl (E.2.1 0, 7, .inl g))] 0 12 rfl rfl (by decide) rfl (Nat.le_of_ble_eq_true rfl) rfl rfl rfl rfl rfl ?_
              refine g_val (v' := .int (nI n)) (by rw [hn]) ?_
              refine g_icmp_geN (tgt := 75) hC dX12_trippers_58 (by decide) (by omega) (by omega) (fun h_58 => ?_) (fun h_58 => ?_)
              · refine g_iconst (v := (nI 0)) hC dX12_trippers_75 (by decide) ?_
                refine g_istore hC [(9, .int (nI 0)), (7, .long (lN (10 ^ k))), (5, .long 0), (0, .ref (q 0)), (1, .int (nI p)), (2, .int (nI x)), (3, .int (nI pl)), (4, .int (nI c))] dX12_trippers_76 (by decide) rfl ?_
                have L_78 : ∀ (fu : Nat) (h : Nat) (gg : Nat → Int32) (hh : h ≤ 2 ^ n), 2 ^ n - h < fu → G K E 13 [(q 0, .inr (12, oM q ab be fe fc mo bl ta tl tkn va)), (q 1, .inl (E.2.1 0, 188, .inl a)), (q 4, .inl (E.2.1 0, 3, .inl r)), (q 5, .inl (E.2.1 0, 7, .inl gg))] [(9, .int (nI h)), (7, .long (lN (10 ^ n))), (5, .long (lN (tpS a p x pl n c h))), (0, .ref (q 0)), (1, .int (nI p)), (2, .int (nI x)), (3, .int (nI pl)), (4, .int (nI c))] 78 [] := by
                  intro fu
                  induction fu with
                  | zero => intro h gg hh hm_78; exact absurd hm_78 (Nat.not_lt_zero _)
                  | succ fu ih_78 =>
                    intro h gg hh hm_78
                    refine g_iload hC dX12_trippers_78 0 rfl ?_
                    refine g_iconst (v := (nI 1)) hC dX12_trippers_80 (by decide) ?_
                    refine g_aload_n hC dX12_trippers_81 rfl 3 rfl ?_
                    refine g_callV hC (f_X12_many (kl K) E q ab be fe fc mo bl ta tl tkn va a) wX12_many m4_38 dX12_trippers_82 [0, 1] [(q 0, .inr (12, oM q ab be fe fc mo bl ta tl tkn va)), (q 1, .inl (E.2.1 0, 188, .inl a)), (q 4, .inl (E.2.1 0, 3, .inl r)), (q 5, .inl (E.2.1 0, 7, .inl gg))] 0 12 rfl rfl (by decide) rfl (Nat.le_of_ble_eq_true rfl) rfl rfl rfl rfl rfl ?_
                    refine g_val (v' := .int (nI n)) (by rw [hn]) ?_
                    refine g_ishl hC dX12_trippers_85 ?_
                    refine g_val (v' := .int (nI (2 ^ n))) (by rw [sh1 (by omega)]) ?_
                    refine g_icmp_geN (tgt := 182) hC dX12_trippers_86 (by decide) (by omega) (by omega) (fun h_86 => ?_) (fun h_86 => ?_)
                    · have hhe : h = 2 ^ n := by omega
                      have hth : tpS a p x pl n c h < 9223372036854775808 := by rw [hhe]; omega
                      refine g_aload_n hC dX12_trippers_182 rfl 3 rfl ?_
                      refine g_lload hC dX12_trippers_183 2 rfl ?_
                      refine g_lload hC dX12_trippers_185 1 rfl ?_
                      refine g_callV hC (f_X12_fraction (kl K) E q ab be fe fc mo bl ta tl tkn va (tpS a p x pl n c h) (10 ^ n) (hth) (by omega) (by omega)) wX12_fraction m4_176 dX12_trippers_187 [0] [(q 0, .inr (12, oM q (lN ((tpS a p x pl n c h) / Nat.gcd (tpS a p x pl n c h) (10 ^ n))) (lN ((10 ^ n) / Nat.gcd (tpS a p x pl n c h) (10 ^ n))) fe fc mo bl ta tl tkn va)), (q 1, .inl (E.2.1 0, 188, .inl a)), (q 4, .inl (E.2.1 0, 3, .inl r)), (q 5, .inl (E.2.1 0, 7, .inl gg))] 0 12 rfl rfl (by decide) rfl (Nat.le_of_ble_eq_true rfl) rfl rfl rfl rfl rfl ?_
                      refine g_iconst (v := (nI 1)) hC dX12_trippers_190 (by decide) ?_
                      exact g_val (rfl) (g_ws (by rw [hhe]) (hR (fun i => gg) _ _ dX12_trippers_191))
                    · refine g_lconst (v := 1) hC dX12_trippers_89 (by decide) ?_
                      refine g_lstore hC [(10, .long 1), (9, .int (nI h)), (7, .long (lN (10 ^ n))), (5, .long (lN (tpS a p x pl n c h))), (0, .ref (q 0)), (1, .int (nI p)), (2, .int (nI x)), (3, .int (nI pl)), (4, .int (nI c))] dX12_trippers_90 (by decide) rfl ?_
                      refine g_iconst (v := (nI 0)) hC dX12_trippers_92 (by decide) ?_
                      refine g_istore hC [(12, .int (nI 0)), (10, .long 1), (9, .int (nI h)), (7, .long (lN (10 ^ n))), (5, .long (lN (tpS a p x pl n c h))), (0, .ref (q 0)), (1, .int (nI p)), (2, .int (nI x)), (3, .int (nI pl)), (4, .int (nI c))] dX12_trippers_93 (by decide) rfl ?_
                      have L_95 : ∀ (fu : Nat) (k : Nat) (hk : k ≤ n), n - k < fu → G K E 13 [(q 0, .inr (12, oM q ab be fe fc mo bl ta tl tkn va)), (q 1, .inl (E.2.1 0, 188, .inl a)), (q 4, .inl (E.2.1 0, 3, .inl r)), (q 5, .inl (E.2.1 0, 7, .inl gg))] [(12, .int (nI k)), (10, .long (lN (prd c h k))), (9, .int (nI h)), (7, .long (lN (10 ^ n))), (5, .long (lN (tpS a p x pl n c h))), (0, .ref (q 0)), (1, .int (nI p)), (2, .int (nI x)), (3, .int (nI pl)), (4, .int (nI c))] 95 [] := by
                        intro fu
                        induction fu with
                        | zero => intro k hk hm_95; exact absurd hm_95 (Nat.not_lt_zero _)
                        | succ fu ih_95 =>
                          intro k hk hm_95
                          refine g_iload hC dX12_trippers_95 0 rfl ?_
                          refine g_aload_n hC dX12_trippers_97 rfl 5 rfl ?_
                          refine g_callV hC (f_X12_many (kl K) E q ab be fe fc mo bl ta tl tkn va a) wX12_many m4_38 dX12_trippers_98 [0, 1] [(q 0, .inr (12, oM q ab be fe fc mo bl ta tl tkn va)), (q 1, .inl (E.2.1 0, 188, .inl a)), (q 4, .inl (E.2.1 0, 3, .inl r)), (q 5, .inl (E.2.1 0, 7, .inl gg))] 0 12 rfl rfl (by decide) rfl (Nat.le_of_ble_eq_true rfl) rfl rfl rfl rfl rfl ?_
                          refine g_val (v' := .int (nI n)) (by rw [hn]) ?_
                          refine g_icmp_geN (tgt := 137) hC dX12_trippers_101 (by decide) (by omega) (by omega) (fun h_101 => ?_) (fun h_101 => ?_)
                          · refine g_aload_n hC dX12_trippers_137 rfl 5 rfl ?_
                            refine g_callV hC (f_X12_layHand (kl K) E q ab be fe fc mo bl ta tl tkn va a gg n (hn) (hn7)) wX12_layHand m4_70 dX12_trippers_138 [0, 1, 3] [(q 0, .inr (12, oM q ab be fe fc mo bl ta tl tkn va)), (q 1, .inl (E.2.1 0, 188, .inl a)), (q 4, .inl (E.2.1 0, 3, .inl r)), (q 5, .inl (E.2.1 0, 7, .inl (hnd a gg n)))] 0 12 rfl rfl (by decide) rfl (Nat.le_of_ble_eq_true rfl) rfl rfl rfl rfl rfl ?_
                            refine g_aload_n hC dX12_trippers_141 rfl 5 rfl ?_
                            refine g_iload_n hC dX12_trippers_142 rfl 7 rfl ?_
                            refine g_aload_n hC dX12_trippers_143 rfl 5 rfl ?_
                            refine g_iload_n hC dX12_trippers_144 rfl 7 rfl ?_
                            refine g_iload_n hC dX12_trippers_145 rfl 8 rfl ?_
                            refine g_callV hC (f_X12_turning (kl K) E q ab be fe fc mo bl ta tl tkn va a (hnd a gg n) n (nI x) pl (hn) (hn7) (hpk) (by omega)) wX12_turning m4_78 dX12_trippers_146 [0, 1, 3] [(q 0, .inr (12, oM q ab be fe fc mo bl ta tl tkn va)), (q 1, .inl (E.2.1 0, 188, .inl a)), (q 4, .inl (E.2.1 0, 3, .inl r)), (q 5, .inl (E.2.1 0, 7, .inl (hnd a gg n)))] 0 12 rfl rfl (by decide) rfl (Nat.le_of_ble_eq_true rfl) rfl rfl rfl rfl rfl ?_
                            refine g_iload hC dX12_trippers_149 2 rfl ?_
                            refine g_iand hC dX12_trippers_151 ?_
                            refine g_val (v' := .int (nI (TS a (nI x) pl n &&& h))) (by rw [fa_and, hTS]) ?_
                            refine g_callV hC (f_X12_goTurn (kl K) E q ab be fe fc mo bl ta tl tkn va a (hnd a gg n) n (nI x) (TS a (nI x) pl n &&& h) (hn) (hn7) (Nat.lt_of_le_of_lt Nat.and_le_left htl)) wX12_goTurn m4_95 dX12_trippers_152 [0, 1, 3] [(q 0, .inr (12, oM q ab be fe fc mo bl ta tl tkn va)), (q 1, .inl (E.2.1 0, 188, .inl a)), (q 4, .inl (E.2.1 0, 3, .inl r)), (q 5, .inl (E.2.1 0, 7, .inl (gT (hnd a gg n) (nI x) (TS a (nI x) pl n &&& h) n)))] 0 12 rfl rfl (by decide) rfl (Nat.le_of_ble_eq_true rfl) rfl rfl rfl rfl rfl ?_
                            refine g_lload hC dX12_trippers_155 4 rfl ?_
                            refine g_aload_n hC dX12_trippers_157 rfl 5 rfl ?_
                            refine g_get hC 0 12 6 inX12 m3_214 dX12_trippers_158 rfl rfl (by decide) rfl ?_
                            refine g_iload_n hC dX12_trippers_161 rfl 6 rfl ?_
                            refine g_ialdN hC 3 dX12_trippers_162 rfl (by decide) (by omega) ?_
                            refine g_iload_n hC dX12_trippers_163 rfl 7 rfl ?_
                            refine g_icmp_ne (tgt := 172) hC dX12_trippers_164 (by decide) (fun h_164 => ?_) (fun h_164 => ?_)
                            · refine g_lconst (v := 0) hC dX12_trippers_172 (by decide) ?_
                              refine g_ladd hC dX12_trippers_173 ?_
                              refine g_val (v' := .long (lN (tpS a p x pl n c (h + 1)))) (by rw [lN0, lN_add, tpS, if_neg (by simp [tpC, ← hgt gg, h_164])]) ?_
                              refine g_lstore hC [(5, .long (lN (tpS a p x pl n c (h + 1)))), (12, .int (nI k)), (10, .long (lN (prd c h k))), (9, .int (nI h)), (7, .long (lN (10 ^ n))), (0, .ref (q 0)), (1, .int (nI p)), (2, .int (nI x)), (3, .int (nI pl)), (4, .int (nI c))] dX12_trippers_174 (by decide) rfl ?_
                              refine g_iincN hC (q := 3) 1 [(9, .int (nI (h + 1))), (5, .long (lN (tpS a p x pl n c (h + 1)))), (12, .int (nI k)), (10, .long (lN (prd c h k))), (7, .long (lN (10 ^ n))), (0, .ref (q 0)), (1, .int (nI p)), (2, .int (nI x)), (3, .int (nI pl)), (4, .int (nI c))] dX12_trippers_176 rfl rfl (by decide) rfl ?_
                              refine g_goto (tgt := 78) hC dX12_trippers_179 (by decide) ?_
                              refine g_lv (lv' := [(9, .int (nI (h + 1))), (7, .long (lN (10 ^ n))), (5, .long (lN (tpS a p x pl n c (h + 1)))), (0, .ref (q 0)), (1, .int (nI p)), (2, .int (nI x)), (3, .int (nI pl)), (4, .int (nI c))]) [0, 4, 1, 5, 6, 7, 8, 9] rfl ?_
                              exact ih_78 (h + 1) (gT (hnd a gg n) (nI x) (TS a (nI x) pl n &&& h) n) (by omega) (by omega)
                            · refine g_lload hC dX12_trippers_167 1 rfl ?_
                              refine g_goto (tgt := 173) hC dX12_trippers_169 (by decide) ?_
                              refine g_ladd hC dX12_trippers_173 ?_
                              refine g_val (v' := .long (lN (tpS a p x pl n c (h + 1)))) (by rw [show k = n by omega, lN_add, tpS, if_pos (by simp [tpC, ← hgt gg, h_164])]) ?_
                              refine g_lstore hC [(5, .long (lN (tpS a p x pl n c (h + 1)))), (12, .int (nI k)), (10, .long (lN (prd c h k))), (9, .int (nI h)), (7, .long (lN (10 ^ n))), (0, .ref (q 0)), (1, .int (nI p)), (2, .int (nI x)), (3, .int (nI pl)), (4, .int (nI c))] dX12_trippers_174 (by decide) rfl ?_
                              refine g_iincN hC (q := 3) 1 [(9, .int (nI (h + 1))), (5, .long (lN (tpS a p x pl n c (h + 1)))), (12, .int (nI k)), (10, .long (lN (prd c h k))), (7, .long (lN (10 ^ n))), (0, .ref (q 0)), (1, .int (nI p)), (2, .int (nI x)), (3, .int (nI pl)), (4, .int (nI c))] dX12_trippers_176 rfl rfl (by decide) rfl ?_
                              refine g_goto (tgt := 78) hC dX12_trippers_179 (by decide) ?_
                              refine g_lv (lv' := [(9, .int (nI (h + 1))), (7, .long (lN (10 ^ n))), (5, .long (lN (tpS a p x pl n c (h + 1)))), (0, .ref (q 0)), (1, .int (nI p)), (2, .int (nI x)), (3, .int (nI pl)), (4, .int (nI c))]) [0, 4, 1, 5, 6, 7, 8, 9] rfl ?_
                              exact ih_78 (h + 1) (gT (hnd a gg n) (nI x) (TS a (nI x) pl n &&& h) n) (by omega) (by omega)
                          · refine g_lload hC dX12_trippers_104 1 rfl ?_
                            refine g_iload hC dX12_trippers_106 2 rfl ?_
                            refine g_iload hC dX12_trippers_108 0 rfl ?_
                            refine g_callS hC (f_X12_has (kl K) E h k (by omega) (by omega)) wX12_has m4_89 dX12_trippers_110 [] [(q 0, .inr (12, oM q ab be fe fc mo bl ta tl tkn va)), (q 1, .inl (E.2.1 0, 188, .inl a)), (q 4, .inl (E.2.1 0, 3, .inl r)), (q 5, .inl (E.2.1 0, 7, .inl gg))] (by decide) rfl (Nat.le_of_ble_eq_true rfl) rfl rfl rfl rfl rfl ?_
                            refine g_if_eqB (tgt := 125) hC dX12_trippers_113 (by decide) (fun h_113 => ?_) (fun h_113 => ?_)
                            · refine g_iload hC dX12_trippers_125 9 rfl ?_
                              refine g_i2l hC dX12_trippers_127 ?_
                              refine g_lmul hC dX12_trippers_128 ?_
                              refine g_val (v' := .long (lN (prd c h (k + 1)))) (by rw [nI_l (by omega), lN_mul, prd, if_neg (by rw [h_113]; decide)]) ?_
                              refine g_lstore hC [(10, .long (lN (prd c h (k + 1)))), (12, .int (nI k)), (9, .int (nI h)), (7, .long (lN (10 ^ n))), (5, .long (lN (tpS a p x pl n c h))), (0, .ref (q 0)), (1, .int (nI p)), (2, .int (nI x)), (3, .int (nI pl)), (4, .int (nI c))] dX12_trippers_129 (by decide) rfl ?_
                              refine g_iincN hC (q := 1) 1 [(12, .int (nI (k + 1))), (10, .long (lN (prd c h (k + 1)))), (9, .int (nI h)), (7, .long (lN (10 ^ n))), (5, .long (lN (tpS a p x pl n c h))), (0, .ref (q 0)), (1, .int (nI p)), (2, .int (nI x)), (3, .int (nI pl)), (4, .int (nI c))] dX12_trippers_131 rfl rfl (by decide) rfl ?_
                              refine g_goto (tgt := 95) hC dX12_trippers_134 (by decide) ?_
                              refine g_lv (lv' := [(12, .int (nI (k + 1))), (10, .long (lN (prd c h (k + 1)))), (9, .int (nI h)), (7, .long (lN (10 ^ n))), (5, .long (lN (tpS a p x pl n c h))), (0, .ref (q 0)), (1, .int (nI p)), (2, .int (nI x)), (3, .int (nI pl)), (4, .int (nI c))]) [0, 1, 2, 3, 4, 5, 6, 7, 8, 9] rfl ?_
                              exact ih_95 (k + 1) (by omega) (by omega)
                            · refine g_bipush (v := (nI 10)) hC dX12_trippers_116 (by decide) ?_
                              refine g_iload hC dX12_trippers_118 9 rfl ?_
                              refine g_isubN hC dX12_trippers_120 (by omega) ?_
                              refine g_i2l hC dX12_trippers_121 ?_
                              refine g_goto (tgt := 128) hC dX12_trippers_122 (by decide) ?_
                              refine g_lmul hC dX12_trippers_128 ?_
                              refine g_val (v' := .long (lN (prd c h (k + 1)))) (by rw [nI_l (by omega), lN_mul, prd, if_pos h_113]) ?_
                              refine g_lstore hC [(10, .long (lN (prd c h (k + 1)))), (12, .int (nI k)), (9, .int (nI h)), (7, .long (lN (10 ^ n))), (5, .long (lN (tpS a p x pl n c h))), (0, .ref (q 0)), (1, .int (nI p)), (2, .int (nI x)), (3, .int (nI pl)), (4, .int (nI c))] dX12_trippers_129 (by decide) rfl ?_
                              refine g_iincN hC (q := 1) 1 [(12, .int (nI (k + 1))), (10, .long (lN (prd c h (k + 1)))), (9, .int (nI h)), (7, .long (lN (10 ^ n))), (5, .long (lN (tpS a p x pl n c h))), (0, .ref (q 0)), (1, .int (nI p)), (2, .int (nI x)), (3, .int (nI pl)), (4, .int (nI c))] dX12_trippers_131 rfl rfl (by decide) rfl ?_
                              refine g_goto (tgt := 95) hC dX12_trippers_134 (by decide) ?_
                              refine g_lv (lv' := [(12, .int (nI (k + 1))), (10, .long (lN (prd c h (k + 1)))), (9, .int (nI h)), (7, .long (lN (10 ^ n))), (5, .long (lN (tpS a p x pl n c h))), (0, .ref (q 0)), (1, .int (nI p)), (2, .int (nI x)), (3, .int (nI pl)), (4, .int (nI c))]) [0, 1, 2, 3, 4, 5, 6, 7, 8, 9] rfl ?_
                              exact ih_95 (k + 1) (by omega) (by omega)
                      refine g_lv (lv' := [(12, .int (nI 0)), (10, .long 1), (9, .int (nI h)), (7, .long (lN (10 ^ n))), (5, .long (lN (tpS a p x pl n c h))), (0, .ref (q 0)), (1, .int (nI p)), (2, .int (nI x)), (3, .int (nI pl)), (4, .int (nI c))]) [0, 1, 2, 3, 4, 5, 6, 7, 8, 9] rfl ?_
                      refine g_lve (lv' := [(12, .int (nI 0)), (10, .long (lN (prd c h 0))), (9, .int (nI h)), (7, .long (lN (10 ^ n))), (5, .long (lN (tpS a p x pl n c h))), (0, .ref (q 0)), (1, .int (nI p)), (2, .int (nI x)), (3, .int (nI pl)), (4, .int (nI c))]) (rfl) ?_
                      exact L_95 ((n - 0) + 1) 0 (by omega) (Nat.lt_succ_self _)
                refine g_lv (lv' := [(9, .int (nI 0)), (7, .long (lN (10 ^ k))), (5, .long 0), (0, .ref (q 0)), (1, .int (nI p)), (2, .int (nI x)), (3, .int (nI pl)), (4, .int (nI c))]) [0, 1, 2, 3, 4, 5, 6, 7] rfl ?_
                refine g_lve (lv' := [(9, .int (nI 0)), (7, .long (lN (10 ^ n))), (5, .long (lN (tpS a p x pl n c 0))), (0, .ref (q 0)), (1, .int (nI p)), (2, .int (nI x)), (3, .int (nI pl)), (4, .int (nI c))]) (by rw [show k = n by omega]; rfl) ?_
                exact L_78 ((2 ^ n - 0) + 1) 0 g (Nat.zero_le _) (Nat.lt_succ_self _)
              · refine g_lload hC dX12_trippers_61 1 rfl ?_
                refine g_ldc2 (v := 10) hC dX12_trippers_63 m4_225 ?_
                refine g_lmul hC dX12_trippers_66 ?_
                refine g_val (v' := .long (lN (10 ^ (k + 1)))) (by rw [lmul10]) ?_
                refine g_lstore hC [(7, .long (lN (10 ^ (k + 1)))), (9, .int (nI k)), (5, .long 0), (0, .ref (q 0)), (1, .int (nI p)), (2, .int (nI x)), (3, .int (nI pl)), (4, .int (nI c))] dX12_trippers_67 (by decide) rfl ?_
                refine g_iincN hC (q := 1) 1 [(9, .int (nI (k + 1))), (7, .long (lN (10 ^ (k + 1)))), (5, .long 0), (0, .ref (q 0)), (1, .int (nI p)), (2, .int (nI x)), (3, .int (nI pl)), (4, .int (nI c))] dX12_trippers_69 rfl rfl (by decide) rfl ?_
                refine g_goto (tgt := 52) hC dX12_trippers_72 (by decide) ?_
                refine g_lv (lv' := [(9, .int (nI (k + 1))), (7, .long (lN (10 ^ (k + 1)))), (5, .long 0), (0, .ref (q 0)), (1, .int (nI p)), (2, .int (nI x)), (3, .int (nI pl)), (4, .int (nI c))]) [0, 1, 2, 3, 4, 5, 6, 7] rfl ?_
                exact ih_52 (k + 1) (by omega) (by omega)
          refine g_lv (lv' := [(9, .int (nI 0)), (7, .long 1), (5, .long 0), (0, .ref (q 0)), (1, .int (nI p)), (2, .int (nI x)), (3, .int (nI pl)), (4, .int (nI c))]) [0, 1, 2, 3, 4, 5, 6, 7] rfl ?_
          refine g_lve (lv' := [(9, .int (nI 0)), (7, .long (lN (10 ^ 0))), (5, .long 0), (0, .ref (q 0)), (1, .int (nI p)), (2, .int (nI x)), (3, .int (nI pl)), (4, .int (nI c))]) (rfl) ?_
          exact L_52 ((n - 0) + 1) 0 (by omega) (Nat.lt_succ_self _)
        · exact Bool.noConfusion ((inB_ok (by omega) (by omega)).symm.trans h_33)
set_option maxHeartbeats 4000000 in
set_option maxRecDepth 100000 in
theorem f_X12_trippers_bad (l : Launch) (E : Ew) (q : Nat → Nat) (ab : Int64) (be : Int64) (fe : Int32) (fc : Int32) (mo : Int32) (bl : Int32) (ta : Int32) (tl : Int32) (tkn : Int32) (va : Int32) (a : Nat → Int32) (r : Nat → Int32) (n : Nat) (p : Int32) (x : Int32) (pl : Int32) (c : Int32) (hn : a 0 = nI n) (hn7 : n ≤ 7) (hb : (inB p n && inB x n && inB pl 10 && inB c 11) = false) : Fn l E 2 yX12_trippers cX12_trippers 13 (some .int) [.ref (q 0), .int p, .int x, .int pl, .int c] [(q 0, .inr (12, oM q ab be fe fc mo bl ta tl tkn va)), (q 1, .inl (E.2.1 0, 188, .inl a)), (q 4, .inl (E.2.1 0, 3, .inl r))] (some (.int (-2))) [(q 0, .inr (12, oM q ab be fe fc mo bl ta tl tkn va)), (q 1, .inl (E.2.1 0, 188, .inl a)), (q 4, .inl (E.2.1 0, 3, .inl (upd r 0 (r 0 + nI 1))))] := by
  refine fn_I (by decide) (Nat.le_of_ble_eq_true rfl) rfl ?_
  intro K hC hR
  show G K E 13 [(q 0, .inr (12, oM q ab be fe fc mo bl ta tl tkn va)), (q 1, .inl (E.2.1 0, 188, .inl a)), (q 4, .inl (E.2.1 0, 3, .inl r))] [(0, .ref (q 0)), (1, .int p), (2, .int x), (3, .int pl), (4, .int c)] 0 []
  refine g_aload_n hC dX12_trippers_0 rfl 0 rfl ?_
  refine g_iload_n hC dX12_trippers_1 rfl 1 rfl ?_
  refine g_callV hC (f_X12_isOne (kl K) E q ab be fe fc mo bl ta tl tkn va a n p (hn) (by omega)) wX12_isOne m4_62 dX12_trippers_2 [0, 1] [(q 0, .inr (12, oM q ab be fe fc mo bl ta tl tkn va)), (q 1, .inl (E.2.1 0, 188, .inl a)), (q 4, .inl (E.2.1 0, 3, .inl r))] 0 12 rfl rfl (by decide) rfl (Nat.le_of_ble_eq_true rfl) rfl rfl rfl rfl rfl ?_
  refine g_if_eqB (tgt := 36) hC dX12_trippers_5 (by decide) (fun h_5 => ?_) (fun h_5 => ?_)
  · refine g_aload_n hC dX12_trippers_36 rfl 0 rfl ?_
    refine g_bipush (v := (-2)) hC dX12_trippers_37 (by decide) ?_
    refine g_callV hC (f_X12_bad (kl K) E q ab be fe fc mo bl ta tl tkn va r (-2)) wX12_bad m4_34 dX12_trippers_39 [0, 2] [(q 0, .inr (12, oM q ab be fe fc mo bl ta tl tkn va)), (q 1, .inl (E.2.1 0, 188, .inl a)), (q 4, .inl (E.2.1 0, 3, .inl (upd r 0 (r 0 + nI 1))))] 0 12 rfl rfl (by decide) rfl (Nat.le_of_ble_eq_true rfl) rfl rfl rfl rfl rfl ?_
    exact g_val (rfl) (g_ws (rfl) (hR _ _ dX12_trippers_42))
  · refine g_aload_n hC dX12_trippers_8 rfl 0 rfl ?_
    refine g_iload_n hC dX12_trippers_9 rfl 2 rfl ?_
    refine g_callV hC (f_X12_isOne (kl K) E q ab be fe fc mo bl ta tl tkn va a n x (hn) (by omega)) wX12_isOne m4_62 dX12_trippers_10 [0, 1] [(q 0, .inr (12, oM q ab be fe fc mo bl ta tl tkn va)), (q 1, .inl (E.2.1 0, 188, .inl a)), (q 4, .inl (E.2.1 0, 3, .inl r))] 0 12 rfl rfl (by decide) rfl (Nat.le_of_ble_eq_true rfl) rfl rfl rfl rfl rfl ?_
    refine g_if_eqB (tgt := 36) hC dX12_trippers_13 (by decide) (fun h_13 => ?_) (fun h_13 => ?_)
    · refine g_aload_n hC dX12_trippers_36 rfl 0 rfl ?_
      refine g_bipush (v := (-2)) hC dX12_trippers_37 (by decide) ?_
      refine g_callV hC (f_X12_bad (kl K) E q ab be fe fc mo bl ta tl tkn va r (-2)) wX12_bad m4_34 dX12_trippers_39 [0, 2] [(q 0, .inr (12, oM q ab be fe fc mo bl ta tl tkn va)), (q 1, .inl (E.2.1 0, 188, .inl a)), (q 4, .inl (E.2.1 0, 3, .inl (upd r 0 (r 0 + nI 1))))] 0 12 rfl rfl (by decide) rfl (Nat.le_of_ble_eq_true rfl) rfl rfl rfl rfl rfl ?_
      exact g_val (rfl) (g_ws (rfl) (hR _ _ dX12_trippers_42))
    · refine g_iload_n hC dX12_trippers_16 rfl 3 rfl ?_
      refine g_callS hC (f_X12_isPlace (kl K) E pl) wX12_isPlace m4_47 dX12_trippers_17 [] [(q 0, .inr (12, oM q ab be fe fc mo bl ta tl tkn va)), (q 1, .inl (E.2.1 0, 188, .inl a)), (q 4, .inl (E.2.1 0, 3, .inl r))] (by decide) rfl (Nat.le_of_ble_eq_true rfl) rfl rfl rfl rfl rfl ?_
      refine g_if_eqB (tgt := 36) hC dX12_trippers_20 (by decide) (fun h_20 => ?_) (fun h_20 => ?_)
      · refine g_aload_n hC dX12_trippers_36 rfl 0 rfl ?_
        refine g_bipush (v := (-2)) hC dX12_trippers_37 (by decide) ?_
        refine g_callV hC (f_X12_bad (kl K) E q ab be fe fc mo bl ta tl tkn va r (-2)) wX12_bad m4_34 dX12_trippers_39 [0, 2] [(q 0, .inr (12, oM q ab be fe fc mo bl ta tl tkn va)), (q 1, .inl (E.2.1 0, 188, .inl a)), (q 4, .inl (E.2.1 0, 3, .inl (upd r 0 (r 0 + nI 1))))] 0 12 rfl rfl (by decide) rfl (Nat.le_of_ble_eq_true rfl) rfl rfl rfl rfl rfl ?_
        exact g_val (rfl) (g_ws (rfl) (hR _ _ dX12_trippers_42))
      · refine g_iload hC dX12_trippers_23 4 rfl ?_
        refine g_i2l hC dX12_trippers_25 ?_
        refine g_lconst (v := 0) hC dX12_trippers_26 (by decide) ?_
        refine g_ldc2 (v := 10) hC dX12_trippers_27 m4_225 ?_
        refine g_callS hC (f_X12_in (kl K) E c.toInt64 0 10) wX12_in m4_31 dX12_trippers_30 [] [(q 0, .inr (12, oM q ab be fe fc mo bl ta tl tkn va)), (q 1, .inl (E.2.1 0, 188, .inl a)), (q 4, .inl (E.2.1 0, 3, .inl r))] (by decide) rfl (Nat.le_of_ble_eq_true rfl) rfl rfl rfl rfl rfl ?_
        refine g_val (v' := .int (bI (inB c 11))) (by rw [inlC (n := 11) (by decide)]) ?_
        refine g_if_neB (tgt := 43) hC dX12_trippers_33 (by decide) (fun h_33 => ?_) (fun h_33 => ?_)
        · exact absurd hb (by simp [h_5, h_13, h_20, h_33])
        · refine g_aload_n hC dX12_trippers_36 rfl 0 rfl ?_
          refine g_bipush (v := (-2)) hC dX12_trippers_37 (by decide) ?_
          refine g_callV hC (f_X12_bad (kl K) E q ab be fe fc mo bl ta tl tkn va r (-2)) wX12_bad m4_34 dX12_trippers_39 [0, 2] [(q 0, .inr (12, oM q ab be fe fc mo bl ta tl tkn va)), (q 1, .inl (E.2.1 0, 188, .inl a)), (q 4, .inl (E.2.1 0, 3, .inl (upd r 0 (r 0 + nI 1))))] 0 12 rfl rfl (by decide) rfl (Nat.le_of_ble_eq_true rfl) rfl rfl rfl rfl rfl ?_
          exact g_val (rfl) (g_ws (rfl) (hR _ _ dX12_trippers_42))
set_option maxHeartbeats 4000000 in
set_option maxRecDepth 100000 in
theorem f_X12_weeks_ok (l : Launch) (E : Ew) (q : Nat → Nat) (ab : Int64) (be : Int64) (fe : Int32) (fc : Int32) (mo : Int32) (bl : Int32) (ta : Int32) (tl : Int32) (tkn : Int32) (va : Int32) (a : Nat → Int32) (r : Nat → Int32) (g : Nat → Int32) (n : Nat) (s : Nat) (w : Nat) (hn : a 0 = nI n) (hn7 : n ≤ 7) (hpk : ∀ p, p < n → isN (a (12 + p)) 10 ∧ isN (a (19 + p)) 6) (hn0 : 0 < n) (hs : s < 1000000) (hw : w < 61) : Fn l E 4 yX12_weeks cX12_weeks 7 (some .int) [.ref (q 0), .int (nI s), .int (nI w)] [(q 0, .inr (12, oM q ab be fe fc mo bl ta tl tkn va)), (q 1, .inl (E.2.1 0, 188, .inl a)), (q 4, .inl (E.2.1 0, 3, .inl r)), (q 5, .inl (E.2.1 0, 7, .inl g))] (some (.int (nI (ow (wG a (N5 a) n s w) n)))) [(q 0, .inr (12, oM q ab be fe fc mo bl ta tl tkn va)), (q 1, .inl (E.2.1 0, 188, .inl a)), (q 4, .inl (E.2.1 0, 3, .inl r)), (q 5, .inl (E.2.1 0, 7, .inl (wG a (hnd a g n) n s w)))] := by
  refine fn_I (by decide) (Nat.le_of_ble_eq_true rfl) rfl ?_
  intro K hC hR
  show G K E 7 [(q 0, .inr (12, oM q ab be fe fc mo bl ta tl tkn va)), (q 1, .inl (E.2.1 0, 188, .inl a)), (q 4, .inl (E.2.1 0, 3, .inl r)), (q 5, .inl (E.2.1 0, 7, .inl g))] [(0, .ref (q 0)), (1, .int (nI s)), (2, .int (nI w))] 0 []
  refine g_iload_n hC dX12_weeks_0 rfl 1 rfl ?_
  refine g_i2l hC dX12_weeks_1 ?_
  refine g_lconst (v := 0) hC dX12_weeks_2 (by decide) ?_
  refine g_ldc2 (v := 999999) hC dX12_weeks_3 m4_230 ?_
  refine g_callS hC (f_X12_in (kl K) E ((nI s).toInt64) 0 999999) wX12_in m4_31 dX12_weeks_6 [] [(q 0, .inr (12, oM q ab be fe fc mo bl ta tl tkn va)), (q 1, .inl (E.2.1 0, 188, .inl a)), (q 4, .inl (E.2.1 0, 3, .inl r)), (q 5, .inl (E.2.1 0, 7, .inl g))] (by decide) rfl (Nat.le_of_ble_eq_true rfl) rfl rfl rfl rfl rfl ?_
  refine g_val (v' := .int (bI (inB (nI s) 1000000))) (by rw [inlC (n := 1000000) (by decide)]) ?_
  refine g_if_eqB (tgt := 24) hC dX12_weeks_9 (by decide) (fun h_9 => ?_) (fun h_9 => ?_)
  · exact Bool.noConfusion ((inB_ok (by omega) (by omega)).symm.trans h_9)
  · refine g_iload_n hC dX12_weeks_12 rfl 2 rfl ?_
    refine g_i2l hC dX12_weeks_13 ?_
    refine g_lconst (v := 0) hC dX12_weeks_14 (by decide) ?_
    refine g_ldc2 (v := 60) hC dX12_weeks_15 m4_171 ?_
    refine g_callS hC (f_X12_in (kl K) E ((nI w).toInt64) 0 60) wX12_in m4_31 dX12_weeks_18 [] [(q 0, .inr (12, oM q ab be fe fc mo bl ta tl tkn va)), (q 1, .inl (E.2.1 0, 188, .inl a)), (q 4, .inl (E.2.1 0, 3, .inl r)), (q 5, .inl (E.2.1 0, 7, .inl g))] (by decide) rfl (Nat.le_of_ble_eq_true rfl) rfl rfl rfl rfl rfl ?_
    refine g_val (v' := .int (bI (inB (nI w) 61))) (by rw [inlC (n := 61) (by decide)]) ?_
    refine g_if_neB (tgt := 31) hC dX12_weeks_21 (by decide) (fun h_21 => ?_) (fun h_21 => ?_)
    · refine g_aload_n hC dX12_weeks_31 rfl 0 rfl ?_
      refine g_callV hC (f_X12_many (kl K) E q ab be fe fc mo bl ta tl tkn va a) wX12_many m4_38 dX12_weeks_32 [0, 1] [(q 0, .inr (12, oM q ab be fe fc mo bl ta tl tkn va)), (q 1, .inl (E.2.1 0, 188, .inl a)), (q 4, .inl (E.2.1 0, 3, .inl r)), (q 5, .inl (E.2.1 0, 7, .inl g))] 0 12 rfl rfl (by decide) rfl (Nat.le_of_ble_eq_true rfl) rfl rfl rfl rfl rfl ?_
      refine g_val (v' := .int (nI n)) (by rw [hn]) ?_
      refine g_if_neN (tgt := 43) hC dX12_weeks_35 (by decide) (by omega) (fun h_35 => ?_) (fun h_35 => ?_)
      · refine g_iload_n hC dX12_weeks_43 rfl 1 rfl ?_
        refine g_i2l hC dX12_weeks_44 ?_
        refine g_val (v' := .long (lN (wX s 0))) (by rw [nI_l (by omega)]; rfl) ?_
        refine g_lstore_n hC [(3, .long (lN (wX s 0))), (0, .ref (q 0)), (1, .int (nI s)), (2, .int (nI w))] dX12_weeks_45 rfl (by decide) rfl ?_
        refine g_aload_n hC dX12_weeks_46 rfl 1 rfl ?_
        refine g_callV hC (f_X12_layHand (kl K) E q ab be fe fc mo bl ta tl tkn va a g n (hn) (hn7)) wX12_layHand m4_70 dX12_weeks_47 [0, 1, 3] [(q 0, .inr (12, oM q ab be fe fc mo bl ta tl tkn va)), (q 1, .inl (E.2.1 0, 188, .inl a)), (q 4, .inl (E.2.1 0, 3, .inl r)), (q 5, .inl (E.2.1 0, 7, .inl (hnd a g n)))] 0 12 rfl rfl (by decide) rfl (Nat.le_of_ble_eq_true rfl) rfl rfl rfl rfl rfl ?_
        refine g_iconst (v := (nI 0)) hC dX12_weeks_50 (by decide) ?_
        refine g_istore hC [(5, .int (nI 0)), (3, .long (lN (wX s 0))), (0, .ref (q 0)), (1, .int (nI s)), (2, .int (nI w))] dX12_weeks_51 (by decide) rfl ?_
        have L_53 : ∀ (fu : Nat) (k : Nat) (hk : k ≤ w), w - k < fu → G K E 7 [(q 0, .inr (12, oM q ab be fe fc mo bl ta tl tkn va)), (q 1, .inl (E.2.1 0, 188, .inl a)), (q 4, .inl (E.2.1 0, 3, .inl r)), (q 5, .inl (E.2.1 0, 7, .inl (wG a (hnd a g n) n s k)))] [(5, .int (nI k)), (3, .long (lN (wX s k))), (0, .ref (q 0)), (2, .int (nI w))] 53 [] := by
          intro fu
          induction fu with
          | zero => intro k hk hm_53; exact absurd hm_53 (Nat.not_lt_zero _)
          | succ fu ih_53 =>
            intro k hk hm_53
            have hx1 := wX_lt (s := s) (by omega) (k + 1)
            refine g_iload hC dX12_weeks_53 0 rfl ?_
            refine g_iload_n hC dX12_weeks_55 rfl 3 rfl ?_
            refine g_icmp_geN (tgt := 107) hC dX12_weeks_56 (by decide) (by omega) (by omega) (fun h_56 => ?_) (fun h_56 => ?_)
            · refine g_aload_n hC dX12_weeks_107 rfl 2 rfl ?_
              refine g_callV hC (f_X12_ownNow (kl K) E q ab be fe fc mo bl ta tl tkn va a (wG a (hnd a g n) n s k) n (hn) (hn7)) wX12_ownNow m4_159 dX12_weeks_108 [0, 1, 3] [(q 0, .inr (12, oM q ab be fe fc mo bl ta tl tkn va)), (q 1, .inl (E.2.1 0, 188, .inl a)), (q 4, .inl (E.2.1 0, 3, .inl r)), (q 5, .inl (E.2.1 0, 7, .inl (wG a (hnd a g n) n s k)))] 0 12 rfl rfl (by decide) rfl (Nat.le_of_ble_eq_true rfl) rfl rfl rfl rfl rfl ?_
              exact g_val (by rw [show k = w by omega, ow_cong (g := wG a (hnd a g n) n s w) (wG_cong hnd5 w)]) (g_ws (by rw [show k = w by omega]) (hR _ _ dX12_weeks_111))
            · refine g_lload_n hC dX12_weeks_59 rfl 1 rfl ?_
              refine g_ldc2 (v := 1103515245) hC dX12_weeks_60 m4_231 ?_
              refine g_lmul hC dX12_weeks_63 ?_
              refine g_ldc2 (v := 12345) hC dX12_weeks_64 m4_232 ?_
              refine g_ladd hC dX12_weeks_67 ?_
              refine g_ldc2 (v := 2147483648) hC dX12_weeks_68 m4_233 ?_
              refine g_lrem hC dX12_weeks_71 (by decide) ?_
              refine g_val (v' := .long (lN (wX s (k + 1)))) (by rw [wk_next (wX_lt (by omega) k)]; rfl) ?_
              refine g_lstore_n hC [(3, .long (lN (wX s (k + 1)))), (5, .int (nI k)), (0, .ref (q 0)), (2, .int (nI w))] dX12_weeks_72 rfl (by decide) rfl ?_
              refine g_aload_n hC dX12_weeks_73 rfl 2 rfl ?_
              refine g_lload_n hC dX12_weeks_74 rfl 0 rfl ?_
              refine g_ldc2 (v := 65536) hC dX12_weeks_75 m4_234 ?_
              refine g_ldiv hC dX12_weeks_78 (by decide) ?_
              refine g_val (v' := .long (lN (wX s (k + 1) / 65536))) (by rw [← wk_div (c := 65536) hx1 (by decide) (by decide)]; rfl) ?_
              refine g_aload_n hC dX12_weeks_79 rfl 2 rfl ?_
              refine g_callV hC (f_X12_many (kl K) E q ab be fe fc mo bl ta tl tkn va a) wX12_many m4_38 dX12_weeks_80 [0, 1] [(q 0, .inr (12, oM q ab be fe fc mo bl ta tl tkn va)), (q 1, .inl (E.2.1 0, 188, .inl a)), (q 4, .inl (E.2.1 0, 3, .inl r)), (q 5, .inl (E.2.1 0, 7, .inl (wG a (hnd a g n) n s k)))] 0 12 rfl rfl (by decide) rfl (Nat.le_of_ble_eq_true rfl) rfl rfl rfl rfl rfl ?_
              refine g_val (v' := .int (nI n)) (by rw [hn]) ?_
              refine g_i2l hC dX12_weeks_83 ?_
              refine g_val (v' := .long (lN n)) (by rw [nI_l (by omega)]) ?_
              refine g_lrem hC dX12_weeks_84 (lN_ne0 (by omega) hn0) ?_
              refine g_val (v' := .long (lN (wX s (k + 1) / 65536 % n))) (by rw [wk_rem (by omega) hn0 (by omega)]) ?_
              refine g_l2i hC dX12_weeks_85 ?_
              refine g_val (v' := .int (nI (wX s (k + 1) / 65536 % n))) (by rw [lN_i]) ?_
              refine g_lload_n hC dX12_weeks_86 rfl 0 rfl ?_
              refine g_ldc2 (v := 1048576) hC dX12_weeks_87 m4_235 ?_
              refine g_ldiv hC dX12_weeks_90 (by decide) ?_
              refine g_val (v' := .long (lN (wX s (k + 1) / 1048576))) (by rw [← wk_div (c := 1048576) hx1 (by decide) (by decide)]; rfl) ?_
              refine g_ldc2 (v := 10) hC dX12_weeks_91 m4_225 ?_
              refine g_lrem hC dX12_weeks_94 (by decide) ?_
              refine g_val (v' := .long (lN (wX s (k + 1) / 1048576 % 10))) (by rw [← wk_rem (c := 10) (by omega) (by decide) (by decide)]; rfl) ?_
              refine g_l2i hC dX12_weeks_95 ?_
              refine g_val (v' := .int (nI (wX s (k + 1) / 1048576 % 10))) (by rw [lN_i]) ?_
              refine g_callV hC (f_X12_goCall (kl K) E q ab be fe fc mo bl ta tl tkn va a (wG a (hnd a g n) n s k) n (nI (wX s (k + 1) / 65536 % n)) (wX s (k + 1) / 1048576 % 10) (hn) (hn7) (hpk) (by omega)) wX12_goCall m4_74 dX12_weeks_96 [0, 1, 3] [(q 0, .inr (12, oM q ab be fe fc mo bl ta tl tkn va)), (q 1, .inl (E.2.1 0, 188, .inl a)), (q 4, .inl (E.2.1 0, 3, .inl r)), (q 5, .inl (E.2.1 0, 7, .inl (gT (wG a (hnd a g n) n s k) (nI (wX s (k + 1) / 65536 % n)) (tS a (wG a (hnd a g n) n s k) (nI (wX s (k + 1) / 65536 % n)) (wX s (k + 1) / 1048576 % 10) n) n)))] 0 12 rfl rfl (by decide) rfl (Nat.le_of_ble_eq_true rfl) rfl rfl rfl rfl rfl ?_
              refine g_istore hC [(6, .int (nI (tS a (wG a (hnd a g n) n s k) (nI (wX s (k + 1) / 65536 % n)) (wX s (k + 1) / 1048576 % 10) n))), (3, .long (lN (wX s (k + 1)))), (5, .int (nI k)), (0, .ref (q 0)), (2, .int (nI w))] dX12_weeks_99 (by decide) rfl ?_
              refine g_iincN hC (q := 2) 1 [(5, .int (nI (k + 1))), (6, .int (nI (tS a (wG a (hnd a g n) n s k) (nI (wX s (k + 1) / 65536 % n)) (wX s (k + 1) / 1048576 % 10) n))), (3, .long (lN (wX s (k + 1)))), (0, .ref (q 0)), (2, .int (nI w))] dX12_weeks_101 rfl rfl (by decide) rfl ?_
              refine g_goto (tgt := 53) hC dX12_weeks_104 (by decide) ?_
              refine g_lv (lv' := [(5, .int (nI (k + 1))), (3, .long (lN (wX s (k + 1)))), (0, .ref (q 0)), (2, .int (nI w))]) [0, 2, 3, 4] rfl ?_
              refine g_ws (ws' := [(q 0, .inr (12, oM q ab be fe fc mo bl ta tl tkn va)), (q 1, .inl (E.2.1 0, 188, .inl a)), (q 4, .inl (E.2.1 0, 3, .inl r)), (q 5, .inl (E.2.1 0, 7, .inl (wG a (hnd a g n) n s (k + 1))))]) (rfl) ?_
              exact ih_53 (k + 1) (by omega) (by omega)
        refine g_lv (lv' := [(5, .int (nI 0)), (3, .long (lN (wX s 0))), (0, .ref (q 0)), (2, .int (nI w))]) [0, 1, 2, 4] rfl ?_
        refine g_ws (ws' := [(q 0, .inr (12, oM q ab be fe fc mo bl ta tl tkn va)), (q 1, .inl (E.2.1 0, 188, .inl a)), (q 4, .inl (E.2.1 0, 3, .inl r)), (q 5, .inl (E.2.1 0, 7, .inl (wG a (hnd a g n) n s 0)))]) (rfl) ?_
        exact L_53 ((w - 0) + 1) 0 (by omega) (Nat.lt_succ_self _)
      · omega
    · exact Bool.noConfusion ((inB_ok (by omega) (by omega)).symm.trans h_21)
set_option maxHeartbeats 4000000 in
set_option maxRecDepth 100000 in
theorem f_X12_weeks_no (l : Launch) (E : Ew) (q : Nat → Nat) (ab : Int64) (be : Int64) (fe : Int32) (fc : Int32) (mo : Int32) (bl : Int32) (ta : Int32) (tl : Int32) (tkn : Int32) (va : Int32) (a : Nat → Int32) (r : Nat → Int32) (s : Nat) (w : Nat) (hn : a 0 = nI 0) (hs : s < 1000000) (hw : w < 61) : Fn l E 1 yX12_weeks cX12_weeks 7 (some .int) [.ref (q 0), .int (nI s), .int (nI w)] [(q 0, .inr (12, oM q ab be fe fc mo bl ta tl tkn va)), (q 1, .inl (E.2.1 0, 188, .inl a)), (q 4, .inl (E.2.1 0, 3, .inl r))] (some (.int (-3))) [(q 0, .inr (12, oM q ab be fe fc mo bl ta tl tkn va)), (q 1, .inl (E.2.1 0, 188, .inl a)), (q 4, .inl (E.2.1 0, 3, .inl (upd r 1 (r 1 + nI 1))))] := by
  refine fn_I (by decide) (Nat.le_of_ble_eq_true rfl) rfl ?_
  intro K hC hR
  show G K E 7 [(q 0, .inr (12, oM q ab be fe fc mo bl ta tl tkn va)), (q 1, .inl (E.2.1 0, 188, .inl a)), (q 4, .inl (E.2.1 0, 3, .inl r))] [(0, .ref (q 0)), (1, .int (nI s)), (2, .int (nI w))] 0 []
  refine g_iload_n hC dX12_weeks_0 rfl 1 rfl ?_
  refine g_i2l hC dX12_weeks_1 ?_
  refine g_lconst (v := 0) hC dX12_weeks_2 (by decide) ?_
  refine g_ldc2 (v := 999999) hC dX12_weeks_3 m4_230 ?_
  refine g_callS hC (f_X12_in (kl K) E ((nI s).toInt64) 0 999999) wX12_in m4_31 dX12_weeks_6 [] [(q 0, .inr (12, oM q ab be fe fc mo bl ta tl tkn va)), (q 1, .inl (E.2.1 0, 188, .inl a)), (q 4, .inl (E.2.1 0, 3, .inl r))] (by decide) rfl (Nat.le_of_ble_eq_true rfl) rfl rfl rfl rfl rfl ?_
  refine g_val (v' := .int (bI (inB (nI s) 1000000))) (by rw [inlC (n := 1000000) (by decide)]) ?_
  refine g_if_eqB (tgt := 24) hC dX12_weeks_9 (by decide) (fun h_9 => ?_) (fun h_9 => ?_)
  · exact Bool.noConfusion ((inB_ok (by omega) (by omega)).symm.trans h_9)
  · refine g_iload_n hC dX12_weeks_12 rfl 2 rfl ?_
    refine g_i2l hC dX12_weeks_13 ?_
    refine g_lconst (v := 0) hC dX12_weeks_14 (by decide) ?_
    refine g_ldc2 (v := 60) hC dX12_weeks_15 m4_171 ?_
    refine g_callS hC (f_X12_in (kl K) E ((nI w).toInt64) 0 60) wX12_in m4_31 dX12_weeks_18 [] [(q 0, .inr (12, oM q ab be fe fc mo bl ta tl tkn va)), (q 1, .inl (E.2.1 0, 188, .inl a)), (q 4, .inl (E.2.1 0, 3, .inl r))] (by decide) rfl (Nat.le_of_ble_eq_true rfl) rfl rfl rfl rfl rfl ?_
    refine g_val (v' := .int (bI (inB (nI w) 61))) (by rw [inlC (n := 61) (by decide)]) ?_
    refine g_if_neB (tgt := 31) hC dX12_weeks_21 (by decide) (fun h_21 => ?_) (fun h_21 => ?_)
    · refine g_aload_n hC dX12_weeks_31 rfl 0 rfl ?_
      refine g_callV hC (f_X12_many (kl K) E q ab be fe fc mo bl ta tl tkn va a) wX12_many m4_38 dX12_weeks_32 [0, 1] [(q 0, .inr (12, oM q ab be fe fc mo bl ta tl tkn va)), (q 1, .inl (E.2.1 0, 188, .inl a)), (q 4, .inl (E.2.1 0, 3, .inl r))] 0 12 rfl rfl (by decide) rfl (Nat.le_of_ble_eq_true rfl) rfl rfl rfl rfl rfl ?_
      refine g_val (v' := .int (nI 0)) (by rw [hn]) ?_
      refine g_if_neN (tgt := 43) hC dX12_weeks_35 (by decide) (by omega) (fun h_35 => ?_) (fun h_35 => ?_)
      · omega
      · refine g_aload_n hC dX12_weeks_38 rfl 0 rfl ?_
        refine g_callV hC (f_X12_no (kl K) E q ab be fe fc mo bl ta tl tkn va r) wX12_no m4_111 dX12_weeks_39 [0, 2] [(q 0, .inr (12, oM q ab be fe fc mo bl ta tl tkn va)), (q 1, .inl (E.2.1 0, 188, .inl a)), (q 4, .inl (E.2.1 0, 3, .inl (upd r 1 (r 1 + nI 1))))] 0 12 rfl rfl (by decide) rfl (Nat.le_of_ble_eq_true rfl) rfl rfl rfl rfl rfl ?_
        exact g_val (rfl) (g_ws (rfl) (hR _ _ dX12_weeks_42))
    · exact Bool.noConfusion ((inB_ok (by omega) (by omega)).symm.trans h_21)
set_option maxHeartbeats 4000000 in
set_option maxRecDepth 100000 in
theorem f_X12_weeks_bad (l : Launch) (E : Ew) (q : Nat → Nat) (ab : Int64) (be : Int64) (fe : Int32) (fc : Int32) (mo : Int32) (bl : Int32) (ta : Int32) (tl : Int32) (tkn : Int32) (va : Int32) (a : Nat → Int32) (r : Nat → Int32) (s : Int32) (w : Int32) (hb : (inB s 1000000 && inB w 61) = false) : Fn l E 1 yX12_weeks cX12_weeks 7 (some .int) [.ref (q 0), .int s, .int w] [(q 0, .inr (12, oM q ab be fe fc mo bl ta tl tkn va)), (q 1, .inl (E.2.1 0, 188, .inl a)), (q 4, .inl (E.2.1 0, 3, .inl r))] (some (.int (-2))) [(q 0, .inr (12, oM q ab be fe fc mo bl ta tl tkn va)), (q 1, .inl (E.2.1 0, 188, .inl a)), (q 4, .inl (E.2.1 0, 3, .inl (upd r 0 (r 0 + nI 1))))] := by
  refine fn_I (by decide) (Nat.le_of_ble_eq_true rfl) rfl ?_
  intro K hC hR
  show G K E 7 [(q 0, .inr (12, oM q ab be fe fc mo bl ta tl tkn va)), (q 1, .inl (E.2.1 0, 188, .inl a)), (q 4, .inl (E.2.1 0, 3, .inl r))] [(0, .ref (q 0)), (1, .int s), (2, .int w)] 0 []
  refine g_iload_n hC dX12_weeks_0 rfl 1 rfl ?_
  refine g_i2l hC dX12_weeks_1 ?_
  refine g_lconst (v := 0) hC dX12_weeks_2 (by decide) ?_
  refine g_ldc2 (v := 999999) hC dX12_weeks_3 m4_230 ?_
  refine g_callS hC (f_X12_in (kl K) E s.toInt64 0 999999) wX12_in m4_31 dX12_weeks_6 [] [(q 0, .inr (12, oM q ab be fe fc mo bl ta tl tkn va)), (q 1, .inl (E.2.1 0, 188, .inl a)), (q 4, .inl (E.2.1 0, 3, .inl r))] (by decide) rfl (Nat.le_of_ble_eq_true rfl) rfl rfl rfl rfl rfl ?_
  refine g_val (v' := .int (bI (inB s 1000000))) (by rw [inlC (n := 1000000) (by decide)]) ?_
  refine g_if_eqB (tgt := 24) hC dX12_weeks_9 (by decide) (fun h_9 => ?_) (fun h_9 => ?_)
  · refine g_aload_n hC dX12_weeks_24 rfl 0 rfl ?_
    refine g_bipush (v := (-2)) hC dX12_weeks_25 (by decide) ?_
    refine g_callV hC (f_X12_bad (kl K) E q ab be fe fc mo bl ta tl tkn va r (-2)) wX12_bad m4_34 dX12_weeks_27 [0, 2] [(q 0, .inr (12, oM q ab be fe fc mo bl ta tl tkn va)), (q 1, .inl (E.2.1 0, 188, .inl a)), (q 4, .inl (E.2.1 0, 3, .inl (upd r 0 (r 0 + nI 1))))] 0 12 rfl rfl (by decide) rfl (Nat.le_of_ble_eq_true rfl) rfl rfl rfl rfl rfl ?_
    exact g_val (rfl) (g_ws (rfl) (hR _ _ dX12_weeks_30))
  · refine g_iload_n hC dX12_weeks_12 rfl 2 rfl ?_
    refine g_i2l hC dX12_weeks_13 ?_
    refine g_lconst (v := 0) hC dX12_weeks_14 (by decide) ?_
    refine g_ldc2 (v := 60) hC dX12_weeks_15 m4_171 ?_
    refine g_callS hC (f_X12_in (kl K) E w.toInt64 0 60) wX12_in m4_31 dX12_weeks_18 [] [(q 0, .inr (12, oM q ab be fe fc mo bl ta tl tkn va)), (q 1, .inl (E.2.1 0, 188, .inl a)), (q 4, .inl (E.2.1 0, 3, .inl r))] (by decide) rfl (Nat.le_of_ble_eq_true rfl) rfl rfl rfl rfl rfl ?_
    refine g_val (v' := .int (bI (inB w 61))) (by rw [inlC (n := 61) (by decide)]) ?_
    refine g_if_neB (tgt := 31) hC dX12_weeks_21 (by decide) (fun h_21 => ?_) (fun h_21 => ?_)
    · exact absurd hb (by simp [h_9, h_21])
    · refine g_aload_n hC dX12_weeks_24 rfl 0 rfl ?_
      refine g_bipush (v := (-2)) hC dX12_weeks_25 (by decide) ?_
      refine g_callV hC (f_X12_bad (kl K) E q ab be fe fc mo bl ta tl tkn va r (-2)) wX12_bad m4_34 dX12_weeks_27 [0, 2] [(q 0, .inr (12, oM q ab be fe fc mo bl ta tl tkn va)), (q 1, .inl (E.2.1 0, 188, .inl a)), (q 4, .inl (E.2.1 0, 3, .inl (upd r 0 (r 0 + nI 1))))] 0 12 rfl rfl (by decide) rfl (Nat.le_of_ble_eq_true rfl) rfl rfl rfl rfl rfl ?_
      exact g_val (rfl) (g_ws (rfl) (hR _ _ dX12_weeks_30))
