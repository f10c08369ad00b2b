theorem bo_tb (g : Nat → Int32) (x : Int32) {n k : Nat} (h : k < n) : (bo g x n).testBit k = decide (g k = x) := by
  rw [bo, bs_tb]; simp [h]
theorem gT_fin {g : Nat → Int32} {x : Int32} {w n k : Nat} (h : k = n ∨ w = 0) (h2 : w = 0 → k = 0) : gT g x w n = gt g x w k := by
  unfold gT
  by_cases hw : w = 0
  · rw [if_pos hw, h2 hw, gt_0]
  · rw [if_neg hw, show k = n by omega]
theorem fr_lt {a b : Nat} (ha : a < 2147483648) (hb : b < 2147483648) : fr a b < 2147483648 := by
  unfold fr; split <;> omega
set_option maxHeartbeats 4000000 in
set_option maxRecDepth 100000 in
theorem f_X12_turnsAs (l : Launch) (E : Ew) (kd : Nat) (far : Nat) (own : Bool) (nob : Bool) (day : Int32) (hkd : kd < 6) (hfar : far < 2147483648) : Fn l E 0 yX12_turnsAs cX12_turnsAs 6 (some .boolean) [.int (nI kd), .int (nI far), .int (bI own), .int (bI nob), .int day] [] (some (.int (bI (tk kd far own nob (evn day))))) [] := by
  refine fn_Z (by decide) (Nat.le_of_ble_eq_true rfl) rfl (nar_bI _) ?_
  intro K hC hR
  show G K E 6 [] [(0, .int (nI kd)), (1, .int (nI far)), (2, .int (bI own)), (3, .int (bI nob)), (4, .int day)] 0 []
  have J_14 : ∀ (cf : Bool) (hcf : cf = (decide (far ≤ 3) && own)), G K E 6 [] [(0, .int (nI kd)), (1, .int (nI far)), (2, .int (bI own)), (3, .int (bI nob)), (4, .int day)] 14 [.int (bI cf)] := by
    intro cf hcf
    refine g_istore hC [(5, .int (bI cf)), (0, .int (nI kd)), (1, .int (nI far)), (2, .int (bI own)), (3, .int (bI nob)), (4, .int day)] dX12_turnsAs_14 (by decide) rfl ?_
    refine g_iload_n hC dX12_turnsAs_16 rfl 1 rfl ?_
    by_cases hs_1 : kd = 1
    · refine g_val (v' := .int (nI 1)) (by rw [hs_1]) ?_
      refine g_tabIn hC dX12_turnsAs_17 (by decide) (by decide) (off := 35) (by decide) (tgt := 52) (by decide) ?_
      refine g_iload hC dX12_turnsAs_52 0 rfl ?_
      exact g_val (by unfold tk; simp [hs_1, hcf]) (g_ws (rfl) (hR _ _ dX12_turnsAs_54))
    by_cases hs_2 : kd = 2
    · refine g_val (v' := .int (nI 2)) (by rw [hs_2]) ?_
      refine g_tabIn hC dX12_turnsAs_17 (by decide) (by decide) (off := 38) (by decide) (tgt := 55) (by decide) ?_
      refine g_iload_n hC dX12_turnsAs_55 rfl 2 rfl ?_
      refine g_iconst (v := (nI 1)) hC dX12_turnsAs_56 (by decide) ?_
      refine g_icmp_gtN (tgt := 64) hC dX12_turnsAs_57 (by decide) (by omega) (by omega) (fun h_57 => ?_) (fun h_57 => ?_)
      · refine g_iconst (v := (nI 0)) hC dX12_turnsAs_64 (by decide) ?_
        exact g_val (by first | exact bI_1e (by unfold tk; simp [hs_1, hs_2, h_57, evn, ← hcf] <;> (intros; omega)) | exact bI_0e (by unfold tk; simp [hs_1, hs_2, h_57, evn, ← hcf] <;> (intros; omega))) (g_ws (rfl) (hR _ _ dX12_turnsAs_65))
      · refine g_iconst (v := (nI 1)) hC dX12_turnsAs_60 (by decide) ?_
        refine g_goto (tgt := 65) hC dX12_turnsAs_61 (by decide) ?_
        exact g_val (by first | exact bI_1e (by unfold tk; simp [hs_1, hs_2, h_57, evn, ← hcf] <;> (intros; omega)) | exact bI_0e (by unfold tk; simp [hs_1, hs_2, h_57, evn, ← hcf] <;> (intros; omega))) (g_ws (rfl) (hR _ _ dX12_turnsAs_65))
    by_cases hs_3 : kd = 3
    · refine g_val (v' := .int (nI 3)) (by rw [hs_3]) ?_
      refine g_tabIn hC dX12_turnsAs_17 (by decide) (by decide) (off := 49) (by decide) (tgt := 66) (by decide) ?_
      refine g_iload_n hC dX12_turnsAs_66 rfl 2 rfl ?_
      refine g_bipush (v := (nI 6)) hC dX12_turnsAs_67 (by decide) ?_
      refine g_icmp_gtN (tgt := 76) hC dX12_turnsAs_69 (by decide) (by omega) (by omega) (fun h_69 => ?_) (fun h_69 => ?_)
      · refine g_iconst (v := (nI 0)) hC dX12_turnsAs_76 (by decide) ?_
        exact g_val (by first | exact bI_1e (by unfold tk; simp [hs_1, hs_2, hs_3, h_69, evn, ← hcf] <;> (intros; omega)) | exact bI_0e (by unfold tk; simp [hs_1, hs_2, hs_3, h_69, evn, ← hcf] <;> (intros; omega))) (g_ws (rfl) (hR _ _ dX12_turnsAs_77))
      · refine g_iconst (v := (nI 1)) hC dX12_turnsAs_72 (by decide) ?_
        refine g_goto (tgt := 77) hC dX12_turnsAs_73 (by decide) ?_
        exact g_val (by first | exact bI_1e (by unfold tk; simp [hs_1, hs_2, hs_3, h_69, evn, ← hcf] <;> (intros; omega)) | exact bI_0e (by unfold tk; simp [hs_1, hs_2, hs_3, h_69, evn, ← hcf] <;> (intros; omega))) (g_ws (rfl) (hR _ _ dX12_turnsAs_77))
    by_cases hs_4 : kd = 4
    · refine g_val (v' := .int (nI 4)) (by rw [hs_4]) ?_
      refine g_tabIn hC dX12_turnsAs_17 (by decide) (by decide) (off := 61) (by decide) (tgt := 78) (by decide) ?_
      refine g_iload_n hC dX12_turnsAs_78 rfl 2 rfl ?_
      refine g_bipush (v := (nI 6)) hC dX12_turnsAs_79 (by decide) ?_
      refine g_icmp_gtN (tgt := 95) hC dX12_turnsAs_81 (by decide) (by omega) (by omega) (fun h_81 => ?_) (fun h_81 => ?_)
      · refine g_iconst (v := (nI 0)) hC dX12_turnsAs_95 (by decide) ?_
        exact g_val (by first | exact bI_1e (by unfold tk; simp [hs_1, hs_2, hs_3, hs_4, h_81, evn, ← hcf] <;> (intros; omega)) | exact bI_0e (by unfold tk; simp [hs_1, hs_2, hs_3, hs_4, h_81, evn, ← hcf] <;> (intros; omega))) (g_ws (rfl) (hR _ _ dX12_turnsAs_96))
      · refine g_iload hC dX12_turnsAs_84 5 rfl ?_
        refine g_iconst (v := (nI 2)) hC dX12_turnsAs_86 (by decide) ?_
        refine g_irem hC dX12_turnsAs_87 (by decide) ?_
        refine g_val (v' := .int (day - day / 2 * 2)) (rfl) ?_
        refine g_if_ne (tgt := 95) hC dX12_turnsAs_88 (by decide) (fun h_88 => ?_) (fun h_88 => ?_)
        · refine g_iconst (v := (nI 0)) hC dX12_turnsAs_95 (by decide) ?_
          exact g_val (by first | exact bI_1e (by unfold tk; simp [hs_1, hs_2, hs_3, hs_4, h_81, h_88, evn, ← hcf] <;> (intros; omega)) | exact bI_0e (by unfold tk; simp [hs_1, hs_2, hs_3, hs_4, h_81, h_88, evn, ← hcf] <;> (intros; omega))) (g_ws (rfl) (hR _ _ dX12_turnsAs_96))
        · refine g_iconst (v := (nI 1)) hC dX12_turnsAs_91 (by decide) ?_
          refine g_goto (tgt := 96) hC dX12_turnsAs_92 (by decide) ?_
          exact g_val (by first | exact bI_1e (by unfold tk; simp [hs_1, hs_2, hs_3, hs_4, h_81, h_88, evn, ← hcf] <;> (intros; omega)) | exact bI_0e (by unfold tk; simp [hs_1, hs_2, hs_3, hs_4, h_81, h_88, evn, ← hcf] <;> (intros; omega))) (g_ws (rfl) (hR _ _ dX12_turnsAs_96))
    by_cases hs_5 : kd = 5
    · refine g_val (v' := .int (nI 5)) (by rw [hs_5]) ?_
      refine g_tabIn hC dX12_turnsAs_17 (by decide) (by decide) (off := 80) (by decide) (tgt := 97) (by decide) ?_
      refine g_iload hC dX12_turnsAs_97 0 rfl ?_
      refine g_if_neB (tgt := 112) hC dX12_turnsAs_99 (by decide) (fun h_99 => ?_) (fun h_99 => ?_)
      · refine g_iconst (v := (nI 1)) hC dX12_turnsAs_112 (by decide) ?_
        refine g_goto (tgt := 117) hC dX12_turnsAs_113 (by decide) ?_
        exact g_val (by first | exact bI_1e (by unfold tk; simp [hs_1, hs_2, hs_3, hs_4, hs_5, h_99, evn, ← hcf] <;> (intros; omega)) | exact bI_0e (by unfold tk; simp [hs_1, hs_2, hs_3, hs_4, hs_5, h_99, evn, ← hcf] <;> (intros; omega))) (g_ws (rfl) (hR _ _ dX12_turnsAs_117))
      · refine g_iload_n hC dX12_turnsAs_102 rfl 4 rfl ?_
        refine g_if_eqB (tgt := 116) hC dX12_turnsAs_103 (by decide) (fun h_103 => ?_) (fun h_103 => ?_)
        · refine g_iconst (v := (nI 0)) hC dX12_turnsAs_116 (by decide) ?_
          exact g_val (by first | exact bI_1e (by unfold tk; simp [hs_1, hs_2, hs_3, hs_4, hs_5, h_99, h_103, evn, ← hcf] <;> (intros; omega)) | exact bI_0e (by unfold tk; simp [hs_1, hs_2, hs_3, hs_4, hs_5, h_99, h_103, evn, ← hcf] <;> (intros; omega))) (g_ws (rfl) (hR _ _ dX12_turnsAs_117))
        · refine g_iload_n hC dX12_turnsAs_106 rfl 2 rfl ?_
          refine g_bipush (v := (nI 6)) hC dX12_turnsAs_107 (by decide) ?_
          refine g_icmp_gtN (tgt := 116) hC dX12_turnsAs_109 (by decide) (by omega) (by omega) (fun h_109 => ?_) (fun h_109 => ?_)
          · refine g_iconst (v := (nI 0)) hC dX12_turnsAs_116 (by decide) ?_
            exact g_val (by first | exact bI_1e (by unfold tk; simp [hs_1, hs_2, hs_3, hs_4, hs_5, h_99, h_103, h_109, evn, ← hcf] <;> (intros; omega)) | exact bI_0e (by unfold tk; simp [hs_1, hs_2, hs_3, hs_4, hs_5, h_99, h_103, h_109, evn, ← hcf] <;> (intros; omega))) (g_ws (rfl) (hR _ _ dX12_turnsAs_117))
          · refine g_iconst (v := (nI 1)) hC dX12_turnsAs_112 (by decide) ?_
            refine g_goto (tgt := 117) hC dX12_turnsAs_113 (by decide) ?_
            exact g_val (by first | exact bI_1e (by unfold tk; simp [hs_1, hs_2, hs_3, hs_4, hs_5, h_99, h_103, h_109, evn, ← hcf] <;> (intros; omega)) | exact bI_0e (by unfold tk; simp [hs_1, hs_2, hs_3, hs_4, hs_5, h_99, h_103, h_109, evn, ← hcf] <;> (intros; omega))) (g_ws (rfl) (hR _ _ dX12_turnsAs_117))
    refine g_tabOut hC dX12_turnsAs_17 (tab_out (lo := 1) (hi := 5) (by omega) (by omega)) (tgt := 118) (by decide) ?_
    refine g_iload_n hC dX12_turnsAs_118 rfl 2 rfl ?_
    refine g_iconst (v := (nI 3)) hC dX12_turnsAs_119 (by decide) ?_
    refine g_icmp_gtN (tgt := 127) hC dX12_turnsAs_120 (by decide) (by omega) (by omega) (fun h_120 => ?_) (fun h_120 => ?_)
    · refine g_iconst (v := (nI 0)) hC dX12_turnsAs_127 (by decide) ?_
      exact g_val (by first | exact bI_1e (by unfold tk; simp [hs_1, hs_2, hs_3, hs_4, hs_5, h_120, evn, ← hcf] <;> (intros; omega)) | exact bI_0e (by unfold tk; simp [hs_1, hs_2, hs_3, hs_4, hs_5, h_120, evn, ← hcf] <;> (intros; omega))) (g_ws (rfl) (hR _ _ dX12_turnsAs_128))
    · refine g_iconst (v := (nI 1)) hC dX12_turnsAs_123 (by decide) ?_
      refine g_goto (tgt := 128) hC dX12_turnsAs_124 (by decide) ?_
      exact g_val (by first | exact bI_1e (by unfold tk; simp [hs_1, hs_2, hs_3, hs_4, hs_5, h_120, evn, ← hcf] <;> (intros; omega)) | exact bI_0e (by unfold tk; simp [hs_1, hs_2, hs_3, hs_4, hs_5, h_120, evn, ← hcf] <;> (intros; omega))) (g_ws (rfl) (hR _ _ dX12_turnsAs_128))
  refine g_iload_n hC dX12_turnsAs_0 rfl 1 rfl ?_
  refine g_iconst (v := (nI 3)) hC dX12_turnsAs_1 (by decide) ?_
  refine g_icmp_gtN (tgt := 13) hC dX12_turnsAs_2 (by decide) (by omega) (by omega) (fun h_2 => ?_) (fun h_2 => ?_)
  · refine g_iconst (v := (nI 0)) hC dX12_turnsAs_13 (by decide) ?_
    refine g_lv (lv' := [(0, .int (nI kd)), (1, .int (nI far)), (2, .int (bI own)), (3, .int (bI nob)), (4, .int day)]) [0, 1, 2, 3, 4] rfl ?_
    exact J_14 false (by simp [h_2]; try omega)
  · refine g_iload_n hC dX12_turnsAs_5 rfl 2 rfl ?_
    refine g_if_eqB (tgt := 13) hC dX12_turnsAs_6 (by decide) (fun h_6 => ?_) (fun h_6 => ?_)
    · refine g_iconst (v := (nI 0)) hC dX12_turnsAs_13 (by decide) ?_
      refine g_lv (lv' := [(0, .int (nI kd)), (1, .int (nI far)), (2, .int (bI own)), (3, .int (bI nob)), (4, .int day)]) [0, 1, 2, 3, 4] rfl ?_
      exact J_14 false (by simp [h_2, h_6]; try omega)
    · refine g_iconst (v := (nI 1)) hC dX12_turnsAs_9 (by decide) ?_
      refine g_goto (tgt := 14) hC dX12_turnsAs_10 (by decide) ?_
      refine g_lv (lv' := [(0, .int (nI kd)), (1, .int (nI far)), (2, .int (bI own)), (3, .int (bI nob)), (4, .int day)]) [0, 1, 2, 3, 4] rfl ?_
      exact J_14 true (by simp [h_2, h_6]; try omega)
set_option maxHeartbeats 4000000 in
set_option maxRecDepth 100000 in
theorem f_X12_layHand (l : Launch) (E : Ew) (q : Nat → Nat) (ab : Int64) (be : Int64) (fe : Int32) (fc : Int32) (mo : Int32) (bl : Int32) (ta : Int32) (tl : Int32) (tkn : Int32) (va : Int32) (a : Nat → Int32) (g : Nat → Int32) (n : Nat) (hn : a 0 = nI n) (hn7 : n ≤ 7) : Fn l E 1 yX12_layHand cX12_layHand 2 none [.ref (q 0)] [(q 0, .inr (12, oM q ab be fe fc mo bl ta tl tkn va)), (q 1, .inl (E.2.1 0, 188, .inl a)), (q 5, .inl (E.2.1 0, 7, .inl g))] none [(q 0, .inr (12, oM q ab be fe fc mo bl ta tl tkn va)), (q 1, .inl (E.2.1 0, 188, .inl a)), (q 5, .inl (E.2.1 0, 7, .inl (hnd a g n)))] := by
  refine fn_V (by decide) (Nat.le_of_ble_eq_true rfl) rfl ?_
  intro K hC hR
  show G K E 2 [(q 0, .inr (12, oM q ab be fe fc mo bl ta tl tkn va)), (q 1, .inl (E.2.1 0, 188, .inl a)), (q 5, .inl (E.2.1 0, 7, .inl g))] [(0, .ref (q 0))] 0 []
  refine g_iconst (v := (nI 0)) hC dX12_layHand_0 (by decide) ?_
  refine g_istore_n hC [(1, .int (nI 0)), (0, .ref (q 0))] dX12_layHand_1 rfl (by decide) rfl ?_
  have L_2 : ∀ (fu : Nat) (k : Nat) (hk : k ≤ n), n - k < fu → G K E 2 [(q 0, .inr (12, oM q ab be fe fc mo bl ta tl tkn va)), (q 1, .inl (E.2.1 0, 188, .inl a)), (q 5, .inl (E.2.1 0, 7, .inl (hnd a g k)))] [(1, .int (nI k)), (0, .ref (q 0))] 2 [] := by
    intro fu
    induction fu with
    | zero => intro k hk hm_2; exact absurd hm_2 (Nat.not_lt_zero _)
    | succ fu ih_2 =>
      intro k hk hm_2
      refine g_iload_n hC dX12_layHand_2 rfl 0 rfl ?_
      refine g_aload_n hC dX12_layHand_3 rfl 1 rfl ?_
      refine g_callV hC (f_X12_many (kl K) E q ab be fe fc mo bl ta tl tkn va a) wX12_many m4_38 dX12_layHand_4 [0, 1] [(q 0, .inr (12, oM q ab be fe fc mo bl ta tl tkn va)), (q 1, .inl (E.2.1 0, 188, .inl a)), (q 5, .inl (E.2.1 0, 7, .inl (hnd a g k)))] 0 12 rfl rfl (by decide) rfl (Nat.le_of_ble_eq_true rfl) rfl rfl rfl rfl rfl ?_
      refine g_val (v' := .int (nI n)) (by rw [hn]) ?_
      refine g_icmp_geN (tgt := 30) hC dX12_layHand_7 (by decide) (by omega) (by omega) (fun h_7 => ?_) (fun h_7 => ?_)
      · exact g_ws (by rw [show k = n by omega]) (hR _ _ dX12_layHand_30)
      · refine g_aload_n hC dX12_layHand_10 rfl 1 rfl ?_
        refine g_get hC 0 12 6 inX12 m3_214 dX12_layHand_11 rfl rfl (by decide) rfl ?_
        refine g_iload_n hC dX12_layHand_14 rfl 0 rfl ?_
        refine g_aload_n hC dX12_layHand_15 rfl 1 rfl ?_
        refine g_get hC 0 12 0 inX12 m3_208 dX12_layHand_16 rfl rfl (by decide) rfl ?_
        refine g_iconst (v := (nI 5)) hC dX12_layHand_19 (by decide) ?_
        refine g_iload_n hC dX12_layHand_20 rfl 0 rfl ?_
        refine g_iaddN hC dX12_layHand_21 ?_
        refine g_ialdN hC 1 dX12_layHand_22 rfl (by decide) (by omega) ?_
        refine g_iastN hC 2 [(q 0, .inr (12, oM q ab be fe fc mo bl ta tl tkn va)), (q 1, .inl (E.2.1 0, 188, .inl a)), (q 5, .inl (E.2.1 0, 7, .inl (upd (hnd a g k) k (a (5 + k)))))] dX12_layHand_23 rfl (by decide) (by omega) rfl ?_
        refine g_iincN hC (q := 0) 1 [(1, .int (nI (k + 1))), (0, .ref (q 0))] dX12_layHand_24 rfl rfl (by decide) rfl ?_
        refine g_goto (tgt := 2) hC dX12_layHand_27 (by decide) ?_
        refine g_lv (lv' := [(1, .int (nI (k + 1))), (0, .ref (q 0))]) [0, 1] rfl ?_
        refine g_ws (ws' := [(q 0, .inr (12, oM q ab be fe fc mo bl ta tl tkn va)), (q 1, .inl (E.2.1 0, 188, .inl a)), (q 5, .inl (E.2.1 0, 7, .inl (hnd a g (k + 1))))]) (by rw [hnd_s]) ?_
        exact ih_2 (k + 1) (by omega) (by omega)
  refine g_lv (lv' := [(1, .int (nI 0)), (0, .ref (q 0))]) [0, 1] rfl ?_
  refine g_ws (ws' := [(q 0, .inr (12, oM q ab be fe fc mo bl ta tl tkn va)), (q 1, .inl (E.2.1 0, 188, .inl a)), (q 5, .inl (E.2.1 0, 7, .inl (hnd a g 0)))]) (by rw [hnd_0]) ?_
  exact L_2 ((n - 0) + 1) 0 (by omega) (Nat.lt_succ_self _)
set_option maxHeartbeats 4000000 in
set_option maxRecDepth 100000 in
theorem f_X12_bearersOf (l : Launch) (E : Ew) (q : Nat → Nat) (ab : Int64) (be : Int64) (fe : Int32) (fc : Int32) (mo : Int32) (bl : Int32) (ta : Int32) (tl : Int32) (tkn : Int32) (va : Int32) (a : Nat → Int32) (g : Nat → Int32) (n : Nat) (x : Int32) (hn : a 0 = nI n) (hn7 : n ≤ 7) : Fn l E 1 yX12_bearersOf cX12_bearersOf 4 (some .int) [.ref (q 0), .int x] [(q 0, .inr (12, oM q ab be fe fc mo bl ta tl tkn va)), (q 1, .inl (E.2.1 0, 188, .inl a)), (q 5, .inl (E.2.1 0, 7, .inl g))] (some (.int (nI (bo g x n)))) [(q 0, .inr (12, oM q ab be fe fc mo bl ta tl tkn va)), (q 1, .inl (E.2.1 0, 188, .inl a)), (q 5, .inl (E.2.1 0, 7, .inl g))] := by
  refine fn_I (by decide) (Nat.le_of_ble_eq_true rfl) rfl ?_
  intro K hC hR
  show G K E 4 [(q 0, .inr (12, oM q ab be fe fc mo bl ta tl tkn va)), (q 1, .inl (E.2.1 0, 188, .inl a)), (q 5, .inl (E.2.1 0, 7, .inl g))] [(0, .ref (q 0)), (1, .int x)] 0 []
  refine g_iconst (v := (nI 0)) hC dX12_bearersOf_0 (by decide) ?_
  refine g_istore_n hC [(2, .int (nI 0)), (0, .ref (q 0)), (1, .int x)] dX12_bearersOf_1 rfl (by decide) rfl ?_
  refine g_iconst (v := (nI 0)) hC dX12_bearersOf_2 (by decide) ?_
  refine g_istore_n hC [(3, .int (nI 0)), (2, .int (nI 0)), (0, .ref (q 0)), (1, .int x)] dX12_bearersOf_3 rfl (by decide) rfl ?_
  have L_4 : ∀ (fu : Nat) (k : Nat) (hk : k ≤ n), n - k < fu → G K E 4 [(q 0, .inr (12, oM q ab be fe fc mo bl ta tl tkn va)), (q 1, .inl (E.2.1 0, 188, .inl a)), (q 5, .inl (E.2.1 0, 7, .inl g))] [(3, .int (nI k)), (2, .int (nI (bs (fun p => decide (g p = x)) k))), (0, .ref (q 0)), (1, .int x)] 4 [] := by
    intro fu
    induction fu with
    | zero => intro k hk hm_4; exact absurd hm_4 (Nat.not_lt_zero _)
    | succ fu ih_4 =>
      intro k hk hm_4
      refine g_iload_n hC dX12_bearersOf_4 rfl 0 rfl ?_
      refine g_aload_n hC dX12_bearersOf_5 rfl 2 rfl ?_
      refine g_callV hC (f_X12_many (kl K) E q ab be fe fc mo bl ta tl tkn va a) wX12_many m4_38 dX12_bearersOf_6 [0, 1] [(q 0, .inr (12, oM q ab be fe fc mo bl ta tl tkn va)), (q 1, .inl (E.2.1 0, 188, .inl a)), (q 5, .inl (E.2.1 0, 7, .inl g))] 0 12 rfl rfl (by decide) rfl (Nat.le_of_ble_eq_true rfl) rfl rfl rfl rfl rfl ?_
      refine g_val (v' := .int (nI n)) (by rw [hn]) ?_
      refine g_icmp_geN (tgt := 38) hC dX12_bearersOf_9 (by decide) (by omega) (by omega) (fun h_9 => ?_) (fun h_9 => ?_)
      · refine g_iload_n hC dX12_bearersOf_38 rfl 1 rfl ?_
        exact g_val (by rw [show k = n by omega]; rfl) (g_ws (rfl) (hR _ _ dX12_bearersOf_39))
      · refine g_iload_n hC dX12_bearersOf_12 rfl 1 rfl ?_
        refine g_aload_n hC dX12_bearersOf_13 rfl 2 rfl ?_
        refine g_get hC 0 12 6 inX12 m3_214 dX12_bearersOf_14 rfl rfl (by decide) rfl ?_
        refine g_iload_n hC dX12_bearersOf_17 rfl 0 rfl ?_
        refine g_ialdN hC 2 dX12_bearersOf_18 rfl (by decide) (by omega) ?_
        refine g_iload_n hC dX12_bearersOf_19 rfl 3 rfl ?_
        refine g_icmp_ne (tgt := 29) hC dX12_bearersOf_20 (by decide) (fun h_20 => ?_) (fun h_20 => ?_)
        · refine g_iconst (v := (nI 0)) hC dX12_bearersOf_29 (by decide) ?_
          refine g_ior hC dX12_bearersOf_30 ?_
          refine g_val (v' := .int (nI (bs (fun p => decide (g p = x)) (k + 1)))) (by rw [bs_no (by simp [h_20])]) ?_
          refine g_istore_n hC [(2, .int (nI (bs (fun p => decide (g p = x)) (k + 1)))), (3, .int (nI k)), (0, .ref (q 0)), (1, .int x)] dX12_bearersOf_31 rfl (by decide) rfl ?_
          refine g_iincN hC (q := 1) 1 [(3, .int (nI (k + 1))), (2, .int (nI (bs (fun p => decide (g p = x)) (k + 1)))), (0, .ref (q 0)), (1, .int x)] dX12_bearersOf_32 rfl rfl (by decide) rfl ?_
          refine g_goto (tgt := 4) hC dX12_bearersOf_35 (by decide) ?_
          refine g_lv (lv' := [(3, .int (nI (k + 1))), (2, .int (nI (bs (fun p => decide (g p = x)) (k + 1)))), (0, .ref (q 0)), (1, .int x)]) [0, 1, 2, 3] rfl ?_
          exact ih_4 (k + 1) (by omega) (by omega)
        · refine g_iconst (v := (nI 1)) hC dX12_bearersOf_23 (by decide) ?_
          refine g_iload_n hC dX12_bearersOf_24 rfl 0 rfl ?_
          refine g_ishl hC dX12_bearersOf_25 ?_
          refine g_goto (tgt := 30) hC dX12_bearersOf_26 (by decide) ?_
          refine g_ior hC dX12_bearersOf_30 ?_
          refine g_val (v' := .int (nI (bs (fun p => decide (g p = x)) (k + 1)))) (by rw [bs_yes (by omega) (by simp [h_20])]) ?_
          refine g_istore_n hC [(2, .int (nI (bs (fun p => decide (g p = x)) (k + 1)))), (3, .int (nI k)), (0, .ref (q 0)), (1, .int x)] dX12_bearersOf_31 rfl (by decide) rfl ?_
          refine g_iincN hC (q := 1) 1 [(3, .int (nI (k + 1))), (2, .int (nI (bs (fun p => decide (g p = x)) (k + 1)))), (0, .ref (q 0)), (1, .int x)] dX12_bearersOf_32 rfl rfl (by decide) rfl ?_
          refine g_goto (tgt := 4) hC dX12_bearersOf_35 (by decide) ?_
          refine g_lv (lv' := [(3, .int (nI (k + 1))), (2, .int (nI (bs (fun p => decide (g p = x)) (k + 1)))), (0, .ref (q 0)), (1, .int x)]) [0, 1, 2, 3] rfl ?_
          exact ih_4 (k + 1) (by omega) (by omega)
  refine g_lv (lv' := [(3, .int (nI 0)), (2, .int (nI 0)), (0, .ref (q 0)), (1, .int x)]) [0, 1, 2, 3] rfl ?_
  refine g_lve (lv' := [(3, .int (nI 0)), (2, .int (nI (bs (fun p => decide (g p = x)) 0))), (0, .ref (q 0)), (1, .int x)]) (rfl) ?_
  exact L_4 ((n - 0) + 1) 0 (by omega) (Nat.lt_succ_self _)
set_option maxHeartbeats 4000000 in
set_option maxRecDepth 100000 in
theorem f_X12_turning (l : Launch) (E : Ew) (q : Nat → Nat) (ab : Int64) (be : Int64) (fe : Int32) (fc : Int32) (mo : Int32) (bl : Int32) (ta : Int32) (tl : Int32) (tkn : Int32) (va : Int32) (a : Nat → Int32) (g : Nat → Int32) (n : Nat) (x : Int32) (pl : Nat) (hn : a 0 = nI n) (hn7 : n ≤ 7) (hpk : ∀ p, p < n → isN (a (12 + p)) 10 ∧ isN (a (19 + p)) 6) (hpl : pl < 10) : Fn l E 2 yX12_turning cX12_turning 7 (some .int) [.ref (q 0), .int x, .int (nI pl)] [(q 0, .inr (12, oM q ab be fe fc mo bl ta tl tkn va)), (q 1, .inl (E.2.1 0, 188, .inl a)), (q 5, .inl (E.2.1 0, 7, .inl g))] (some (.int (nI (tS a g x pl n)))) [(q 0, .inr (12, oM q ab be fe fc mo bl ta tl tkn va)), (q 1, .inl (E.2.1 0, 188, .inl a)), (q 5, .inl (E.2.1 0, 7, .inl g))] := by
  refine fn_I (by decide) (Nat.le_of_ble_eq_true rfl) rfl ?_
  intro K hC hR
  show G K E 7 [(q 0, .inr (12, oM q ab be fe fc mo bl ta tl tkn va)), (q 1, .inl (E.2.1 0, 188, .inl a)), (q 5, .inl (E.2.1 0, 7, .inl g))] [(0, .ref (q 0)), (1, .int x), (2, .int (nI pl))] 0 []
  refine g_aload_n hC dX12_turning_0 rfl 0 rfl ?_
  refine g_iload_n hC dX12_turning_1 rfl 1 rfl ?_
  refine g_callV hC (f_X12_bearersOf (kl K) E q ab be fe fc mo bl ta tl tkn va a g n x (hn) (hn7)) wX12_bearersOf m4_82 dX12_turning_2 [0, 1, 2] [(q 0, .inr (12, oM q ab be fe fc mo bl ta tl tkn va)), (q 1, .inl (E.2.1 0, 188, .inl a)), (q 5, .inl (E.2.1 0, 7, .inl g))] 0 12 rfl rfl (by decide) rfl (Nat.le_of_ble_eq_true rfl) rfl rfl rfl rfl rfl ?_
  refine g_istore_n hC [(3, .int (nI (bo g x n))), (0, .ref (q 0)), (1, .int x), (2, .int (nI pl))] dX12_turning_5 rfl (by decide) rfl ?_
  refine g_iconst (v := (nI 0)) hC dX12_turning_6 (by decide) ?_
  refine g_istore hC [(4, .int (nI 0)), (3, .int (nI (bo g x n))), (0, .ref (q 0)), (1, .int x), (2, .int (nI pl))] dX12_turning_7 (by decide) rfl ?_
  refine g_iconst (v := (nI 0)) hC dX12_turning_9 (by decide) ?_
  refine g_istore hC [(5, .int (nI 0)), (4, .int (nI 0)), (3, .int (nI (bo g x n))), (0, .ref (q 0)), (1, .int x), (2, .int (nI pl))] dX12_turning_10 (by decide) rfl ?_
  have L_12 : ∀ (fu : Nat) (k : Nat) (hk : k ≤ n), n - k < fu → G K E 7 [(q 0, .inr (12, oM q ab be fe fc mo bl ta tl tkn va)), (q 1, .inl (E.2.1 0, 188, .inl a)), (q 5, .inl (E.2.1 0, 7, .inl g))] [(5, .int (nI k)), (4, .int (nI (bs (tB a g x pl n) k))), (3, .int (nI (bo g x n))), (0, .ref (q 0)), (1, .int x), (2, .int (nI pl))] 12 [] := by
    intro fu
    induction fu with
    | zero => intro k hk hm_12; exact absurd hm_12 (Nat.not_lt_zero _)
    | succ fu ih_12 =>
      intro k hk hm_12
      have hbo : bo g x n < 2147483648 := bs_lt' _ (m := 31) (by omega)
      refine g_iload hC dX12_turning_12 0 rfl ?_
      refine g_aload_n hC dX12_turning_14 rfl 3 rfl ?_
      refine g_callV hC (f_X12_many (kl K) E q ab be fe fc mo bl ta tl tkn va a) wX12_many m4_38 dX12_turning_15 [0, 1] [(q 0, .inr (12, oM q ab be fe fc mo bl ta tl tkn va)), (q 1, .inl (E.2.1 0, 188, .inl a)), (q 5, .inl (E.2.1 0, 7, .inl g))] 0 12 rfl rfl (by decide) rfl (Nat.le_of_ble_eq_true rfl) rfl rfl rfl rfl rfl ?_
      refine g_val (v' := .int (nI n)) (by rw [hn]) ?_
      refine g_icmp_geN (tgt := 95) hC dX12_turning_18 (by decide) (by omega) (by omega) (fun h_18 => ?_) (fun h_18 => ?_)
      · refine g_iload hC dX12_turning_95 1 rfl ?_
        exact g_val (by rw [show k = n by omega]; rfl) (g_ws (rfl) (hR _ _ dX12_turning_97))
      · refine g_aload_n hC dX12_turning_21 rfl 3 rfl ?_
        refine g_get hC 0 12 0 inX12 m3_208 dX12_turning_22 rfl rfl (by decide) rfl ?_
        refine g_bipush (v := (nI 19)) hC dX12_turning_25 (by decide) ?_
        refine g_iload hC dX12_turning_27 0 rfl ?_
        refine g_iaddN hC dX12_turning_29 ?_
        refine g_ialdN hC 1 dX12_turning_30 rfl (by decide) (by omega) ?_
        refine g_val (v' := .int (nI (tn (a (19 + k))))) (by rw [← (hpk k (by omega)).2.1]) ?_
        refine g_aload_n hC dX12_turning_31 rfl 3 rfl ?_
        refine g_get hC 0 12 0 inX12 m3_208 dX12_turning_32 rfl rfl (by decide) rfl ?_
        refine g_bipush (v := (nI 12)) hC dX12_turning_35 (by decide) ?_
        refine g_iload hC dX12_turning_37 0 rfl ?_
        refine g_iaddN hC dX12_turning_39 ?_
        refine g_ialdN hC 1 dX12_turning_40 rfl (by decide) (by omega) ?_
        refine g_val (v' := .int (nI (tn (a (12 + k))))) (by rw [← (hpk k (by omega)).1.1]) ?_
        refine g_iload_n hC dX12_turning_41 rfl 5 rfl ?_
        refine g_callS hC (f_X12_farOf (kl K) E (tn (a (12 + k))) pl (Nat.lt_of_lt_of_le (hpk k (by omega)).1.2 (by decide)) (by omega)) wX12_farOf m4_86 dX12_turning_42 [] [(q 0, .inr (12, oM q ab be fe fc mo bl ta tl tkn va)), (q 1, .inl (E.2.1 0, 188, .inl a)), (q 5, .inl (E.2.1 0, 7, .inl g))] (by decide) rfl (Nat.le_of_ble_eq_true rfl) rfl rfl rfl rfl rfl ?_
        refine g_iload_n hC dX12_turning_45 rfl 2 rfl ?_
        refine g_iload hC dX12_turning_46 0 rfl ?_
        refine g_callS hC (f_X12_has (kl K) E (bo g x n) k (hbo) (by omega)) wX12_has m4_89 dX12_turning_48 [] [(q 0, .inr (12, oM q ab be fe fc mo bl ta tl tkn va)), (q 1, .inl (E.2.1 0, 188, .inl a)), (q 5, .inl (E.2.1 0, 7, .inl g))] (by decide) rfl (Nat.le_of_ble_eq_true rfl) rfl rfl rfl rfl rfl ?_
        refine g_iload_n hC dX12_turning_51 rfl 2 rfl ?_
        refine g_if_neN (tgt := 59) hC dX12_turning_52 (by decide) (by omega) (fun h_52 => ?_) (fun h_52 => ?_)
        · refine g_iconst (v := (nI 0)) hC dX12_turning_59 (by decide) ?_
          refine g_aload_n hC dX12_turning_60 rfl 3 rfl ?_
          refine g_get hC 0 12 0 inX12 m3_208 dX12_turning_61 rfl rfl (by decide) rfl ?_
          refine g_iconst (v := (nI 1)) hC dX12_turning_64 (by decide) ?_
          refine g_ialdN hC 1 dX12_turning_65 rfl (by decide) (by omega) ?_
          refine g_callS hC (f_X12_turnsAs (kl K) E (tn (a (19 + k))) (fr (tn (a (12 + k))) pl) ((bo g x n).testBit k) false (a 1) ((hpk k (by omega)).2.2) (fr_lt (Nat.lt_of_lt_of_le (hpk k (by omega)).1.2 (by decide)) (by omega))) wX12_turnsAs m4_92 dX12_turning_66 [] [(q 0, .inr (12, oM q ab be fe fc mo bl ta tl tkn va)), (q 1, .inl (E.2.1 0, 188, .inl a)), (q 5, .inl (E.2.1 0, 7, .inl g))] (by decide) rfl (Nat.le_of_ble_eq_true rfl) rfl rfl rfl rfl rfl ?_
          refine g_istore hC [(6, .int (bI (tk (tn (a (19 + k))) (fr (tn (a (12 + k))) pl) ((bo g x n).testBit k) false (evn (a 1))))), (5, .int (nI k)), (4, .int (nI (bs (tB a g x pl n) k))), (3, .int (nI (bo g x n))), (0, .ref (q 0)), (1, .int x), (2, .int (nI pl))] dX12_turning_69 (by decide) rfl ?_
          refine g_iload hC dX12_turning_71 2 rfl ?_
          refine g_iload hC dX12_turning_73 0 rfl ?_
          refine g_if_eqB (tgt := 85) hC dX12_turning_75 (by decide) (fun h_75 => ?_) (fun h_75 => ?_)
          · have hb : tB a g x pl n k = false := by rw [← h_75, bo_tb g x h_18]; simp [tB, h_52]
            refine g_iconst (v := (nI 0)) hC dX12_turning_85 (by decide) ?_
            refine g_ior hC dX12_turning_86 ?_
            refine g_val (v' := .int (nI (bs (tB a g x pl n) (k + 1)))) (by rw [bs_no hb]) ?_
            refine g_istore hC [(4, .int (nI (bs (tB a g x pl n) (k + 1)))), (6, .int (bI (tk (tn (a (19 + k))) (fr (tn (a (12 + k))) pl) ((bo g x n).testBit k) false (evn (a 1))))), (5, .int (nI k)), (3, .int (nI (bo g x n))), (0, .ref (q 0)), (1, .int x), (2, .int (nI pl))] dX12_turning_87 (by decide) rfl ?_
            refine g_iincN hC (q := 2) 1 [(5, .int (nI (k + 1))), (4, .int (nI (bs (tB a g x pl n) (k + 1)))), (6, .int (bI (tk (tn (a (19 + k))) (fr (tn (a (12 + k))) pl) ((bo g x n).testBit k) false (evn (a 1))))), (3, .int (nI (bo g x n))), (0, .ref (q 0)), (1, .int x), (2, .int (nI pl))] dX12_turning_89 rfl rfl (by decide) rfl ?_
            refine g_goto (tgt := 12) hC dX12_turning_92 (by decide) ?_
            refine g_lv (lv' := [(5, .int (nI (k + 1))), (4, .int (nI (bs (tB a g x pl n) (k + 1)))), (3, .int (nI (bo g x n))), (0, .ref (q 0)), (1, .int x), (2, .int (nI pl))]) [0, 1, 3, 4, 5, 6] rfl ?_
            exact ih_12 (k + 1) (by omega) (by omega)
          · have hb : tB a g x pl n k = true := by rw [← h_75, bo_tb g x h_18]; simp [tB, h_52]
            refine g_iconst (v := (nI 1)) hC dX12_turning_78 (by decide) ?_
            refine g_iload hC dX12_turning_79 1 rfl ?_
            refine g_ishl hC dX12_turning_81 ?_
            refine g_goto (tgt := 86) hC dX12_turning_82 (by decide) ?_
            refine g_ior hC dX12_turning_86 ?_
            refine g_val (v' := .int (nI (bs (tB a g x pl n) (k + 1)))) (by rw [bs_yes (by omega) hb]) ?_
            refine g_istore hC [(4, .int (nI (bs (tB a g x pl n) (k + 1)))), (6, .int (bI (tk (tn (a (19 + k))) (fr (tn (a (12 + k))) pl) ((bo g x n).testBit k) false (evn (a 1))))), (5, .int (nI k)), (3, .int (nI (bo g x n))), (0, .ref (q 0)), (1, .int x), (2, .int (nI pl))] dX12_turning_87 (by decide) rfl ?_
            refine g_iincN hC (q := 2) 1 [(5, .int (nI (k + 1))), (4, .int (nI (bs (tB a g x pl n) (k + 1)))), (6, .int (bI (tk (tn (a (19 + k))) (fr (tn (a (12 + k))) pl) ((bo g x n).testBit k) false (evn (a 1))))), (3, .int (nI (bo g x n))), (0, .ref (q 0)), (1, .int x), (2, .int (nI pl))] dX12_turning_89 rfl rfl (by decide) rfl ?_
            refine g_goto (tgt := 12) hC dX12_turning_92 (by decide) ?_
            refine g_lv (lv' := [(5, .int (nI (k + 1))), (4, .int (nI (bs (tB a g x pl n) (k + 1)))), (3, .int (nI (bo g x n))), (0, .ref (q 0)), (1, .int x), (2, .int (nI pl))]) [0, 1, 3, 4, 5, 6] rfl ?_
            exact ih_12 (k + 1) (by omega) (by omega)
        · refine g_iconst (v := (nI 1)) hC dX12_turning_55 (by decide) ?_
          refine g_goto (tgt := 60) hC dX12_turning_56 (by decide) ?_
          refine g_aload_n hC dX12_turning_60 rfl 3 rfl ?_
          refine g_get hC 0 12 0 inX12 m3_208 dX12_turning_61 rfl rfl (by decide) rfl ?_
          refine g_iconst (v := (nI 1)) hC dX12_turning_64 (by decide) ?_
          refine g_ialdN hC 1 dX12_turning_65 rfl (by decide) (by omega) ?_
          refine g_callS hC (f_X12_turnsAs (kl K) E (tn (a (19 + k))) (fr (tn (a (12 + k))) pl) ((bo g x n).testBit k) true (a 1) ((hpk k (by omega)).2.2) (fr_lt (Nat.lt_of_lt_of_le (hpk k (by omega)).1.2 (by decide)) (by omega))) wX12_turnsAs m4_92 dX12_turning_66 [] [(q 0, .inr (12, oM q ab be fe fc mo bl ta tl tkn va)), (q 1, .inl (E.2.1 0, 188, .inl a)), (q 5, .inl (E.2.1 0, 7, .inl g))] (by decide) rfl (Nat.le_of_ble_eq_true rfl) rfl rfl rfl rfl rfl ?_
          refine g_istore hC [(6, .int (bI (tk (tn (a (19 + k))) (fr (tn (a (12 + k))) pl) ((bo g x n).testBit k) true (evn (a 1))))), (5, .int (nI k)), (4, .int (nI (bs (tB a g x pl n) k))), (3, .int (nI (bo g x n))), (0, .ref (q 0)), (1, .int x), (2, .int (nI pl))] dX12_turning_69 (by decide) rfl ?_
          refine g_iload hC dX12_turning_71 2 rfl ?_
          refine g_iload hC dX12_turning_73 0 rfl ?_
          refine g_if_eqB (tgt := 85) hC dX12_turning_75 (by decide) (fun h_75 => ?_) (fun h_75 => ?_)
          · have hb : tB a g x pl n k = false := by rw [← h_75, bo_tb g x h_18]; simp [tB, h_52]
            refine g_iconst (v := (nI 0)) hC dX12_turning_85 (by decide) ?_
            refine g_ior hC dX12_turning_86 ?_
            refine g_val (v' := .int (nI (bs (tB a g x pl n) (k + 1)))) (by rw [bs_no hb]) ?_
            refine g_istore hC [(4, .int (nI (bs (tB a g x pl n) (k + 1)))), (6, .int (bI (tk (tn (a (19 + k))) (fr (tn (a (12 + k))) pl) ((bo g x n).testBit k) true (evn (a 1))))), (5, .int (nI k)), (3, .int (nI (bo g x n))), (0, .ref (q 0)), (1, .int x), (2, .int (nI pl))] dX12_turning_87 (by decide) rfl ?_
            refine g_iincN hC (q := 2) 1 [(5, .int (nI (k + 1))), (4, .int (nI (bs (tB a g x pl n) (k + 1)))), (6, .int (bI (tk (tn (a (19 + k))) (fr (tn (a (12 + k))) pl) ((bo g x n).testBit k) true (evn (a 1))))), (3, .int (nI (bo g x n))), (0, .ref (q 0)), (1, .int x), (2, .int (nI pl))] dX12_turning_89 rfl rfl (by decide) rfl ?_
            refine g_goto (tgt := 12) hC dX12_turning_92 (by decide) ?_
            refine g_lv (lv' := [(5, .int (nI (k + 1))), (4, .int (nI (bs (tB a g x pl n) (k + 1)))), (3, .int (nI (bo g x n))), (0, .ref (q 0)), (1, .int x), (2, .int (nI pl))]) [0, 1, 3, 4, 5, 6] rfl ?_
            exact ih_12 (k + 1) (by omega) (by omega)
          · have hb : tB a g x pl n k = true := by rw [← h_75, bo_tb g x h_18]; simp [tB, h_52]
            refine g_iconst (v := (nI 1)) hC dX12_turning_78 (by decide) ?_
            refine g_iload hC dX12_turning_79 1 rfl ?_
            refine g_ishl hC dX12_turning_81 ?_
            refine g_goto (tgt := 86) hC dX12_turning_82 (by decide) ?_
            refine g_ior hC dX12_turning_86 ?_
            refine g_val (v' := .int (nI (bs (tB a g x pl n) (k + 1)))) (by rw [bs_yes (by omega) hb]) ?_
            refine g_istore hC [(4, .int (nI (bs (tB a g x pl n) (k + 1)))), (6, .int (bI (tk (tn (a (19 + k))) (fr (tn (a (12 + k))) pl) ((bo g x n).testBit k) true (evn (a 1))))), (5, .int (nI k)), (3, .int (nI (bo g x n))), (0, .ref (q 0)), (1, .int x), (2, .int (nI pl))] dX12_turning_87 (by decide) rfl ?_
            refine g_iincN hC (q := 2) 1 [(5, .int (nI (k + 1))), (4, .int (nI (bs (tB a g x pl n) (k + 1)))), (6, .int (bI (tk (tn (a (19 + k))) (fr (tn (a (12 + k))) pl) ((bo g x n).testBit k) true (evn (a 1))))), (3, .int (nI (bo g x n))), (0, .ref (q 0)), (1, .int x), (2, .int (nI pl))] dX12_turning_89 rfl rfl (by decide) rfl ?_
            refine g_goto (tgt := 12) hC dX12_turning_92 (by decide) ?_
            refine g_lv (lv' := [(5, .int (nI (k + 1))), (4, .int (nI (bs (tB a g x pl n) (k + 1)))), (3, .int (nI (bo g x n))), (0, .ref (q 0)), (1, .int x), (2, .int (nI pl))]) [0, 1, 3, 4, 5, 6] rfl ?_
            exact ih_12 (k + 1) (by omega) (by omega)
  refine g_lv (lv' := [(5, .int (nI 0)), (4, .int (nI 0)), (3, .int (nI (bo g x n))), (0, .ref (q 0)), (1, .int x), (2, .int (nI pl))]) [0, 1, 2, 3, 4, 5] rfl ?_
  refine g_lve (lv' := [(5, .int (nI 0)), (4, .int (nI (bs (tB a g x pl n) 0))), (3, .int (nI (bo g x n))), (0, .ref (q 0)), (1, .int x), (2, .int (nI pl))]) (rfl) ?_
  exact L_12 ((n - 0) + 1) 0 (by omega) (Nat.lt_succ_self _)
set_option maxHeartbeats 4000000 in
set_option maxRecDepth 100000 in
theorem f_X12_goTurn (l : Launch) (E : Ew) (q : Nat → Nat) (ab : Int64) (be : Int64) (fe : Int32) (fc : Int32) (mo : Int32) (bl : Int32) (ta : Int32) (tl : Int32) (tkn : Int32) (va : Int32) (a : Nat → Int32) (g : Nat → Int32) (n : Nat) (x : Int32) (w : Nat) (hn : a 0 = nI n) (hn7 : n ≤ 7) (hw : w < 2147483648) : Fn l E 1 yX12_goTurn cX12_goTurn 4 none [.ref (q 0), .int x, .int (nI w)] [(q 0, .inr (12, oM q ab be fe fc mo bl ta tl tkn va)), (q 1, .inl (E.2.1 0, 188, .inl a)), (q 5, .inl (E.2.1 0, 7, .inl g))] none [(q 0, .inr (12, oM q ab be fe fc mo bl ta tl tkn va)), (q 1, .inl (E.2.1 0, 188, .inl a)), (q 5, .inl (E.2.1 0, 7, .inl (gT g x w n)))] := by
  refine fn_V (by decide) (Nat.le_of_ble_eq_true rfl) rfl ?_
  intro K hC hR
  show G K E 4 [(q 0, .inr (12, oM q ab be fe fc mo bl ta tl tkn va)), (q 1, .inl (E.2.1 0, 188, .inl a)), (q 5, .inl (E.2.1 0, 7, .inl g))] [(0, .ref (q 0)), (1, .int x), (2, .int (nI w))] 0 []
  refine g_iconst (v := (nI 0)) hC dX12_goTurn_0 (by decide) ?_
  refine g_istore_n hC [(3, .int (nI 0)), (0, .ref (q 0)), (1, .int x), (2, .int (nI w))] dX12_goTurn_1 rfl (by decide) rfl ?_
  have L_2 : ∀ (fu : Nat) (k : Nat) (hk : k ≤ n) (hw0 : w = 0 → k = 0), n - k < fu → G K E 4 [(q 0, .inr (12, oM q ab be fe fc mo bl ta tl tkn va)), (q 1, .inl (E.2.1 0, 188, .inl a)), (q 5, .inl (E.2.1 0, 7, .inl (gt g x w k)))] [(3, .int (nI k)), (0, .ref (q 0)), (1, .int x), (2, .int (nI w))] 2 [] := by
    intro fu
    induction fu with
    | zero => intro k hk hw0 hm_2; exact absurd hm_2 (Nat.not_lt_zero _)
    | succ fu ih_2 =>
      intro k hk hw0 hm_2
      refine g_iload_n hC dX12_goTurn_2 rfl 0 rfl ?_
      refine g_aload_n hC dX12_goTurn_3 rfl 1 rfl ?_
      refine g_callV hC (f_X12_many (kl K) E q ab be fe fc mo bl ta tl tkn va a) wX12_many m4_38 dX12_goTurn_4 [0, 1] [(q 0, .inr (12, oM q ab be fe fc mo bl ta tl tkn va)), (q 1, .inl (E.2.1 0, 188, .inl a)), (q 5, .inl (E.2.1 0, 7, .inl (gt g x w k)))] 0 12 rfl rfl (by decide) rfl (Nat.le_of_ble_eq_true rfl) rfl rfl rfl rfl rfl ?_
      refine g_val (v' := .int (nI n)) (by rw [hn]) ?_
      refine g_icmp_geN (tgt := 58) hC dX12_goTurn_7 (by decide) (by omega) (by omega) (fun h_7 => ?_) (fun h_7 => ?_)
      · exact g_ws (by rw [gT_fin (by omega) hw0]) (hR _ _ dX12_goTurn_58)
      · refine g_iload_n hC dX12_goTurn_10 rfl 3 rfl ?_
        refine g_if_eqN (tgt := 58) hC dX12_goTurn_11 (by decide) (by omega) (fun h_11 => ?_) (fun h_11 => ?_)
        · exact g_ws (by rw [gT_fin (by omega) hw0]) (hR _ _ dX12_goTurn_58)
        · refine g_aload_n hC dX12_goTurn_14 rfl 1 rfl ?_
          refine g_get hC 0 12 6 inX12 m3_214 dX12_goTurn_15 rfl rfl (by decide) rfl ?_
          refine g_iload_n hC dX12_goTurn_18 rfl 0 rfl ?_
          refine g_iload_n hC dX12_goTurn_19 rfl 3 rfl ?_
          refine g_iload_n hC dX12_goTurn_20 rfl 0 rfl ?_
          refine g_callS hC (f_X12_has (kl K) E w k (by omega) (by omega)) wX12_has m4_89 dX12_goTurn_21 [] [(q 0, .inr (12, oM q ab be fe fc mo bl ta tl tkn va)), (q 1, .inl (E.2.1 0, 188, .inl a)), (q 5, .inl (E.2.1 0, 7, .inl (gt g x w k)))] (by decide) rfl (Nat.le_of_ble_eq_true rfl) rfl rfl rfl rfl rfl ?_
          refine g_if_eqB (tgt := 31) hC dX12_goTurn_24 (by decide) (fun h_24 => ?_) (fun h_24 => ?_)
          · refine g_aload_n hC dX12_goTurn_31 rfl 1 rfl ?_
            refine g_get hC 0 12 6 inX12 m3_214 dX12_goTurn_32 rfl rfl (by decide) rfl ?_
            refine g_iload_n hC dX12_goTurn_35 rfl 0 rfl ?_
            refine g_ialdN hC 2 dX12_goTurn_36 rfl (by decide) (by omega) ?_
            refine g_val (v' := .int (g k)) (by rw [gt_k]) ?_
            refine g_iload_n hC dX12_goTurn_37 rfl 2 rfl ?_
            refine g_icmp_ne (tgt := 45) hC dX12_goTurn_38 (by decide) (fun h_38 => ?_) (fun h_38 => ?_)
            · refine g_aload_n hC dX12_goTurn_45 rfl 1 rfl ?_
              refine g_get hC 0 12 6 inX12 m3_214 dX12_goTurn_46 rfl rfl (by decide) rfl ?_
              refine g_iload_n hC dX12_goTurn_49 rfl 0 rfl ?_
              refine g_ialdN hC 2 dX12_goTurn_50 rfl (by decide) (by omega) ?_
              refine g_val (v' := .int (g k)) (by rw [gt_k]) ?_
              refine g_iastN hC 2 [(q 0, .inr (12, oM q ab be fe fc mo bl ta tl tkn va)), (q 1, .inl (E.2.1 0, 188, .inl a)), (q 5, .inl (E.2.1 0, 7, .inl (upd (gt g x w k) k (g k))))] dX12_goTurn_51 rfl (by decide) (by omega) rfl ?_
              refine g_iincN hC (q := 0) 1 [(3, .int (nI (k + 1))), (0, .ref (q 0)), (1, .int x), (2, .int (nI w))] dX12_goTurn_52 rfl rfl (by decide) rfl ?_
              refine g_goto (tgt := 2) hC dX12_goTurn_55 (by decide) ?_
              refine g_lv (lv' := [(3, .int (nI (k + 1))), (0, .ref (q 0)), (1, .int x), (2, .int (nI w))]) [0, 1, 2, 3] rfl ?_
              refine g_ws (ws' := [(q 0, .inr (12, oM q ab be fe fc mo bl ta tl tkn va)), (q 1, .inl (E.2.1 0, 188, .inl a)), (q 5, .inl (E.2.1 0, 7, .inl (gt g x w (k + 1))))]) (by rw [gt_s _ _ _ _ _ (by simp [h_7, h_11, h_24, h_38])]) ?_
              exact ih_2 (k + 1) (by omega) (by omega) (by omega)
            · refine g_iconst (v := (-1)) hC dX12_goTurn_41 (by decide) ?_
              refine g_goto (tgt := 51) hC dX12_goTurn_42 (by decide) ?_
              refine g_iastN hC 2 [(q 0, .inr (12, oM q ab be fe fc mo bl ta tl tkn va)), (q 1, .inl (E.2.1 0, 188, .inl a)), (q 5, .inl (E.2.1 0, 7, .inl (upd (gt g x w k) k (-1))))] dX12_goTurn_51 rfl (by decide) (by omega) rfl ?_
              refine g_iincN hC (q := 0) 1 [(3, .int (nI (k + 1))), (0, .ref (q 0)), (1, .int x), (2, .int (nI w))] dX12_goTurn_52 rfl rfl (by decide) rfl ?_
              refine g_goto (tgt := 2) hC dX12_goTurn_55 (by decide) ?_
              refine g_lv (lv' := [(3, .int (nI (k + 1))), (0, .ref (q 0)), (1, .int x), (2, .int (nI w))]) [0, 1, 2, 3] rfl ?_
              refine g_ws (ws' := [(q 0, .inr (12, oM q ab be fe fc mo bl ta tl tkn va)), (q 1, .inl (E.2.1 0, 188, .inl a)), (q 5, .inl (E.2.1 0, 7, .inl (gt g x w (k + 1))))]) (by rw [gt_s _ _ _ _ _ (by simp [h_7, h_11, h_24, h_38])]) ?_
              exact ih_2 (k + 1) (by omega) (by omega) (by omega)
          · refine g_iload_n hC dX12_goTurn_27 rfl 2 rfl ?_
            refine g_goto (tgt := 51) hC dX12_goTurn_28 (by decide) ?_
            refine g_iastN hC 2 [(q 0, .inr (12, oM q ab be fe fc mo bl ta tl tkn va)), (q 1, .inl (E.2.1 0, 188, .inl a)), (q 5, .inl (E.2.1 0, 7, .inl (upd (gt g x w k) k x)))] dX12_goTurn_51 rfl (by decide) (by omega) rfl ?_
            refine g_iincN hC (q := 0) 1 [(3, .int (nI (k + 1))), (0, .ref (q 0)), (1, .int x), (2, .int (nI w))] dX12_goTurn_52 rfl rfl (by decide) rfl ?_
            refine g_goto (tgt := 2) hC dX12_goTurn_55 (by decide) ?_
            refine g_lv (lv' := [(3, .int (nI (k + 1))), (0, .ref (q 0)), (1, .int x), (2, .int (nI w))]) [0, 1, 2, 3] rfl ?_
            refine g_ws (ws' := [(q 0, .inr (12, oM q ab be fe fc mo bl ta tl tkn va)), (q 1, .inl (E.2.1 0, 188, .inl a)), (q 5, .inl (E.2.1 0, 7, .inl (gt g x w (k + 1))))]) (by rw [gt_s _ _ _ _ _ (by simp [h_7, h_11, h_24])]) ?_
            exact ih_2 (k + 1) (by omega) (by omega) (by omega)
  refine g_lv (lv' := [(3, .int (nI 0)), (0, .ref (q 0)), (1, .int x), (2, .int (nI w))]) [0, 1, 2, 3] rfl ?_
  refine g_ws (ws' := [(q 0, .inr (12, oM q ab be fe fc mo bl ta tl tkn va)), (q 1, .inl (E.2.1 0, 188, .inl a)), (q 5, .inl (E.2.1 0, 7, .inl (gt g x w 0)))]) (by rw [gt_0]) ?_
  exact L_2 ((n - 0) + 1) 0 (by omega) (by omega) (Nat.lt_succ_self _)
set_option maxHeartbeats 4000000 in
set_option maxRecDepth 100000 in
theorem f_X12_goCall (l : Launch) (E : Ew) (q : Nat → Nat) (ab : Int64) (be : Int64) (fe : Int32) (fc : Int32) (mo : Int32) (bl : Int32) (ta : Int32) (tl : Int32) (tkn : Int32) (va : Int32) (a : Nat → Int32) (g : Nat → Int32) (n : Nat) (x : Int32) (pl : Nat) (hn : a 0 = nI n) (hn7 : n ≤ 7) (hpk : ∀ p, p < n → isN (a (12 + p)) 10 ∧ isN (a (19 + p)) 6) (hpl : pl < 10) : Fn l E 3 yX12_goCall cX12_goCall 4 (some .int) [.ref (q 0), .int x, .int (nI pl)] [(q 0, .inr (12, oM q ab be fe fc mo bl ta tl tkn va)), (q 1, .inl (E.2.1 0, 188, .inl a)), (q 5, .inl (E.2.1 0, 7, .inl g))] (some (.int (nI (tS a g x pl n)))) [(q 0, .inr (12, oM q ab be fe fc mo bl ta tl tkn va)), (q 1, .inl (E.2.1 0, 188, .inl a)), (q 5, .inl (E.2.1 0, 7, .inl (gT g x (tS a g x pl n) n)))] := by
  refine fn_I (by decide) (Nat.le_of_ble_eq_true rfl) rfl ?_
  intro K hC hR
  show G K E 4 [(q 0, .inr (12, oM q ab be fe fc mo bl ta tl tkn va)), (q 1, .inl (E.2.1 0, 188, .inl a)), (q 5, .inl (E.2.1 0, 7, .inl g))] [(0, .ref (q 0)), (1, .int x), (2, .int (nI pl))] 0 []
  refine g_aload_n hC dX12_goCall_0 rfl 0 rfl ?_
  refine g_iload_n hC dX12_goCall_1 rfl 1 rfl ?_
  refine g_iload_n hC dX12_goCall_2 rfl 2 rfl ?_
  refine g_callV hC (f_X12_turning (kl K) E q ab be fe fc mo bl ta tl tkn va a g n x pl (hn) (hn7) (hpk) (by omega)) wX12_turning m4_78 dX12_goCall_3 [0, 1, 2] [(q 0, .inr (12, oM q ab be fe fc mo bl ta tl tkn va)), (q 1, .inl (E.2.1 0, 188, .inl a)), (q 5, .inl (E.2.1 0, 7, .inl g))] 0 12 rfl rfl (by decide) rfl (Nat.le_of_ble_eq_true rfl) rfl rfl rfl rfl rfl ?_
  refine g_istore_n hC [(3, .int (nI (tS a g x pl n))), (0, .ref (q 0)), (1, .int x), (2, .int (nI pl))] dX12_goCall_6 rfl (by decide) rfl ?_
  refine g_aload_n hC dX12_goCall_7 rfl 1 rfl ?_
  refine g_iload_n hC dX12_goCall_8 rfl 2 rfl ?_
  refine g_iload_n hC dX12_goCall_9 rfl 0 rfl ?_
  refine g_callV hC (f_X12_goTurn (kl K) E q ab be fe fc mo bl ta tl tkn va a g n x (tS a g x pl n) (hn) (hn7) (bs_lt' _ (m := 31) (by omega))) wX12_goTurn m4_95 dX12_goCall_10 [0, 1, 2] [(q 0, .inr (12, oM q ab be fe fc mo bl ta tl tkn va)), (q 1, .inl (E.2.1 0, 188, .inl a)), (q 5, .inl (E.2.1 0, 7, .inl (gT g x (tS a g x pl n) n)))] 0 12 rfl rfl (by decide) rfl (Nat.le_of_ble_eq_true rfl) rfl rfl rfl rfl rfl ?_
  refine g_iload_n hC dX12_goCall_13 rfl 0 rfl ?_
  exact g_val (rfl) (g_ws (rfl) (hR _ _ dX12_goCall_14))
set_option maxHeartbeats 4000000 in
set_option maxRecDepth 100000 in
theorem f_X12_ownNow (l : Launch) (E : Ew) (q : Nat → Nat) (ab : Int64) (be : Int64) (fe : Int32) (fc : Int32) (mo : Int32) (bl : Int32) (ta : Int32) (tl : Int32) (tkn : Int32) (va : Int32) (a : Nat → Int32) (g : Nat → Int32) (n : Nat) (hn : a 0 = nI n) (hn7 : n ≤ 7) : Fn l E 1 yX12_ownNow cX12_ownNow 3 (some .int) [.ref (q 0)] [(q 0, .inr (12, oM q ab be fe fc mo bl ta tl tkn va)), (q 1, .inl (E.2.1 0, 188, .inl a)), (q 5, .inl (E.2.1 0, 7, .inl g))] (some (.int (nI (ow g n)))) [(q 0, .inr (12, oM q ab be fe fc mo bl ta tl tkn va)), (q 1, .inl (E.2.1 0, 188, .inl a)), (q 5, .inl (E.2.1 0, 7, .inl g))] := by
  refine fn_I (by decide) (Nat.le_of_ble_eq_true rfl) rfl ?_
  intro K hC hR
  show G K E 3 [(q 0, .inr (12, oM q ab be fe fc mo bl ta tl tkn va)), (q 1, .inl (E.2.1 0, 188, .inl a)), (q 5, .inl (E.2.1 0, 7, .inl g))] [(0, .ref (q 0))] 0 []
  refine g_iconst (v := (nI 0)) hC dX12_ownNow_0 (by decide) ?_
  refine g_istore_n hC [(1, .int (nI 0)), (0, .ref (q 0))] dX12_ownNow_1 rfl (by decide) rfl ?_
  refine g_iconst (v := (nI 0)) hC dX12_ownNow_2 (by decide) ?_
  refine g_istore_n hC [(2, .int (nI 0)), (1, .int (nI 0)), (0, .ref (q 0))] dX12_ownNow_3 rfl (by decide) rfl ?_
  have L_4 : ∀ (fu : Nat) (k : Nat) (hk : k ≤ n), n - k < fu → G K E 3 [(q 0, .inr (12, oM q ab be fe fc mo bl ta tl tkn va)), (q 1, .inl (E.2.1 0, 188, .inl a)), (q 5, .inl (E.2.1 0, 7, .inl g))] [(2, .int (nI k)), (1, .int (nI (ct (fun p => decide (g p = nI p)) k))), (0, .ref (q 0))] 4 [] := by
    intro fu
    induction fu with
    | zero => intro k hk hm_4; exact absurd hm_4 (Nat.not_lt_zero _)
    | succ fu ih_4 =>
      intro k hk hm_4
      refine g_iload_n hC dX12_ownNow_4 rfl 0 rfl ?_
      refine g_aload_n hC dX12_ownNow_5 rfl 2 rfl ?_
      refine g_callV hC (f_X12_many (kl K) E q ab be fe fc mo bl ta tl tkn va a) wX12_many m4_38 dX12_ownNow_6 [0, 1] [(q 0, .inr (12, oM q ab be fe fc mo bl ta tl tkn va)), (q 1, .inl (E.2.1 0, 188, .inl a)), (q 5, .inl (E.2.1 0, 7, .inl g))] 0 12 rfl rfl (by decide) rfl (Nat.le_of_ble_eq_true rfl) rfl rfl rfl rfl rfl ?_
      refine g_val (v' := .int (nI n)) (by rw [hn]) ?_
      refine g_icmp_geN (tgt := 36) hC dX12_ownNow_9 (by decide) (by omega) (by omega) (fun h_9 => ?_) (fun h_9 => ?_)
      · refine g_iload_n hC dX12_ownNow_36 rfl 1 rfl ?_
        exact g_val (by rw [show k = n by omega]; rfl) (g_ws (rfl) (hR _ _ dX12_ownNow_37))
      · refine g_iload_n hC dX12_ownNow_12 rfl 1 rfl ?_
        refine g_aload_n hC dX12_ownNow_13 rfl 2 rfl ?_
        refine g_get hC 0 12 6 inX12 m3_214 dX12_ownNow_14 rfl rfl (by decide) rfl ?_
        refine g_iload_n hC dX12_ownNow_17 rfl 0 rfl ?_
        refine g_ialdN hC 2 dX12_ownNow_18 rfl (by decide) (by omega) ?_
        refine g_iload_n hC dX12_ownNow_19 rfl 0 rfl ?_
        refine g_icmp_ne (tgt := 27) hC dX12_ownNow_20 (by decide) (fun h_20 => ?_) (fun h_20 => ?_)
        · refine g_iconst (v := (nI 0)) hC dX12_ownNow_27 (by decide) ?_
          refine g_iaddN hC dX12_ownNow_28 ?_
          refine g_istore_n hC [(1, .int (nI (ct (fun p => decide (g p = nI p)) k + 0))), (2, .int (nI k)), (0, .ref (q 0))] dX12_ownNow_29 rfl (by decide) rfl ?_
          refine g_iincN hC (q := 1) 1 [(2, .int (nI (k + 1))), (1, .int (nI (ct (fun p => decide (g p = nI p)) k + 0))), (0, .ref (q 0))] dX12_ownNow_30 rfl rfl (by decide) rfl ?_
          refine g_goto (tgt := 4) hC dX12_ownNow_33 (by decide) ?_
          refine g_lv (lv' := [(2, .int (nI (k + 1))), (1, .int (nI (ct (fun p => decide (g p = nI p)) k + 0))), (0, .ref (q 0))]) [0, 1, 2] rfl ?_
          refine g_lve (lv' := [(2, .int (nI (k + 1))), (1, .int (nI (ct (fun p => decide (g p = nI p)) (k + 1)))), (0, .ref (q 0))]) (by simp [ct, h_9, h_20]) ?_
          exact ih_4 (k + 1) (by omega) (by omega)
        · refine g_iconst (v := (nI 1)) hC dX12_ownNow_23 (by decide) ?_
          refine g_goto (tgt := 28) hC dX12_ownNow_24 (by decide) ?_
          refine g_iaddN hC dX12_ownNow_28 ?_
          refine g_istore_n hC [(1, .int (nI (ct (fun p => decide (g p = nI p)) k + 1))), (2, .int (nI k)), (0, .ref (q 0))] dX12_ownNow_29 rfl (by decide) rfl ?_
          refine g_iincN hC (q := 1) 1 [(2, .int (nI (k + 1))), (1, .int (nI (ct (fun p => decide (g p = nI p)) k + 1))), (0, .ref (q 0))] dX12_ownNow_30 rfl rfl (by decide) rfl ?_
          refine g_goto (tgt := 4) hC dX12_ownNow_33 (by decide) ?_
          refine g_lv (lv' := [(2, .int (nI (k + 1))), (1, .int (nI (ct (fun p => decide (g p = nI p)) k + 1))), (0, .ref (q 0))]) [0, 1, 2] rfl ?_
          refine g_lve (lv' := [(2, .int (nI (k + 1))), (1, .int (nI (ct (fun p => decide (g p = nI p)) (k + 1)))), (0, .ref (q 0))]) (by simp [ct, h_9, h_20]) ?_
          exact ih_4 (k + 1) (by omega) (by omega)
  refine g_lv (lv' := [(2, .int (nI 0)), (1, .int (nI 0)), (0, .ref (q 0))]) [0, 1, 2] rfl ?_
  refine g_lve (lv' := [(2, .int (nI 0)), (1, .int (nI (ct (fun p => decide (g p = nI p)) 0))), (0, .ref (q 0))]) (rfl) ?_
  exact L_4 ((n - 0) + 1) 0 (by omega) (Nat.lt_succ_self _)
