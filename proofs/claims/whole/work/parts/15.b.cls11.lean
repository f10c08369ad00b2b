theorem hL_128 {kd pl : Nat → Nat} {da : Int32} {o z : Bool} {n : Nat} {ao : Nat → Nat} (hn : n ≤ 7) {p : Nat} (hp : p < 10) : hL kd pl da o z n ao 10 p < 128 := by
  unfold hL; rw [if_pos hp]; exact hB_lt kd pl p da o z hn
theorem rgC_s {bn : Nat → Nat} {n p f at' k : Nat} (h1 : ¬ nmF bn n at' = nI p) (h2 : ¬ nmF bn n at' = -1) : rgC bn n p (f + 1) at' k = rgC bn n p f (tn (nmF bn n at')) (k + 1) := by rw [rgC, if_neg h1, if_neg h2]

set_option maxHeartbeats 600000 in
set_option maxRecDepth 100000 in
theorem f_X11_calls_ok (l : Launch) (E : Ew) (x : Nat → Nat) (h : Nat → Nat) (dr : Nat → Nat) (da : Int32) (de : Int32) (no : Int32) (pa : Int32) (n : Nat) (kd : Nat → Nat) (pl : Nat → Nat) (bn : Nat → Nat) (ao : Nat → Nat) (at1 : Nat → Nat) (an : Nat → Nat) (fw : Int32) (ft : Int32) (mt : Int32) (bh : Nat → Nat) (p : Nat) (y : Nat) (wh : Nat) (hn7 : n ≤ 7) (hkd : ∀ p, p < n → kd p < 6) (hpl : ∀ p, p < n → pl p < 10) (hb : ∀ j, j < 7 → bn j < 128) (hp : p < n) (hy : y < n) (hwh : wh < 2) : Fe l E 6 yX11_calls cX11_calls 4 (some .int) [.ref (x 0), .int (nI p), .int (nI y), .int (nI wh)] [(x 0, .inr (11, oL x h dr)), (x 7, .inr (6, oG x)), (x 8, .inl (E.2.1 4, 6, .inr (.inr (.inr (.inr (fun j => some (x (14 + j)))))))), (x 14, .inr (7, [])), (x 15, .inr (0, [])), (x 16, .inr (3, [])), (x 17, .inr (1, [])), (x 18, .inr (9, [])), (x 19, .inr (2, [])), (x 9, .inl (E.2.1 0, 10, .inl (nf ao))), (x 10, .inl (E.2.1 0, 10, .inl (nf at1))), (x 11, .inl (E.2.1 0, 10, .inl (nf an))), (h 0, .inr (5, oH h da (nI n) de no pa)), (h 1, .inl (E.2.1 0, 7, .inl (nf kd))), (h 2, .inl (E.2.1 0, 7, .inl (nf pl))), (h 3, .inl (E.2.1 0, 7, .inl (nf bn))), (x 12, .inr (8, oS x fw ft mt)), (x 13, .inl (E.2.1 0, 7, .inl (nf bh)))] (some (.int (if wh = 0 then tbW (hL kd pl da true false n ao 10) (hL kd pl da false false n at1 10) (hL kd pl da false true n an 10) bn p y n else tbT (hL kd pl da true false n ao 10) (hL kd pl da false false n at1 10) (hL kd pl da false true n an 10) bn p y n))) (fun jj => [(x 0, .inr (11, oL x h dr)), (x 7, .inr (6, oG x)), (x 8, .inl (E.2.1 4, 6, .inr (.inr (.inr (.inr (fun j => some (x (14 + j)))))))), (x 14, .inr (7, [])), (x 15, .inr (0, [])), (x 16, .inr (3, [])), (x 17, .inr (1, [])), (x 18, .inr (9, [])), (x 19, .inr (2, [])), (x 9, .inl (E.2.1 0, 10, .inl (nf (hL kd pl da true false n ao 10)))), (x 10, .inl (E.2.1 0, 10, .inl (nf (hL kd pl da false false n at1 10)))), (x 11, .inl (E.2.1 0, 10, .inl (nf (hL kd pl da false true n an 10)))), (h 0, .inr (5, oH h da (nI n) de no pa)), (h 1, .inl (E.2.1 0, 7, .inl (nf kd))), (h 2, .inl (E.2.1 0, 7, .inl (nf pl))), (h 3, .inl (E.2.1 0, 7, .inl (nf bn))), (x 12, .inr (8, oS x (tbW (hL kd pl da true false n ao 10) (hL kd pl da false false n at1 10) (hL kd pl da false true n an 10) bn p y n) (tbT (hL kd pl da true false n ao 10) (hL kd pl da false false n at1 10) (hL kd pl da false true n an 10) bn p y n) mt)), (x 13, .inl (E.2.1 0, 7, .inl (jj 0)))]) := by
  refine fe_I (by decide) (Nat.le_of_ble_eq_true rfl) (fun _ => rfl) ?_
  intro K hC hR
  show G K E 4 [(x 0, .inr (11, oL x h dr)), (x 7, .inr (6, oG x)), (x 8, .inl (E.2.1 4, 6, .inr (.inr (.inr (.inr (fun j => some (x (14 + j)))))))), (x 14, .inr (7, [])), (x 15, .inr (0, [])), (x 16, .inr (3, [])), (x 17, .inr (1, [])), (x 18, .inr (9, [])), (x 19, .inr (2, [])), (x 9, .inl (E.2.1 0, 10, .inl (nf ao))), (x 10, .inl (E.2.1 0, 10, .inl (nf at1))), (x 11, .inl (E.2.1 0, 10, .inl (nf an))), (h 0, .inr (5, oH h da (nI n) de no pa)), (h 1, .inl (E.2.1 0, 7, .inl (nf kd))), (h 2, .inl (E.2.1 0, 7, .inl (nf pl))), (h 3, .inl (E.2.1 0, 7, .inl (nf bn))), (x 12, .inr (8, oS x fw ft mt)), (x 13, .inl (E.2.1 0, 7, .inl (nf bh)))] [(0, .ref (x 0)), (1, .int (nI p)), (2, .int (nI y)), (3, .int (nI wh))] 0 []
  refine g_aload_n hC dX11_calls_0 rfl 0 rfl ?_
  refine g_iload_n hC dX11_calls_1 rfl 1 rfl ?_
  refine g_callV hC (f_X11_isThere (kl K) E x h dr da de no pa n (nI p) (by omega)) wX11_isThere m2_156 dX11_calls_2 [0, 12] [(x 0, .inr (11, oL x h dr)), (x 7, .inr (6, oG x)), (x 8, .inl (E.2.1 4, 6, .inr (.inr (.inr (.inr (fun j => some (x (14 + j)))))))), (x 14, .inr (7, [])), (x 15, .inr (0, [])), (x 16, .inr (3, [])), (x 17, .inr (1, [])), (x 18, .inr (9, [])), (x 19, .inr (2, [])), (x 9, .inl (E.2.1 0, 10, .inl (nf ao))), (x 10, .inl (E.2.1 0, 10, .inl (nf at1))), (x 11, .inl (E.2.1 0, 10, .inl (nf an))), (h 0, .inr (5, oH h da (nI n) de no pa)), (h 1, .inl (E.2.1 0, 7, .inl (nf kd))), (h 2, .inl (E.2.1 0, 7, .inl (nf pl))), (h 3, .inl (E.2.1 0, 7, .inl (nf bn))), (x 12, .inr (8, oS x fw ft mt)), (x 13, .inl (E.2.1 0, 7, .inl (nf bh)))] 0 11 rfl rfl (by decide) rfl (Nat.le_of_ble_eq_true rfl) rfl rfl rfl rfl rfl ?_
  refine g_if_eqB (tgt := 24) hC dX11_calls_5 (by decide) (fun h_5 => ?_) (fun h_5 => ?_)
  · exact Bool.noConfusion ((inB_ok (by omega) (by omega)).symm.trans h_5)
  · refine g_aload_n hC dX11_calls_8 rfl 0 rfl ?_
    refine g_iload_n hC dX11_calls_9 rfl 2 rfl ?_
    refine g_callV hC (f_X11_isThere (kl K) E x h dr da de no pa n (nI y) (by omega)) wX11_isThere m2_156 dX11_calls_10 [0, 12] [(x 0, .inr (11, oL x h dr)), (x 7, .inr (6, oG x)), (x 8, .inl (E.2.1 4, 6, .inr (.inr (.inr (.inr (fun j => some (x (14 + j)))))))), (x 14, .inr (7, [])), (x 15, .inr (0, [])), (x 16, .inr (3, [])), (x 17, .inr (1, [])), (x 18, .inr (9, [])), (x 19, .inr (2, [])), (x 9, .inl (E.2.1 0, 10, .inl (nf ao))), (x 10, .inl (E.2.1 0, 10, .inl (nf at1))), (x 11, .inl (E.2.1 0, 10, .inl (nf an))), (h 0, .inr (5, oH h da (nI n) de no pa)), (h 1, .inl (E.2.1 0, 7, .inl (nf kd))), (h 2, .inl (E.2.1 0, 7, .inl (nf pl))), (h 3, .inl (E.2.1 0, 7, .inl (nf bn))), (x 12, .inr (8, oS x fw ft mt)), (x 13, .inl (E.2.1 0, 7, .inl (nf bh)))] 0 11 rfl rfl (by decide) rfl (Nat.le_of_ble_eq_true rfl) rfl rfl rfl rfl rfl ?_
    refine g_if_eqB (tgt := 24) hC dX11_calls_13 (by decide) (fun h_13 => ?_) (fun h_13 => ?_)
    · exact Bool.noConfusion ((inB_ok (by omega) (by omega)).symm.trans h_13)
    · refine g_iload_n hC dX11_calls_16 rfl 3 rfl ?_
      refine g_iconst (v := (nI 2)) hC dX11_calls_17 (by decide) ?_
      refine g_callS hC (f_X11_within (kl K) E (nI wh) 2 (by omega)) wX11_within m2_13 dX11_calls_18 [] [(x 0, .inr (11, oL x h dr)), (x 7, .inr (6, oG x)), (x 8, .inl (E.2.1 4, 6, .inr (.inr (.inr (.inr (fun j => some (x (14 + j)))))))), (x 14, .inr (7, [])), (x 15, .inr (0, [])), (x 16, .inr (3, [])), (x 17, .inr (1, [])), (x 18, .inr (9, [])), (x 19, .inr (2, [])), (x 9, .inl (E.2.1 0, 10, .inl (nf ao))), (x 10, .inl (E.2.1 0, 10, .inl (nf at1))), (x 11, .inl (E.2.1 0, 10, .inl (nf an))), (h 0, .inr (5, oH h da (nI n) de no pa)), (h 1, .inl (E.2.1 0, 7, .inl (nf kd))), (h 2, .inl (E.2.1 0, 7, .inl (nf pl))), (h 3, .inl (E.2.1 0, 7, .inl (nf bn))), (x 12, .inr (8, oS x fw ft mt)), (x 13, .inl (E.2.1 0, 7, .inl (nf bh)))] (by decide) rfl (Nat.le_of_ble_eq_true rfl) rfl rfl rfl rfl rfl ?_
      refine g_if_neB (tgt := 31) hC dX11_calls_21 (by decide) (fun h_21 => ?_) (fun h_21 => ?_)
      · refine g_aload_n hC dX11_calls_31 rfl 0 rfl ?_
        refine g_get hC 0 11 6 inX11 m1_227 dX11_calls_32 rfl rfl (by decide) rfl ?_
        refine g_aload_n hC dX11_calls_35 rfl 0 rfl ?_
        refine g_get hC 0 11 0 inX11 m1_221 dX11_calls_36 rfl rfl (by decide) rfl ?_
        refine g_callV hC (f_X6_listen (kl K) E x h da de no pa n kd pl ao at1 an (by omega) (hkd) (hpl)) wX6_listen m3_21 dX11_calls_39 [1, 2, 3, 4, 5, 6, 7, 8, 9, 10, 11, 12, 13, 14] [(x 0, .inr (11, oL x h dr)), (x 7, .inr (6, oG x)), (x 8, .inl (E.2.1 4, 6, .inr (.inr (.inr (.inr (fun j => some (x (14 + j)))))))), (x 14, .inr (7, [])), (x 15, .inr (0, [])), (x 16, .inr (3, [])), (x 17, .inr (1, [])), (x 18, .inr (9, [])), (x 19, .inr (2, [])), (x 9, .inl (E.2.1 0, 10, .inl (nf (hL kd pl da true false n ao 10)))), (x 10, .inl (E.2.1 0, 10, .inl (nf (hL kd pl da false false n at1 10)))), (x 11, .inl (E.2.1 0, 10, .inl (nf (hL kd pl da false true n an 10)))), (h 0, .inr (5, oH h da (nI n) de no pa)), (h 1, .inl (E.2.1 0, 7, .inl (nf kd))), (h 2, .inl (E.2.1 0, 7, .inl (nf pl))), (h 3, .inl (E.2.1 0, 7, .inl (nf bn))), (x 12, .inr (8, oS x fw ft mt)), (x 13, .inl (E.2.1 0, 7, .inl (nf bh)))] 1 6 rfl rfl (by decide) rfl (Nat.le_of_ble_eq_true rfl) rfl rfl rfl rfl rfl ?_
        refine g_aload_n hC dX11_calls_42 rfl 0 rfl ?_
        refine g_get hC 0 11 7 inX11 m1_228 dX11_calls_43 rfl rfl (by decide) rfl ?_
        refine g_aload_n hC dX11_calls_46 rfl 0 rfl ?_
        refine g_get hC 0 11 0 inX11 m1_221 dX11_calls_47 rfl rfl (by decide) rfl ?_
        refine g_aload_n hC dX11_calls_50 rfl 0 rfl ?_
        refine g_get hC 0 11 6 inX11 m1_227 dX11_calls_51 rfl rfl (by decide) rfl ?_
        refine g_iload_n hC dX11_calls_54 rfl 1 rfl ?_
        refine g_iload_n hC dX11_calls_55 rfl 2 rfl ?_
        refine g_callVE hC (f_X8_toBear (kl K) E x fw ft mt bh h da de no pa n bn (hL kd pl da true false n ao 10) (hL kd pl da false false n at1 10) (hL kd pl da false true n an 10) p y (by omega) (fun p hp => ⟨hL_128 hn7 hp, hL_128 hn7 hp, hL_128 hn7 hp⟩) (hb) (by omega) (by omega)) wX8_toBear m3_26 dX11_calls_56 [16, 17, 1, 9, 10, 11, 12, 15] (fun jj => [(x 0, .inr (11, oL x h dr)), (x 7, .inr (6, oG x)), (x 8, .inl (E.2.1 4, 6, .inr (.inr (.inr (.inr (fun j => some (x (14 + j)))))))), (x 14, .inr (7, [])), (x 15, .inr (0, [])), (x 16, .inr (3, [])), (x 17, .inr (1, [])), (x 18, .inr (9, [])), (x 19, .inr (2, [])), (x 9, .inl (E.2.1 0, 10, .inl (nf (hL kd pl da true false n ao 10)))), (x 10, .inl (E.2.1 0, 10, .inl (nf (hL kd pl da false false n at1 10)))), (x 11, .inl (E.2.1 0, 10, .inl (nf (hL kd pl da false true n an 10)))), (h 0, .inr (5, oH h da (nI n) de no pa)), (h 1, .inl (E.2.1 0, 7, .inl (nf kd))), (h 2, .inl (E.2.1 0, 7, .inl (nf pl))), (h 3, .inl (E.2.1 0, 7, .inl (nf bn))), (x 12, .inr (8, oS x (tbW (hL kd pl da true false n ao 10) (hL kd pl da false false n at1 10) (hL kd pl da false true n an 10) bn p y n) (tbT (hL kd pl da true false n ao 10) (hL kd pl da false false n at1 10) (hL kd pl da false true n an 10) bn p y n) mt)), (x 13, .inl (E.2.1 0, 7, .inl (jj 0)))]) 16 8 rfl rfl (by decide) rfl (Nat.le_of_ble_eq_true rfl) rfl rfl rfl (fun _ => rfl) (fun _ => rfl) (fun jj_56 => ?_)
        refine g_iload_n hC dX11_calls_59 rfl 3 rfl ?_
        refine g_if_neN (tgt := 73) hC dX11_calls_60 (by decide) (by omega) (fun h_60 => ?_) (fun h_60 => ?_)
        · refine g_aload_n hC dX11_calls_73 rfl 0 rfl ?_
          refine g_get hC 0 11 7 inX11 m1_228 dX11_calls_74 rfl rfl (by decide) rfl ?_
          refine g_get hC 16 8 2 inX8 m1_209 dX11_calls_77 rfl rfl (by decide) rfl ?_
          exact g_val (by rw [if_neg h_60]) (g_ws (rfl) (hR (fun jx => (jj_56 0)) _ _ dX11_calls_80))
        · refine g_aload_n hC dX11_calls_63 rfl 0 rfl ?_
          refine g_get hC 0 11 7 inX11 m1_228 dX11_calls_64 rfl rfl (by decide) rfl ?_
          refine g_get hC 16 8 1 inX8 m1_207 dX11_calls_67 rfl rfl (by decide) rfl ?_
          refine g_goto (tgt := 80) hC dX11_calls_70 (by decide) ?_
          exact g_val (by rw [if_pos h_60]) (g_ws (rfl) (hR (fun jx => (jj_56 0)) _ _ dX11_calls_80))
      · exact Bool.noConfusion ((inB_ok (by omega) (by omega)).symm.trans h_21)
set_option maxHeartbeats 600000 in
set_option maxRecDepth 100000 in
theorem f_X11_calls_bad (l : Launch) (E : Ew) (x : Nat → Nat) (h : Nat → Nat) (dr : Nat → Nat) (da : Int32) (de : Int32) (no : Int32) (pa : Int32) (n : Nat) (r : Nat → Int32) (x0 : Int32) (y : Int32) (wh : Int32) (hn7 : n ≤ 7) (hb : (inB x0 n && inB y n && inB wh 2) = false) : Fn l E 2 yX11_calls cX11_calls 4 (some .int) [.ref (x 0), .int x0, .int y, .int wh] [(x 0, .inr (11, oL x h dr)), (h 0, .inr (5, oH h da (nI n) de no pa)), (x 3, .inl (E.2.1 0, 3, .inl r))] (some (.int (-2))) [(x 0, .inr (11, oL x h dr)), (h 0, .inr (5, oH h da (nI n) de no pa)), (x 3, .inl (E.2.1 0, 3, .inl (upd r 0 (r 0 + nI 1))))] := by
  refine fn_I (by decide) (Nat.le_of_ble_eq_true rfl) rfl ?_
  intro K hC hR
  show G K E 4 [(x 0, .inr (11, oL x h dr)), (h 0, .inr (5, oH h da (nI n) de no pa)), (x 3, .inl (E.2.1 0, 3, .inl r))] [(0, .ref (x 0)), (1, .int x0), (2, .int y), (3, .int wh)] 0 []
  refine g_aload_n hC dX11_calls_0 rfl 0 rfl ?_
  refine g_iload_n hC dX11_calls_1 rfl 1 rfl ?_
  refine g_callV hC (f_X11_isThere (kl K) E x h dr da de no pa n x0 (by omega)) wX11_isThere m2_156 dX11_calls_2 [0, 1] [(x 0, .inr (11, oL x h dr)), (h 0, .inr (5, oH h da (nI n) de no pa)), (x 3, .inl (E.2.1 0, 3, .inl r))] 0 11 rfl rfl (by decide) rfl (Nat.le_of_ble_eq_true rfl) rfl rfl rfl rfl rfl ?_
  refine g_if_eqB (tgt := 24) hC dX11_calls_5 (by decide) (fun h_5 => ?_) (fun h_5 => ?_)
  · refine g_aload_n hC dX11_calls_24 rfl 0 rfl ?_
    refine g_bipush (v := (-2)) hC dX11_calls_25 (by decide) ?_
    refine g_callV hC (f_X11_refuse_bad (kl K) E x h dr r) wX11_refuse m2_16 dX11_calls_27 [0, 2] [(x 0, .inr (11, oL x h dr)), (h 0, .inr (5, oH h da (nI n) de no pa)), (x 3, .inl (E.2.1 0, 3, .inl (upd r 0 (r 0 + nI 1))))] 0 11 rfl rfl (by decide) rfl (Nat.le_of_ble_eq_true rfl) rfl rfl rfl rfl rfl ?_
    exact g_val (rfl) (g_ws (rfl) (hR _ _ dX11_calls_30))
  · refine g_aload_n hC dX11_calls_8 rfl 0 rfl ?_
    refine g_iload_n hC dX11_calls_9 rfl 2 rfl ?_
    refine g_callV hC (f_X11_isThere (kl K) E x h dr da de no pa n y (by omega)) wX11_isThere m2_156 dX11_calls_10 [0, 1] [(x 0, .inr (11, oL x h dr)), (h 0, .inr (5, oH h da (nI n) de no pa)), (x 3, .inl (E.2.1 0, 3, .inl r))] 0 11 rfl rfl (by decide) rfl (Nat.le_of_ble_eq_true rfl) rfl rfl rfl rfl rfl ?_
    refine g_if_eqB (tgt := 24) hC dX11_calls_13 (by decide) (fun h_13 => ?_) (fun h_13 => ?_)
    · refine g_aload_n hC dX11_calls_24 rfl 0 rfl ?_
      refine g_bipush (v := (-2)) hC dX11_calls_25 (by decide) ?_
      refine g_callV hC (f_X11_refuse_bad (kl K) E x h dr r) wX11_refuse m2_16 dX11_calls_27 [0, 2] [(x 0, .inr (11, oL x h dr)), (h 0, .inr (5, oH h da (nI n) de no pa)), (x 3, .inl (E.2.1 0, 3, .inl (upd r 0 (r 0 + nI 1))))] 0 11 rfl rfl (by decide) rfl (Nat.le_of_ble_eq_true rfl) rfl rfl rfl rfl rfl ?_
      exact g_val (rfl) (g_ws (rfl) (hR _ _ dX11_calls_30))
    · refine g_iload_n hC dX11_calls_16 rfl 3 rfl ?_
      refine g_iconst (v := (nI 2)) hC dX11_calls_17 (by decide) ?_
      refine g_callS hC (f_X11_within (kl K) E wh 2 (by omega)) wX11_within m2_13 dX11_calls_18 [] [(x 0, .inr (11, oL x h dr)), (h 0, .inr (5, oH h da (nI n) de no pa)), (x 3, .inl (E.2.1 0, 3, .inl r))] (by decide) rfl (Nat.le_of_ble_eq_true rfl) rfl rfl rfl rfl rfl ?_
      refine g_if_neB (tgt := 31) hC dX11_calls_21 (by decide) (fun h_21 => ?_) (fun h_21 => ?_)
      · exact absurd hb (by simp [h_5, h_13, h_21])
      · refine g_aload_n hC dX11_calls_24 rfl 0 rfl ?_
        refine g_bipush (v := (-2)) hC dX11_calls_25 (by decide) ?_
        refine g_callV hC (f_X11_refuse_bad (kl K) E x h dr r) wX11_refuse m2_16 dX11_calls_27 [0, 2] [(x 0, .inr (11, oL x h dr)), (h 0, .inr (5, oH h da (nI n) de no pa)), (x 3, .inl (E.2.1 0, 3, .inl (upd r 0 (r 0 + nI 1))))] 0 11 rfl rfl (by decide) rfl (Nat.le_of_ble_eq_true rfl) rfl rfl rfl rfl rfl ?_
        exact g_val (rfl) (g_ws (rfl) (hR _ _ dX11_calls_30))
set_option maxHeartbeats 600000 in
set_option maxRecDepth 100000 in
theorem f_X11_own_ok (l : Launch) (E : Ew) (x : Nat → Nat) (h : Nat → Nat) (dr : Nat → Nat) (da : Int32) (de : Int32) (no : Int32) (pa : Int32) (n : Nat) (kd : Nat → Nat) (pl : Nat → Nat) (bn : Nat → Nat) (ao : Nat → Nat) (at1 : Nat → Nat) (an : Nat → Nat) (fw : Int32) (ft : Int32) (mt : Int32) (bh : Nat → Nat) (wh : Nat) (hn7 : n ≤ 7) (hkd : ∀ p, p < n → kd p < 6) (hpl : ∀ p, p < n → pl p < 10) (hb : ∀ j, j < 7 → bn j < 128) (hwh : wh < 3) : Fe l E 6 yX11_own cX11_own 2 (some .int) [.ref (x 0), .int (nI wh)] [(x 0, .inr (11, oL x h dr)), (x 7, .inr (6, oG x)), (x 8, .inl (E.2.1 4, 6, .inr (.inr (.inr (.inr (fun j => some (x (14 + j)))))))), (x 14, .inr (7, [])), (x 15, .inr (0, [])), (x 16, .inr (3, [])), (x 17, .inr (1, [])), (x 18, .inr (9, [])), (x 19, .inr (2, [])), (x 9, .inl (E.2.1 0, 10, .inl (nf ao))), (x 10, .inl (E.2.1 0, 10, .inl (nf at1))), (x 11, .inl (E.2.1 0, 10, .inl (nf an))), (h 0, .inr (5, oH h da (nI n) de no pa)), (h 1, .inl (E.2.1 0, 7, .inl (nf kd))), (h 2, .inl (E.2.1 0, 7, .inl (nf pl))), (h 3, .inl (E.2.1 0, 7, .inl (nf bn))), (x 12, .inr (8, oS x fw ft mt)), (x 13, .inl (E.2.1 0, 7, .inl (nf bh)))] (some (.int (if wh = 0 then (oaF (hL kd pl da true false n ao 10) (hL kd pl da false false n at1 10) (hL kd pl da false true n an 10) bn n).2.1 else if wh = 1 then (oaF (hL kd pl da true false n ao 10) (hL kd pl da false false n at1 10) (hL kd pl da false true n an 10) bn n).1 else (oaF (hL kd pl da true false n ao 10) (hL kd pl da false false n at1 10) (hL kd pl da false true n an 10) bn n).2.2))) (fun jj => [(x 0, .inr (11, oL x h dr)), (x 7, .inr (6, oG x)), (x 8, .inl (E.2.1 4, 6, .inr (.inr (.inr (.inr (fun j => some (x (14 + j)))))))), (x 14, .inr (7, [])), (x 15, .inr (0, [])), (x 16, .inr (3, [])), (x 17, .inr (1, [])), (x 18, .inr (9, [])), (x 19, .inr (2, [])), (x 9, .inl (E.2.1 0, 10, .inl (nf (hL kd pl da true false n ao 10)))), (x 10, .inl (E.2.1 0, 10, .inl (nf (hL kd pl da false false n at1 10)))), (x 11, .inl (E.2.1 0, 10, .inl (nf (hL kd pl da false true n an 10)))), (h 0, .inr (5, oH h da (nI n) de no pa)), (h 1, .inl (E.2.1 0, 7, .inl (nf kd))), (h 2, .inl (E.2.1 0, 7, .inl (nf pl))), (h 3, .inl (E.2.1 0, 7, .inl (nf bn))), (x 12, .inr (8, oS x ((oaF (hL kd pl da true false n ao 10) (hL kd pl da false false n at1 10) (hL kd pl da false true n an 10) bn n).2.1) ((oaF (hL kd pl da true false n ao 10) (hL kd pl da false false n at1 10) (hL kd pl da false true n an 10) bn n).2.2) ((oaF (hL kd pl da true false n ao 10) (hL kd pl da false false n at1 10) (hL kd pl da false true n an 10) bn n).1))), (x 13, .inl (E.2.1 0, 7, .inl (jj 0)))]) := by
  refine fe_I (by decide) (Nat.le_of_ble_eq_true rfl) (fun _ => rfl) ?_
  intro K hC hR
  show G K E 2 [(x 0, .inr (11, oL x h dr)), (x 7, .inr (6, oG x)), (x 8, .inl (E.2.1 4, 6, .inr (.inr (.inr (.inr (fun j => some (x (14 + j)))))))), (x 14, .inr (7, [])), (x 15, .inr (0, [])), (x 16, .inr (3, [])), (x 17, .inr (1, [])), (x 18, .inr (9, [])), (x 19, .inr (2, [])), (x 9, .inl (E.2.1 0, 10, .inl (nf ao))), (x 10, .inl (E.2.1 0, 10, .inl (nf at1))), (x 11, .inl (E.2.1 0, 10, .inl (nf an))), (h 0, .inr (5, oH h da (nI n) de no pa)), (h 1, .inl (E.2.1 0, 7, .inl (nf kd))), (h 2, .inl (E.2.1 0, 7, .inl (nf pl))), (h 3, .inl (E.2.1 0, 7, .inl (nf bn))), (x 12, .inr (8, oS x fw ft mt)), (x 13, .inl (E.2.1 0, 7, .inl (nf bh)))] [(0, .ref (x 0)), (1, .int (nI wh))] 0 []
  refine g_iload_n hC dX11_own_0 rfl 1 rfl ?_
  refine g_iconst (v := (nI 3)) hC dX11_own_1 (by decide) ?_
  refine g_callS hC (f_X11_within (kl K) E (nI wh) 3 (by omega)) wX11_within m2_13 dX11_own_2 [] [(x 0, .inr (11, oL x h dr)), (x 7, .inr (6, oG x)), (x 8, .inl (E.2.1 4, 6, .inr (.inr (.inr (.inr (fun j => some (x (14 + j)))))))), (x 14, .inr (7, [])), (x 15, .inr (0, [])), (x 16, .inr (3, [])), (x 17, .inr (1, [])), (x 18, .inr (9, [])), (x 19, .inr (2, [])), (x 9, .inl (E.2.1 0, 10, .inl (nf ao))), (x 10, .inl (E.2.1 0, 10, .inl (nf at1))), (x 11, .inl (E.2.1 0, 10, .inl (nf an))), (h 0, .inr (5, oH h da (nI n) de no pa)), (h 1, .inl (E.2.1 0, 7, .inl (nf kd))), (h 2, .inl (E.2.1 0, 7, .inl (nf pl))), (h 3, .inl (E.2.1 0, 7, .inl (nf bn))), (x 12, .inr (8, oS x fw ft mt)), (x 13, .inl (E.2.1 0, 7, .inl (nf bh)))] (by decide) rfl (Nat.le_of_ble_eq_true rfl) rfl rfl rfl rfl rfl ?_
  refine g_if_neB (tgt := 15) hC dX11_own_5 (by decide) (fun h_5 => ?_) (fun h_5 => ?_)
  · refine g_aload_n hC dX11_own_15 rfl 0 rfl ?_
    refine g_get hC 0 11 6 inX11 m1_227 dX11_own_16 rfl rfl (by decide) rfl ?_
    refine g_aload_n hC dX11_own_19 rfl 0 rfl ?_
    refine g_get hC 0 11 0 inX11 m1_221 dX11_own_20 rfl rfl (by decide) rfl ?_
    refine g_callV hC (f_X6_listen (kl K) E x h da de no pa n kd pl ao at1 an (by omega) (hkd) (hpl)) wX6_listen m3_21 dX11_own_23 [1, 2, 3, 4, 5, 6, 7, 8, 9, 10, 11, 12, 13, 14] [(x 0, .inr (11, oL x h dr)), (x 7, .inr (6, oG x)), (x 8, .inl (E.2.1 4, 6, .inr (.inr (.inr (.inr (fun j => some (x (14 + j)))))))), (x 14, .inr (7, [])), (x 15, .inr (0, [])), (x 16, .inr (3, [])), (x 17, .inr (1, [])), (x 18, .inr (9, [])), (x 19, .inr (2, [])), (x 9, .inl (E.2.1 0, 10, .inl (nf (hL kd pl da true false n ao 10)))), (x 10, .inl (E.2.1 0, 10, .inl (nf (hL kd pl da false false n at1 10)))), (x 11, .inl (E.2.1 0, 10, .inl (nf (hL kd pl da false true n an 10)))), (h 0, .inr (5, oH h da (nI n) de no pa)), (h 1, .inl (E.2.1 0, 7, .inl (nf kd))), (h 2, .inl (E.2.1 0, 7, .inl (nf pl))), (h 3, .inl (E.2.1 0, 7, .inl (nf bn))), (x 12, .inr (8, oS x fw ft mt)), (x 13, .inl (E.2.1 0, 7, .inl (nf bh)))] 1 6 rfl rfl (by decide) rfl (Nat.le_of_ble_eq_true rfl) rfl rfl rfl rfl rfl ?_
    refine g_aload_n hC dX11_own_26 rfl 0 rfl ?_
    refine g_get hC 0 11 7 inX11 m1_228 dX11_own_27 rfl rfl (by decide) rfl ?_
    refine g_aload_n hC dX11_own_30 rfl 0 rfl ?_
    refine g_get hC 0 11 0 inX11 m1_221 dX11_own_31 rfl rfl (by decide) rfl ?_
    refine g_aload_n hC dX11_own_34 rfl 0 rfl ?_
    refine g_get hC 0 11 6 inX11 m1_227 dX11_own_35 rfl rfl (by decide) rfl ?_
    refine g_callVE hC (f_X8_ownAgain (kl K) E x fw ft mt bh h da de no pa n bn (hL kd pl da true false n ao 10) (hL kd pl da false false n at1 10) (hL kd pl da false true n an 10) (by omega) (fun p hp => ⟨hL_128 hn7 hp, hL_128 hn7 hp, hL_128 hn7 hp⟩) (hb)) wX8_ownAgain m3_47 dX11_own_38 [16, 17, 1, 9, 10, 11, 12, 15] (fun jj => [(x 0, .inr (11, oL x h dr)), (x 7, .inr (6, oG x)), (x 8, .inl (E.2.1 4, 6, .inr (.inr (.inr (.inr (fun j => some (x (14 + j)))))))), (x 14, .inr (7, [])), (x 15, .inr (0, [])), (x 16, .inr (3, [])), (x 17, .inr (1, [])), (x 18, .inr (9, [])), (x 19, .inr (2, [])), (x 9, .inl (E.2.1 0, 10, .inl (nf (hL kd pl da true false n ao 10)))), (x 10, .inl (E.2.1 0, 10, .inl (nf (hL kd pl da false false n at1 10)))), (x 11, .inl (E.2.1 0, 10, .inl (nf (hL kd pl da false true n an 10)))), (h 0, .inr (5, oH h da (nI n) de no pa)), (h 1, .inl (E.2.1 0, 7, .inl (nf kd))), (h 2, .inl (E.2.1 0, 7, .inl (nf pl))), (h 3, .inl (E.2.1 0, 7, .inl (nf bn))), (x 12, .inr (8, oS x ((oaF (hL kd pl da true false n ao 10) (hL kd pl da false false n at1 10) (hL kd pl da false true n an 10) bn n).2.1) ((oaF (hL kd pl da true false n ao 10) (hL kd pl da false false n at1 10) (hL kd pl da false true n an 10) bn n).2.2) ((oaF (hL kd pl da true false n ao 10) (hL kd pl da false false n at1 10) (hL kd pl da false true n an 10) bn n).1))), (x 13, .inl (E.2.1 0, 7, .inl (jj 0)))]) 16 8 rfl rfl (by decide) rfl (Nat.le_of_ble_eq_true rfl) rfl rfl rfl (fun _ => rfl) (fun _ => rfl) (fun jj_38 => ?_)
    refine g_iload_n hC dX11_own_41 rfl 1 rfl ?_
    refine g_if_neN (tgt := 53) hC dX11_own_42 (by decide) (by omega) (fun h_42 => ?_) (fun h_42 => ?_)
    · refine g_iload_n hC dX11_own_53 rfl 1 rfl ?_
      refine g_iconst (v := (nI 1)) hC dX11_own_54 (by decide) ?_
      refine g_icmp_neN (tgt := 68) hC dX11_own_55 (by decide) (by omega) (by omega) (fun h_55 => ?_) (fun h_55 => ?_)
      · refine g_aload_n hC dX11_own_68 rfl 0 rfl ?_
        refine g_get hC 0 11 7 inX11 m1_228 dX11_own_69 rfl rfl (by decide) rfl ?_
        refine g_get hC 16 8 2 inX8 m1_209 dX11_own_72 rfl rfl (by decide) rfl ?_
        exact g_val (by rw [if_neg h_42, if_neg h_55]) (g_ws (rfl) (hR (fun jx => (jj_38 0)) _ _ dX11_own_75))
      · refine g_aload_n hC dX11_own_58 rfl 0 rfl ?_
        refine g_get hC 0 11 7 inX11 m1_228 dX11_own_59 rfl rfl (by decide) rfl ?_
        refine g_get hC 16 8 3 inX8 m1_211 dX11_own_62 rfl rfl (by decide) rfl ?_
        refine g_goto (tgt := 75) hC dX11_own_65 (by decide) ?_
        exact g_val (by rw [if_neg h_42, if_pos h_55]) (g_ws (rfl) (hR (fun jx => (jj_38 0)) _ _ dX11_own_75))
    · refine g_aload_n hC dX11_own_45 rfl 0 rfl ?_
      refine g_get hC 0 11 7 inX11 m1_228 dX11_own_46 rfl rfl (by decide) rfl ?_
      refine g_get hC 16 8 1 inX8 m1_207 dX11_own_49 rfl rfl (by decide) rfl ?_
      exact g_val (by rw [if_pos h_42]) (g_ws (rfl) (hR (fun jx => (jj_38 0)) _ _ dX11_own_52))
  · exact Bool.noConfusion ((inB_ok (by omega) (by omega)).symm.trans h_5)
set_option maxHeartbeats 600000 in
set_option maxRecDepth 100000 in
theorem f_X11_own_bad (l : Launch) (E : Ew) (x : Nat → Nat) (h : Nat → Nat) (dr : Nat → Nat) (r : Nat → Int32) (wh : Int32) (hb : inB wh 3 = false) : Fn l E 2 yX11_own cX11_own 2 (some .int) [.ref (x 0), .int wh] [(x 0, .inr (11, oL x h dr)), (x 3, .inl (E.2.1 0, 3, .inl r))] (some (.int (-2))) [(x 0, .inr (11, oL x h dr)), (x 3, .inl (E.2.1 0, 3, .inl (upd r 0 (r 0 + nI 1))))] := by
  refine fn_I (by decide) (Nat.le_of_ble_eq_true rfl) rfl ?_
  intro K hC hR
  show G K E 2 [(x 0, .inr (11, oL x h dr)), (x 3, .inl (E.2.1 0, 3, .inl r))] [(0, .ref (x 0)), (1, .int wh)] 0 []
  refine g_iload_n hC dX11_own_0 rfl 1 rfl ?_
  refine g_iconst (v := (nI 3)) hC dX11_own_1 (by decide) ?_
  refine g_callS hC (f_X11_within (kl K) E wh 3 (by omega)) wX11_within m2_13 dX11_own_2 [] [(x 0, .inr (11, oL x h dr)), (x 3, .inl (E.2.1 0, 3, .inl r))] (by decide) rfl (Nat.le_of_ble_eq_true rfl) rfl rfl rfl rfl rfl ?_
  refine g_if_neB (tgt := 15) hC dX11_own_5 (by decide) (fun h_5 => ?_) (fun h_5 => ?_)
  · exact absurd h_5 (by rw [hb]; decide)
  · refine g_aload_n hC dX11_own_8 rfl 0 rfl ?_
    refine g_bipush (v := (-2)) hC dX11_own_9 (by decide) ?_
    refine g_callV hC (f_X11_refuse_bad (kl K) E x h dr r) wX11_refuse m2_16 dX11_own_11 [0, 1] [(x 0, .inr (11, oL x h dr)), (x 3, .inl (E.2.1 0, 3, .inl (upd r 0 (r 0 + nI 1))))] 0 11 rfl rfl (by decide) rfl (Nat.le_of_ble_eq_true rfl) rfl rfl rfl rfl rfl ?_
    exact g_val (rfl) (g_ws (rfl) (hR _ _ dX11_own_14))
set_option maxHeartbeats 600000 in
set_option maxRecDepth 100000 in
theorem f_X11_ring_ok (l : Launch) (E : Ew) (x : Nat → Nat) (h : Nat → Nat) (dr : Nat → Nat) (da : Int32) (de : Int32) (no : Int32) (pa : Int32) (n : Nat) (bn : Nat → Nat) (p : Nat) (hn7 : n ≤ 7) (hb : ∀ j, j < 7 → bn j < 128) (hp : p < n) : Fn l E 2 yX11_ring cX11_ring 4 (some .int) [.ref (x 0), .int (nI p)] [(x 0, .inr (11, oL x h dr)), (h 0, .inr (5, oH h da (nI n) de no pa)), (h 3, .inl (E.2.1 0, 7, .inl (nf bn)))] (some (.int (nI (rgC bn n p n p 1)))) [(x 0, .inr (11, oL x h dr)), (h 0, .inr (5, oH h da (nI n) de no pa)), (h 3, .inl (E.2.1 0, 7, .inl (nf bn)))] := by
  refine fn_I (by decide) (Nat.le_of_ble_eq_true rfl) rfl ?_
  intro K hC hR
  show G K E 4 [(x 0, .inr (11, oL x h dr)), (h 0, .inr (5, oH h da (nI n) de no pa)), (h 3, .inl (E.2.1 0, 7, .inl (nf bn)))] [(0, .ref (x 0)), (1, .int (nI p))] 0 []
  refine g_aload_n hC dX11_ring_0 rfl 0 rfl ?_
  refine g_iload_n hC dX11_ring_1 rfl 1 rfl ?_
  refine g_callV hC (f_X11_isThere (kl K) E x h dr da de no pa n (nI p) (by omega)) wX11_isThere m2_156 dX11_ring_2 [0, 1] [(x 0, .inr (11, oL x h dr)), (h 0, .inr (5, oH h da (nI n) de no pa)), (h 3, .inl (E.2.1 0, 7, .inl (nf bn)))] 0 11 rfl rfl (by decide) rfl (Nat.le_of_ble_eq_true rfl) rfl rfl rfl rfl rfl ?_
  refine g_if_neB (tgt := 15) hC dX11_ring_5 (by decide) (fun h_5 => ?_) (fun h_5 => ?_)
  · refine g_iload_n hC dX11_ring_15 rfl 1 rfl ?_
    refine g_istore_n hC [(2, .int (nI p)), (0, .ref (x 0)), (1, .int (nI p))] dX11_ring_16 rfl (by decide) rfl ?_
    refine g_iconst (v := (nI 1)) hC dX11_ring_17 (by decide) ?_
    refine g_istore_n hC [(3, .int (nI 1)), (2, .int (nI p)), (0, .ref (x 0)), (1, .int (nI p))] dX11_ring_18 rfl (by decide) rfl ?_
    have L_19 : ∀ (fu : Nat) (k : Nat) (a : Nat) (hk : 1 ≤ k ∧ k ≤ n + 1) (ha : a < n) (hr : rgC bn n p n p 1 = rgC bn n p (n + 1 - k) a k), n + 1 - k < fu → G K E 4 [(x 0, .inr (11, oL x h dr)), (h 0, .inr (5, oH h da (nI n) de no pa)), (h 3, .inl (E.2.1 0, 7, .inl (nf bn)))] [(3, .int (nI k)), (2, .int (nI a)), (0, .ref (x 0)), (1, .int (nI p))] 19 [] := by
      intro fu
      induction fu with
      | zero => intro k a hk ha hr hm_19; exact absurd hm_19 (Nat.not_lt_zero _)
      | succ fu ih_19 =>
        intro k a hk ha hr hm_19
        refine g_iload_n hC dX11_ring_19 rfl 0 rfl ?_
        refine g_aload_n hC dX11_ring_20 rfl 2 rfl ?_
        refine g_get hC 0 11 0 inX11 m1_221 dX11_ring_21 rfl rfl (by decide) rfl ?_
        refine g_get hC 1 5 1 inX5 m1_40 dX11_ring_24 rfl rfl (by decide) rfl ?_
        refine g_icmp_gtN (tgt := 59) hC dX11_ring_27 (by decide) (by omega) (by omega) (fun h_27 => ?_) (fun h_27 => ?_)
        · refine g_iconst (v := (nI 0)) hC dX11_ring_59 (by decide) ?_
          exact g_val (by rw [hr, show n + 1 - k = 0 by omega, rgC]) (g_ws (rfl) (hR _ _ dX11_ring_60))
        · refine g_aload_n hC dX11_ring_30 rfl 2 rfl ?_
          refine g_get hC 0 11 0 inX11 m1_221 dX11_ring_31 rfl rfl (by decide) rfl ?_
          refine g_iload_n hC dX11_ring_34 rfl 1 rfl ?_
          refine g_callV hC (f_X5_nameOf (kl K) E h da de no pa bn n a (by omega) (fun j hj => Nat.lt_trans (hb j hj) (by decide)) (by omega)) wX5_nameOf m2_232 dX11_ring_35 [1, 2] [(x 0, .inr (11, oL x h dr)), (h 0, .inr (5, oH h da (nI n) de no pa)), (h 3, .inl (E.2.1 0, 7, .inl (nf bn)))] 1 5 rfl rfl (by decide) rfl (Nat.le_of_ble_eq_true rfl) rfl rfl rfl rfl rfl ?_
          refine g_val (v' := .int (nmF bn n a)) (rfl) ?_
          refine g_istore_n hC [(2, .int (nmF bn n a)), (3, .int (nI k)), (0, .ref (x 0)), (1, .int (nI p))] dX11_ring_38 rfl (by decide) rfl ?_
          refine g_iload_n hC dX11_ring_39 rfl 0 rfl ?_
          refine g_iload_n hC dX11_ring_40 rfl 3 rfl ?_
          refine g_icmp_ne (tgt := 46) hC dX11_ring_41 (by decide) (fun h_41 => ?_) (fun h_41 => ?_)
          · refine g_iload_n hC dX11_ring_46 rfl 0 rfl ?_
            refine g_iconst (v := (-1)) hC dX11_ring_47 (by decide) ?_
            refine g_icmp_ne (tgt := 53) hC dX11_ring_48 (by decide) (fun h_48 => ?_) (fun h_48 => ?_)
            · refine g_iincN hC (q := 1) 1 [(3, .int (nI (k + 1))), (2, .int (nmF bn n a)), (0, .ref (x 0)), (1, .int (nI p))] dX11_ring_53 rfl rfl (by decide) rfl ?_
              refine g_goto (tgt := 19) hC dX11_ring_56 (by decide) ?_
              refine g_lv (lv' := [(3, .int (nI (k + 1))), (2, .int (nmF bn n a)), (0, .ref (x 0)), (1, .int (nI p))]) [0, 1, 2, 3] rfl ?_
              refine g_lve (lv' := [(3, .int (nI (k + 1))), (2, .int (nI (tn (nmF bn n a)))), (0, .ref (x 0)), (1, .int (nI p))]) (by rw [← (nmF_N hn7 h_48).1]) ?_
              exact ih_19 (k + 1) (tn (nmF bn n a)) (by omega) ((nmF_N hn7 h_48).2) (by rw [hr, show n + 1 - k = (n - k) + 1 by omega, rgC_s h_41 h_48, show n + 1 - (k + 1) = n - k by omega]) (by omega)
            · refine g_iconst (v := (nI 0)) hC dX11_ring_51 (by decide) ?_
              exact g_val (by rw [hr, show n + 1 - k = (n - k) + 1 by omega, rgC, if_neg h_41, if_pos h_48]) (g_ws (rfl) (hR _ _ dX11_ring_52))
          · refine g_iload_n hC dX11_ring_44 rfl 1 rfl ?_
            exact g_val (by rw [hr, show n + 1 - k = (n - k) + 1 by omega, rgC, if_pos h_41]) (g_ws (rfl) (hR _ _ dX11_ring_45))
    refine g_lv (lv' := [(3, .int (nI 1)), (2, .int (nI p)), (0, .ref (x 0)), (1, .int (nI p))]) [0, 1, 2, 3] rfl ?_
    exact L_19 ((n + 1 - 1) + 1) 1 p (by omega) (hp) (rfl) (Nat.lt_succ_self _)
  · exact Bool.noConfusion ((inB_ok (by omega) (by omega)).symm.trans h_5)
set_option maxHeartbeats 600000 in
set_option maxRecDepth 100000 in
theorem f_X11_ring_bad (l : Launch) (E : Ew) (x : Nat → Nat) (h : Nat → Nat) (dr : Nat → Nat) (da : Int32) (de : Int32) (no : Int32) (pa : Int32) (n : Nat) (r : Nat → Int32) (x0 : Int32) (hn7 : n ≤ 7) (hb : inB x0 n = false) : Fn l E 2 yX11_ring cX11_ring 4 (some .int) [.ref (x 0), .int x0] [(x 0, .inr (11, oL x h dr)), (h 0, .inr (5, oH h da (nI n) de no pa)), (x 3, .inl (E.2.1 0, 3, .inl r))] (some (.int (-2))) [(x 0, .inr (11, oL x h dr)), (h 0, .inr (5, oH h da (nI n) de no pa)), (x 3, .inl (E.2.1 0, 3, .inl (upd r 0 (r 0 + nI 1))))] := by
  refine fn_I (by decide) (Nat.le_of_ble_eq_true rfl) rfl ?_
  intro K hC hR
  show G K E 4 [(x 0, .inr (11, oL x h dr)), (h 0, .inr (5, oH h da (nI n) de no pa)), (x 3, .inl (E.2.1 0, 3, .inl r))] [(0, .ref (x 0)), (1, .int x0)] 0 []
  refine g_aload_n hC dX11_ring_0 rfl 0 rfl ?_
  refine g_iload_n hC dX11_ring_1 rfl 1 rfl ?_
  refine g_callV hC (f_X11_isThere (kl K) E x h dr da de no pa n x0 (by omega)) wX11_isThere m2_156 dX11_ring_2 [0, 1] [(x 0, .inr (11, oL x h dr)), (h 0, .inr (5, oH h da (nI n) de no pa)), (x 3, .inl (E.2.1 0, 3, .inl r))] 0 11 rfl rfl (by decide) rfl (Nat.le_of_ble_eq_true rfl) rfl rfl rfl rfl rfl ?_
  refine g_if_neB (tgt := 15) hC dX11_ring_5 (by decide) (fun h_5 => ?_) (fun h_5 => ?_)
  · exact absurd h_5 (by rw [hb]; decide)
  · refine g_aload_n hC dX11_ring_8 rfl 0 rfl ?_
    refine g_bipush (v := (-2)) hC dX11_ring_9 (by decide) ?_
    refine g_callV hC (f_X11_refuse_bad (kl K) E x h dr r) wX11_refuse m2_16 dX11_ring_11 [0, 2] [(x 0, .inr (11, oL x h dr)), (h 0, .inr (5, oH h da (nI n) de no pa)), (x 3, .inl (E.2.1 0, 3, .inl (upd r 0 (r 0 + nI 1))))] 0 11 rfl rfl (by decide) rfl (Nat.le_of_ble_eq_true rfl) rfl rfl rfl rfl rfl ?_
    exact g_val (rfl) (g_ws (rfl) (hR _ _ dX11_ring_14))
set_option maxHeartbeats 600000 in
set_option maxRecDepth 100000 in
theorem f_X11_owes_bad (l : Launch) (E : Ew) (x : Nat → Nat) (h : Nat → Nat) (dr : Nat → Nat) (da : Int32) (de : Int32) (no : Int32) (pa : Int32) (n : Nat) (r : Nat → Int32) (x0 : Int32) (hn7 : n ≤ 7) (hb : inB x0 n = false) : Fn l E 2 yX11_owes cX11_owes 3 (some .int) [.ref (x 0), .int x0] [(x 0, .inr (11, oL x h dr)), (h 0, .inr (5, oH h da (nI n) de no pa)), (x 3, .inl (E.2.1 0, 3, .inl r))] (some (.int (-2))) [(x 0, .inr (11, oL x h dr)), (h 0, .inr (5, oH h da (nI n) de no pa)), (x 3, .inl (E.2.1 0, 3, .inl (upd r 0 (r 0 + nI 1))))] := by
  refine fn_I (by decide) (Nat.le_of_ble_eq_true rfl) rfl ?_
  intro K hC hR
  show G K E 3 [(x 0, .inr (11, oL x h dr)), (h 0, .inr (5, oH h da (nI n) de no pa)), (x 3, .inl (E.2.1 0, 3, .inl r))] [(0, .ref (x 0)), (1, .int x0)] 0 []
  refine g_aload_n hC dX11_owes_0 rfl 0 rfl ?_
  refine g_iload_n hC dX11_owes_1 rfl 1 rfl ?_
  refine g_callV hC (f_X11_isThere (kl K) E x h dr da de no pa n x0 (by omega)) wX11_isThere m2_156 dX11_owes_2 [0, 1] [(x 0, .inr (11, oL x h dr)), (h 0, .inr (5, oH h da (nI n) de no pa)), (x 3, .inl (E.2.1 0, 3, .inl r))] 0 11 rfl rfl (by decide) rfl (Nat.le_of_ble_eq_true rfl) rfl rfl rfl rfl rfl ?_
  refine g_if_neB (tgt := 15) hC dX11_owes_5 (by decide) (fun h_5 => ?_) (fun h_5 => ?_)
  · exact absurd h_5 (by rw [hb]; decide)
  · refine g_aload_n hC dX11_owes_8 rfl 0 rfl ?_
    refine g_bipush (v := (-2)) hC dX11_owes_9 (by decide) ?_
    refine g_callV hC (f_X11_refuse_bad (kl K) E x h dr r) wX11_refuse m2_16 dX11_owes_11 [0, 2] [(x 0, .inr (11, oL x h dr)), (h 0, .inr (5, oH h da (nI n) de no pa)), (x 3, .inl (E.2.1 0, 3, .inl (upd r 0 (r 0 + nI 1))))] 0 11 rfl rfl (by decide) rfl (Nat.le_of_ble_eq_true rfl) rfl rfl rfl rfl rfl ?_
    exact g_val (rfl) (g_ws (rfl) (hR _ _ dX11_owes_14))
set_option maxHeartbeats 600000 in
set_option maxRecDepth 100000 in
theorem f_X11_deed_ok (l : Launch) (E : Ew) (x : Nat → Nat) (h : Nat → Nat) (dr : Nat → Nat) (da : Int32) (no : Int32) (pa : Int32) (n : Nat) (u : Nat) (dn : Nat → Nat) (dp : Nat → Nat) (x0 : Nat) (c : Nat) (hn7 : n ≤ 7) (hx : x0 < n) (hc : 1 ≤ c ∧ c ≤ 60) (hu : u < 6) : Fn l E 2 yX11_deed cX11_deed 3 (some .int) [.ref (x 0), .int (nI x0), .int (nI c)] [(x 0, .inr (11, oL x h dr)), (h 0, .inr (5, oH h da (nI n) (nI u) no pa)), (h 4, .inl (E.2.1 0, 6, .inl (nf dn))), (h 5, .inl (E.2.1 0, 6, .inl (nf dp)))] (some (.int (nI (u + 1)))) [(x 0, .inr (11, oL x h dr)), (h 0, .inr (5, oH h da (nI n) (nI (u + 1)) no pa)), (h 4, .inl (E.2.1 0, 6, .inl (nf (un dn u x0)))), (h 5, .inl (E.2.1 0, 6, .inl (nf (un dp u c))))] := by
  refine fn_I (by decide) (Nat.le_of_ble_eq_true rfl) rfl ?_
  intro K hC hR
  show G K E 3 [(x 0, .inr (11, oL x h dr)), (h 0, .inr (5, oH h da (nI n) (nI u) no pa)), (h 4, .inl (E.2.1 0, 6, .inl (nf dn))), (h 5, .inl (E.2.1 0, 6, .inl (nf dp)))] [(0, .ref (x 0)), (1, .int (nI x0)), (2, .int (nI c))] 0 []
  refine g_aload_n hC dX11_deed_0 rfl 0 rfl ?_
  refine g_iload_n hC dX11_deed_1 rfl 1 rfl ?_
  refine g_callV hC (f_X11_isThere (kl K) E x h dr da (nI u) no pa n (nI x0) (by omega)) wX11_isThere m2_156 dX11_deed_2 [0, 1] [(x 0, .inr (11, oL x h dr)), (h 0, .inr (5, oH h da (nI n) (nI u) no pa)), (h 4, .inl (E.2.1 0, 6, .inl (nf dn))), (h 5, .inl (E.2.1 0, 6, .inl (nf dp)))] 0 11 rfl rfl (by decide) rfl (Nat.le_of_ble_eq_true rfl) rfl rfl rfl rfl rfl ?_
  refine g_if_eqB (tgt := 19) hC dX11_deed_5 (by decide) (fun h_5 => ?_) (fun h_5 => ?_)
  · exact Bool.noConfusion ((inB_ok (by omega) (by omega)).symm.trans h_5)
  · refine g_iload_n hC dX11_deed_8 rfl 2 rfl ?_
    refine g_iconst (v := (nI 1)) hC dX11_deed_9 (by decide) ?_
    refine g_icmp_ltN (tgt := 19) hC dX11_deed_10 (by decide) (by omega) (by omega) (fun h_10 => ?_) (fun h_10 => ?_)
    · omega
    · refine g_iload_n hC dX11_deed_13 rfl 2 rfl ?_
      refine g_bipush (v := (nI 60)) hC dX11_deed_14 (by decide) ?_
      refine g_icmp_leN (tgt := 26) hC dX11_deed_16 (by decide) (by omega) (by omega) (fun h_16 => ?_) (fun h_16 => ?_)
      · refine g_aload_n hC dX11_deed_26 rfl 0 rfl ?_
        refine g_get hC 0 11 0 inX11 m1_221 dX11_deed_27 rfl rfl (by decide) rfl ?_
        refine g_get hC 1 5 5 inX5 m1_54 dX11_deed_30 rfl rfl (by decide) rfl ?_
        refine g_bipush (v := (nI 6)) hC dX11_deed_33 (by decide) ?_
        refine g_icmp_ltN (tgt := 45) hC dX11_deed_35 (by decide) (by omega) (by omega) (fun h_35 => ?_) (fun h_35 => ?_)
        · refine g_aload_n hC dX11_deed_45 rfl 0 rfl ?_
          refine g_get hC 0 11 0 inX11 m1_221 dX11_deed_46 rfl rfl (by decide) rfl ?_
          refine g_get hC 1 5 6 inX5 m1_56 dX11_deed_49 rfl rfl (by decide) rfl ?_
          refine g_aload_n hC dX11_deed_52 rfl 0 rfl ?_
          refine g_get hC 0 11 0 inX11 m1_221 dX11_deed_53 rfl rfl (by decide) rfl ?_
          refine g_get hC 1 5 5 inX5 m1_54 dX11_deed_56 rfl rfl (by decide) rfl ?_
          refine g_iload_n hC dX11_deed_59 rfl 1 rfl ?_
          refine g_iastN hC 2 [(x 0, .inr (11, oL x h dr)), (h 0, .inr (5, oH h da (nI n) (nI u) no pa)), (h 4, .inl (E.2.1 0, 6, .inl (upd (nf dn) u (nI x0)))), (h 5, .inl (E.2.1 0, 6, .inl (nf dp)))] dX11_deed_60 rfl (by decide) (by omega) rfl ?_
          refine g_ws (ws' := [(x 0, .inr (11, oL x h dr)), (h 0, .inr (5, oH h da (nI n) (nI u) no pa)), (h 4, .inl (E.2.1 0, 6, .inl (nf (un dn u x0)))), (h 5, .inl (E.2.1 0, 6, .inl (nf dp)))]) (by rw [nf_u dn u x0]) ?_
          refine g_aload_n hC dX11_deed_61 rfl 0 rfl ?_
          refine g_get hC 0 11 0 inX11 m1_221 dX11_deed_62 rfl rfl (by decide) rfl ?_
          refine g_get hC 1 5 7 inX5 m1_58 dX11_deed_65 rfl rfl (by decide) rfl ?_
          refine g_aload_n hC dX11_deed_68 rfl 0 rfl ?_
          refine g_get hC 0 11 0 inX11 m1_221 dX11_deed_69 rfl rfl (by decide) rfl ?_
          refine g_get hC 1 5 5 inX5 m1_54 dX11_deed_72 rfl rfl (by decide) rfl ?_
          refine g_iload_n hC dX11_deed_75 rfl 2 rfl ?_
          refine g_iastN hC 3 [(x 0, .inr (11, oL x h dr)), (h 0, .inr (5, oH h da (nI n) (nI u) no pa)), (h 4, .inl (E.2.1 0, 6, .inl (nf (un dn u x0)))), (h 5, .inl (E.2.1 0, 6, .inl (upd (nf dp) u (nI c))))] dX11_deed_76 rfl (by decide) (by omega) rfl ?_
          refine g_ws (ws' := [(x 0, .inr (11, oL x h dr)), (h 0, .inr (5, oH h da (nI n) (nI u) no pa)), (h 4, .inl (E.2.1 0, 6, .inl (nf (un dn u x0)))), (h 5, .inl (E.2.1 0, 6, .inl (nf (un dp u c))))]) (by rw [nf_u dp u c]) ?_
          refine g_aload_n hC dX11_deed_77 rfl 0 rfl ?_
          refine g_get hC 0 11 0 inX11 m1_221 dX11_deed_78 rfl rfl (by decide) rfl ?_
          refine g_dup hC dX11_deed_81 rfl ?_
          refine g_get hC 1 5 5 inX5 m1_54 dX11_deed_82 rfl rfl (by decide) rfl ?_
          refine g_iconst (v := (nI 1)) hC dX11_deed_85 (by decide) ?_
          refine g_iaddN hC dX11_deed_86 ?_
          refine g_put hC 1 5 5 [(x 0, .inr (11, oL x h dr)), (h 0, .inr (5, oH h da (nI n) (nI (u + 1)) no pa)), (h 4, .inl (E.2.1 0, 6, .inl (nf (un dn u x0)))), (h 5, .inl (E.2.1 0, 6, .inl (nf (un dp u c))))] .int inX5 tyX5_ok nmX5 m1_54 dX11_deed_87 rfl rfl (by decide) rfl (by decide +kernel) rfl rfl (Nat.le_of_ble_eq_true rfl) rfl ?_
          refine g_aload_n hC dX11_deed_90 rfl 0 rfl ?_
          refine g_get hC 0 11 0 inX11 m1_221 dX11_deed_91 rfl rfl (by decide) rfl ?_
          refine g_get hC 1 5 5 inX5 m1_54 dX11_deed_94 rfl rfl (by decide) rfl ?_
          exact g_val (rfl) (g_ws (rfl) (hR _ _ dX11_deed_97))
        · omega
      · omega
set_option maxHeartbeats 600000 in
set_option maxRecDepth 100000 in
theorem f_X11_deed_full (l : Launch) (E : Ew) (x : Nat → Nat) (h : Nat → Nat) (dr : Nat → Nat) (da : Int32) (no : Int32) (pa : Int32) (n : Nat) (r : Nat → Int32) (x0 : Nat) (c : Nat) (hn7 : n ≤ 7) (hx : x0 < n) (hc : 1 ≤ c ∧ c ≤ 60) : Fn l E 2 yX11_deed cX11_deed 3 (some .int) [.ref (x 0), .int (nI x0), .int (nI c)] [(x 0, .inr (11, oL x h dr)), (h 0, .inr (5, oH h da (nI n) (nI 6) no pa)), (x 3, .inl (E.2.1 0, 3, .inl r))] (some (.int (-4))) [(x 0, .inr (11, oL x h dr)), (h 0, .inr (5, oH h da (nI n) (nI 6) no pa)), (x 3, .inl (E.2.1 0, 3, .inl (upd r 2 (r 2 + nI 1))))] := by
  refine fn_I (by decide) (Nat.le_of_ble_eq_true rfl) rfl ?_
  intro K hC hR
  show G K E 3 [(x 0, .inr (11, oL x h dr)), (h 0, .inr (5, oH h da (nI n) (nI 6) no pa)), (x 3, .inl (E.2.1 0, 3, .inl r))] [(0, .ref (x 0)), (1, .int (nI x0)), (2, .int (nI c))] 0 []
  refine g_aload_n hC dX11_deed_0 rfl 0 rfl ?_
  refine g_iload_n hC dX11_deed_1 rfl 1 rfl ?_
  refine g_callV hC (f_X11_isThere (kl K) E x h dr da (nI 6) no pa n (nI x0) (by omega)) wX11_isThere m2_156 dX11_deed_2 [0, 1] [(x 0, .inr (11, oL x h dr)), (h 0, .inr (5, oH h da (nI n) (nI 6) no pa)), (x 3, .inl (E.2.1 0, 3, .inl r))] 0 11 rfl rfl (by decide) rfl (Nat.le_of_ble_eq_true rfl) rfl rfl rfl rfl rfl ?_
  refine g_if_eqB (tgt := 19) hC dX11_deed_5 (by decide) (fun h_5 => ?_) (fun h_5 => ?_)
  · exact Bool.noConfusion ((inB_ok (by omega) (by omega)).symm.trans h_5)
  · refine g_iload_n hC dX11_deed_8 rfl 2 rfl ?_
    refine g_iconst (v := (nI 1)) hC dX11_deed_9 (by decide) ?_
    refine g_icmp_ltN (tgt := 19) hC dX11_deed_10 (by decide) (by omega) (by omega) (fun h_10 => ?_) (fun h_10 => ?_)
    · omega
    · refine g_iload_n hC dX11_deed_13 rfl 2 rfl ?_
      refine g_bipush (v := (nI 60)) hC dX11_deed_14 (by decide) ?_
      refine g_icmp_leN (tgt := 26) hC dX11_deed_16 (by decide) (by omega) (by omega) (fun h_16 => ?_) (fun h_16 => ?_)
      · refine g_aload_n hC dX11_deed_26 rfl 0 rfl ?_
        refine g_get hC 0 11 0 inX11 m1_221 dX11_deed_27 rfl rfl (by decide) rfl ?_
        refine g_get hC 1 5 5 inX5 m1_54 dX11_deed_30 rfl rfl (by decide) rfl ?_
        refine g_bipush (v := (nI 6)) hC dX11_deed_33 (by decide) ?_
        refine g_icmp_ltN (tgt := 45) hC dX11_deed_35 (by decide) (by omega) (by omega) (fun h_35 => ?_) (fun h_35 => ?_)
        · omega
        · refine g_aload_n hC dX11_deed_38 rfl 0 rfl ?_
          refine g_bipush (v := (-4)) hC dX11_deed_39 (by decide) ?_
          refine g_callV hC (f_X11_refuse_full (kl K) E x h dr r) wX11_refuse m2_16 dX11_deed_41 [0, 2] [(x 0, .inr (11, oL x h dr)), (h 0, .inr (5, oH h da (nI n) (nI 6) no pa)), (x 3, .inl (E.2.1 0, 3, .inl (upd r 2 (r 2 + nI 1))))] 0 11 rfl rfl (by decide) rfl (Nat.le_of_ble_eq_true rfl) rfl rfl rfl rfl rfl ?_
          exact g_val (rfl) (g_ws (rfl) (hR _ _ dX11_deed_44))
      · omega
set_option maxHeartbeats 600000 in
set_option maxRecDepth 100000 in
theorem f_X11_deed_bad (l : Launch) (E : Ew) (x : Nat → Nat) (h : Nat → Nat) (dr : Nat → Nat) (da : Int32) (de : Int32) (no : Int32) (pa : Int32) (n : Nat) (r : Nat → Int32) (x0 : Int32) (c : Int32) (hn7 : n ≤ 7) (hb : (inB x0 n && pB c) = false) : Fn l E 2 yX11_deed cX11_deed 3 (some .int) [.ref (x 0), .int x0, .int c] [(x 0, .inr (11, oL x h dr)), (h 0, .inr (5, oH h da (nI n) de no pa)), (x 3, .inl (E.2.1 0, 3, .inl r))] (some (.int (-2))) [(x 0, .inr (11, oL x h dr)), (h 0, .inr (5, oH h da (nI n) de no pa)), (x 3, .inl (E.2.1 0, 3, .inl (upd r 0 (r 0 + nI 1))))] := by
  refine fn_I (by decide) (Nat.le_of_ble_eq_true rfl) rfl ?_
  intro K hC hR
  show G K E 3 [(x 0, .inr (11, oL x h dr)), (h 0, .inr (5, oH h da (nI n) de no pa)), (x 3, .inl (E.2.1 0, 3, .inl r))] [(0, .ref (x 0)), (1, .int x0), (2, .int c)] 0 []
  refine g_aload_n hC dX11_deed_0 rfl 0 rfl ?_
  refine g_iload_n hC dX11_deed_1 rfl 1 rfl ?_
  refine g_callV hC (f_X11_isThere (kl K) E x h dr da de no pa n x0 (by omega)) wX11_isThere m2_156 dX11_deed_2 [0, 1] [(x 0, .inr (11, oL x h dr)), (h 0, .inr (5, oH h da (nI n) de no pa)), (x 3, .inl (E.2.1 0, 3, .inl r))] 0 11 rfl rfl (by decide) rfl (Nat.le_of_ble_eq_true rfl) rfl rfl rfl rfl rfl ?_
  refine g_if_eqB (tgt := 19) hC dX11_deed_5 (by decide) (fun h_5 => ?_) (fun h_5 => ?_)
  · refine g_aload_n hC dX11_deed_19 rfl 0 rfl ?_
    refine g_bipush (v := (-2)) hC dX11_deed_20 (by decide) ?_
    refine g_callV hC (f_X11_refuse_bad (kl K) E x h dr r) wX11_refuse m2_16 dX11_deed_22 [0, 2] [(x 0, .inr (11, oL x h dr)), (h 0, .inr (5, oH h da (nI n) de no pa)), (x 3, .inl (E.2.1 0, 3, .inl (upd r 0 (r 0 + nI 1))))] 0 11 rfl rfl (by decide) rfl (Nat.le_of_ble_eq_true rfl) rfl rfl rfl rfl rfl ?_
    exact g_val (rfl) (g_ws (rfl) (hR _ _ dX11_deed_25))
  · refine g_iload_n hC dX11_deed_8 rfl 2 rfl ?_
    refine g_iconst (v := (nI 1)) hC dX11_deed_9 (by decide) ?_
    refine g_icmp_lt (tgt := 19) hC dX11_deed_10 (by decide) (fun h_10 => ?_) (fun h_10 => ?_)
    · refine g_aload_n hC dX11_deed_19 rfl 0 rfl ?_
      refine g_bipush (v := (-2)) hC dX11_deed_20 (by decide) ?_
      refine g_callV hC (f_X11_refuse_bad (kl K) E x h dr r) wX11_refuse m2_16 dX11_deed_22 [0, 2] [(x 0, .inr (11, oL x h dr)), (h 0, .inr (5, oH h da (nI n) de no pa)), (x 3, .inl (E.2.1 0, 3, .inl (upd r 0 (r 0 + nI 1))))] 0 11 rfl rfl (by decide) rfl (Nat.le_of_ble_eq_true rfl) rfl rfl rfl rfl rfl ?_
      exact g_val (rfl) (g_ws (rfl) (hR _ _ dX11_deed_25))
    · refine g_iload_n hC dX11_deed_13 rfl 2 rfl ?_
      refine g_bipush (v := (nI 60)) hC dX11_deed_14 (by decide) ?_
      refine g_icmp_le (tgt := 26) hC dX11_deed_16 (by decide) (fun h_16 => ?_) (fun h_16 => ?_)
      · exact absurd hb (by rw [h_5, pB_raw, decide_eq_false (show ¬ c < 1 from h_10), decide_eq_false (show ¬ 60 < c from Int32.not_lt.mpr h_16)]; decide)
      · refine g_aload_n hC dX11_deed_19 rfl 0 rfl ?_
        refine g_bipush (v := (-2)) hC dX11_deed_20 (by decide) ?_
        refine g_callV hC (f_X11_refuse_bad (kl K) E x h dr r) wX11_refuse m2_16 dX11_deed_22 [0, 2] [(x 0, .inr (11, oL x h dr)), (h 0, .inr (5, oH h da (nI n) de no pa)), (x 3, .inl (E.2.1 0, 3, .inl (upd r 0 (r 0 + nI 1))))] 0 11 rfl rfl (by decide) rfl (Nat.le_of_ble_eq_true rfl) rfl rfl rfl rfl rfl ?_
        exact g_val (rfl) (g_ws (rfl) (hR _ _ dX11_deed_25))
set_option maxHeartbeats 600000 in
set_option maxRecDepth 100000 in
theorem f_X11_owes_none (l : Launch) (E : Ew) (x : Nat → Nat) (h : Nat → Nat) (dr : Nat → Nat) (da : Int32) (de : Int32) (no : Int32) (pa : Int32) (n : Nat) (bn : Nat → Nat) (ab : Int64) (be : Int64) (p : Nat) (hn7 : n ≤ 7) (hb : ∀ j, j < 7 → bn j < 128) (hp : p < n) (hm : nmF bn n p = -1) : Fn l E 4 yX11_owes cX11_owes 3 (some .int) [.ref (x 0), .int (nI p)] [(x 0, .inr (11, oL x h dr)), (h 0, .inr (5, oH h da (nI n) de no pa)), (h 3, .inl (E.2.1 0, 7, .inl (nf bn))), (x 6, .inr (4, oF x ab be))] (some (.int (nI 1))) [(x 0, .inr (11, oL x h dr)), (h 0, .inr (5, oH h da (nI n) de no pa)), (h 3, .inl (E.2.1 0, 7, .inl (nf bn))), (x 6, .inr (4, oF x (lN 0) (lN 1)))] := by
  refine fn_I (by decide) (Nat.le_of_ble_eq_true rfl) rfl ?_
  intro K hC hR
  show G K E 3 [(x 0, .inr (11, oL x h dr)), (h 0, .inr (5, oH h da (nI n) de no pa)), (h 3, .inl (E.2.1 0, 7, .inl (nf bn))), (x 6, .inr (4, oF x ab be))] [(0, .ref (x 0)), (1, .int (nI p))] 0 []
  refine g_aload_n hC dX11_owes_0 rfl 0 rfl ?_
  refine g_iload_n hC dX11_owes_1 rfl 1 rfl ?_
  refine g_callV hC (f_X11_isThere (kl K) E x h dr da de no pa n (nI p) (by omega)) wX11_isThere m2_156 dX11_owes_2 [0, 1] [(x 0, .inr (11, oL x h dr)), (h 0, .inr (5, oH h da (nI n) de no pa)), (h 3, .inl (E.2.1 0, 7, .inl (nf bn))), (x 6, .inr (4, oF x ab be))] 0 11 rfl rfl (by decide) rfl (Nat.le_of_ble_eq_true rfl) rfl rfl rfl rfl rfl ?_
  refine g_if_neB (tgt := 15) hC dX11_owes_5 (by decide) (fun h_5 => ?_) (fun h_5 => ?_)
  · refine g_aload_n hC dX11_owes_15 rfl 0 rfl ?_
    refine g_get hC 0 11 0 inX11 m1_221 dX11_owes_16 rfl rfl (by decide) rfl ?_
    refine g_iload_n hC dX11_owes_19 rfl 1 rfl ?_
    refine g_callV hC (f_X5_nameOf (kl K) E h da de no pa bn n p (by omega) (fun j hj => Nat.lt_trans (hb j hj) (by decide)) (by omega)) wX5_nameOf m2_232 dX11_owes_20 [1, 2] [(x 0, .inr (11, oL x h dr)), (h 0, .inr (5, oH h da (nI n) de no pa)), (h 3, .inl (E.2.1 0, 7, .inl (nf bn))), (x 6, .inr (4, oF x ab be))] 1 5 rfl rfl (by decide) rfl (Nat.le_of_ble_eq_true rfl) rfl rfl rfl rfl rfl ?_
    refine g_val (v' := .int (nmF bn n p)) (rfl) ?_
    refine g_istore_n hC [(2, .int (nmF bn n p)), (0, .ref (x 0)), (1, .int (nI p))] dX11_owes_23 rfl (by decide) rfl ?_
    refine g_iload_n hC dX11_owes_24 rfl 0 rfl ?_
    refine g_iconst (v := (-1)) hC dX11_owes_25 (by decide) ?_
    refine g_icmp_ne (tgt := 41) hC dX11_owes_26 (by decide) (fun h_26 => ?_) (fun h_26 => ?_)
    · exact absurd hm h_26
    · refine g_aload_n hC dX11_owes_29 rfl 1 rfl ?_
      refine g_get hC 0 11 5 inX11 m1_226 dX11_owes_30 rfl rfl (by decide) rfl ?_
      refine g_lconst (v := 0) hC dX11_owes_33 (by decide) ?_
      refine g_val (v' := .long (lN 0)) (rfl) ?_
      refine g_lconst (v := 1) hC dX11_owes_34 (by decide) ?_
      refine g_val (v' := .long (lN 1)) (rfl) ?_
      refine g_callV hC (f_X4_become (kl K) E x ab be 0 1 (by omega) (by omega) (by omega)) wX4_become m3_75 dX11_owes_35 [3] [(x 0, .inr (11, oL x h dr)), (h 0, .inr (5, oH h da (nI n) de no pa)), (h 3, .inl (E.2.1 0, 7, .inl (nf bn))), (x 6, .inr (4, oF x (lN (0 / Nat.gcd 0 1)) (lN (1 / Nat.gcd 0 1))))] 3 4 rfl rfl (by decide) rfl (Nat.le_of_ble_eq_true rfl) rfl rfl rfl rfl rfl ?_
      refine g_goto (tgt := 70) hC dX11_owes_38 (by decide) ?_
      refine g_iconst (v := (nI 1)) hC dX11_owes_70 (by decide) ?_
      exact g_val (rfl) (g_ws (by rw [show Nat.gcd 0 1 = 1 from rfl]) (hR _ _ dX11_owes_71))
  · exact Bool.noConfusion ((inB_ok (by omega) (by omega)).symm.trans h_5)
set_option maxHeartbeats 600000 in
set_option maxRecDepth 100000 in
theorem f_X11_owes_ok (l : Launch) (E : Ew) (x : Nat → Nat) (h : Nat → Nat) (dr : Nat → Nat) (da : Int32) (no : Int32) (pa : Int32) (n : Nat) (u : Nat) (bn : Nat → Nat) (dn : Nat → Nat) (dp : Nat → Nat) (ab : Int64) (be : Int64) (p : Nat) (m : Nat) (hn7 : n ≤ 7) (hb : ∀ j, j < 7 → bn j < 128) (hdn : ∀ k, k < u → dn k < 7) (hdp : ∀ k, k < u → dp k ≤ 60) (hu : u ≤ 6) (hp : p < n) (hm : nmF bn n p = nI m) (hmn : m < n) (hmp : (bn m).testBit p = true) : Fn l E 4 yX11_owes cX11_owes 3 (some .int) [.ref (x 0), .int (nI p)] [(x 0, .inr (11, oL x h dr)), (h 0, .inr (5, oH h da (nI n) (nI u) no pa)), (h 3, .inl (E.2.1 0, 7, .inl (nf bn))), (h 4, .inl (E.2.1 0, 6, .inl (nf dn))), (h 5, .inl (E.2.1 0, 6, .inl (nf dp))), (x 6, .inr (4, oF x ab be))] (some (.int (nI 1))) [(x 0, .inr (11, oL x h dr)), (h 0, .inr (5, oH h da (nI n) (nI u) no pa)), (h 3, .inl (E.2.1 0, 7, .inl (nf bn))), (h 4, .inl (E.2.1 0, 6, .inl (nf dn))), (h 5, .inl (E.2.1 0, 6, .inl (nf dp))), (x 6, .inr (4, oF x (lN ((pC dn dp m u) / Nat.gcd (pC dn dp m u) (ct (bn m).testBit 31))) (lN ((ct (bn m).testBit 31) / Nat.gcd (pC dn dp m u) (ct (bn m).testBit 31)))))] := by
  refine fn_I (by decide) (Nat.le_of_ble_eq_true rfl) rfl ?_
  intro K hC hR
  show G K E 3 [(x 0, .inr (11, oL x h dr)), (h 0, .inr (5, oH h da (nI n) (nI u) no pa)), (h 3, .inl (E.2.1 0, 7, .inl (nf bn))), (h 4, .inl (E.2.1 0, 6, .inl (nf dn))), (h 5, .inl (E.2.1 0, 6, .inl (nf dp))), (x 6, .inr (4, oF x ab be))] [(0, .ref (x 0)), (1, .int (nI p))] 0 []
  have hpl := pC_le (dn := dn) (x := m) hdp
  have hcp := ct_pos (n := 31) (by omega) hmp
  have hcl := ct_le (bn m).testBit 31
  have hbm := hb m (by omega)
  refine g_aload_n hC dX11_owes_0 rfl 0 rfl ?_
  refine g_iload_n hC dX11_owes_1 rfl 1 rfl ?_
  refine g_callV hC (f_X11_isThere (kl K) E x h dr da (nI u) no pa n (nI p) (by omega)) wX11_isThere m2_156 dX11_owes_2 [0, 1] [(x 0, .inr (11, oL x h dr)), (h 0, .inr (5, oH h da (nI n) (nI u) no pa)), (h 3, .inl (E.2.1 0, 7, .inl (nf bn))), (h 4, .inl (E.2.1 0, 6, .inl (nf dn))), (h 5, .inl (E.2.1 0, 6, .inl (nf dp))), (x 6, .inr (4, oF x ab be))] 0 11 rfl rfl (by decide) rfl (Nat.le_of_ble_eq_true rfl) rfl rfl rfl rfl rfl ?_
  refine g_if_neB (tgt := 15) hC dX11_owes_5 (by decide) (fun h_5 => ?_) (fun h_5 => ?_)
  · refine g_aload_n hC dX11_owes_15 rfl 0 rfl ?_
    refine g_get hC 0 11 0 inX11 m1_221 dX11_owes_16 rfl rfl (by decide) rfl ?_
    refine g_iload_n hC dX11_owes_19 rfl 1 rfl ?_
    refine g_callV hC (f_X5_nameOf (kl K) E h da (nI u) no pa bn n p (by omega) (fun j hj => Nat.lt_trans (hb j hj) (by decide)) (by omega)) wX5_nameOf m2_232 dX11_owes_20 [1, 2] [(x 0, .inr (11, oL x h dr)), (h 0, .inr (5, oH h da (nI n) (nI u) no pa)), (h 3, .inl (E.2.1 0, 7, .inl (nf bn))), (h 4, .inl (E.2.1 0, 6, .inl (nf dn))), (h 5, .inl (E.2.1 0, 6, .inl (nf dp))), (x 6, .inr (4, oF x ab be))] 1 5 rfl rfl (by decide) rfl (Nat.le_of_ble_eq_true rfl) rfl rfl rfl rfl rfl ?_
    refine g_val (v' := .int (nI m)) (by rw [← hm]; rfl) ?_
    refine g_istore_n hC [(2, .int (nI m)), (0, .ref (x 0)), (1, .int (nI p))] dX11_owes_23 rfl (by decide) rfl ?_
    refine g_iload_n hC dX11_owes_24 rfl 0 rfl ?_
    refine g_iconst (v := (-1)) hC dX11_owes_25 (by decide) ?_
    refine g_icmp_ne (tgt := 41) hC dX11_owes_26 (by decide) (fun h_26 => ?_) (fun h_26 => ?_)
    · refine g_aload_n hC dX11_owes_41 rfl 1 rfl ?_
      refine g_get hC 0 11 5 inX11 m1_226 dX11_owes_42 rfl rfl (by decide) rfl ?_
      refine g_aload_n hC dX11_owes_45 rfl 1 rfl ?_
      refine g_get hC 0 11 0 inX11 m1_221 dX11_owes_46 rfl rfl (by decide) rfl ?_
      refine g_iload_n hC dX11_owes_49 rfl 0 rfl ?_
      refine g_callV hC (f_X5_penceOn (kl K) E h da (nI n) no pa dn dp u m (by omega) (by omega) (fun k hk => Nat.lt_trans (hdn k hk) (by decide))) wX5_penceOn m3_82 dX11_owes_50 [1, 3, 4] [(x 0, .inr (11, oL x h dr)), (h 0, .inr (5, oH h da (nI n) (nI u) no pa)), (h 3, .inl (E.2.1 0, 7, .inl (nf bn))), (h 4, .inl (E.2.1 0, 6, .inl (nf dn))), (h 5, .inl (E.2.1 0, 6, .inl (nf dp))), (x 6, .inr (4, oF x ab be))] 1 5 rfl rfl (by decide) rfl (Nat.le_of_ble_eq_true rfl) rfl rfl rfl rfl rfl ?_
      refine g_i2l hC dX11_owes_53 ?_
      refine g_val (v' := .long (lN (pC dn dp m u))) (by rw [nI_l (by omega)]) ?_
      refine g_aload_n hC dX11_owes_54 rfl 1 rfl ?_
      refine g_get hC 0 11 0 inX11 m1_221 dX11_owes_55 rfl rfl (by decide) rfl ?_
      refine g_get hC 1 5 4 inX5 m1_52 dX11_owes_58 rfl rfl (by decide) rfl ?_
      refine g_iload_n hC dX11_owes_61 rfl 0 rfl ?_
      refine g_ialdN hC 2 dX11_owes_62 rfl (by decide) (by omega) ?_
      refine g_val (v' := .int (nI (bn m))) rfl ?_
      refine g_callS hC (f_J6_bitCount_0f7a4 (kl K) E (bn m) (by omega)) wJ6_bitCount_0f7a4 m3_11 dX11_owes_63 [] [(x 0, .inr (11, oL x h dr)), (h 0, .inr (5, oH h da (nI n) (nI u) no pa)), (h 3, .inl (E.2.1 0, 7, .inl (nf bn))), (h 4, .inl (E.2.1 0, 6, .inl (nf dn))), (h 5, .inl (E.2.1 0, 6, .inl (nf dp))), (x 6, .inr (4, oF x ab be))] (by decide) rfl (Nat.le_of_ble_eq_true rfl) rfl rfl rfl rfl rfl ?_
      refine g_i2l hC dX11_owes_66 ?_
      refine g_val (v' := .long (lN (ct (bn m).testBit 31))) (by rw [nI_l (by omega)]) ?_
      refine g_callV hC (f_X4_become (kl K) E x ab be (pC dn dp m u) (ct (bn m).testBit 31) (by omega) (by omega) (by omega)) wX4_become m3_75 dX11_owes_67 [5] [(x 0, .inr (11, oL x h dr)), (h 0, .inr (5, oH h da (nI n) (nI u) no pa)), (h 3, .inl (E.2.1 0, 7, .inl (nf bn))), (h 4, .inl (E.2.1 0, 6, .inl (nf dn))), (h 5, .inl (E.2.1 0, 6, .inl (nf dp))), (x 6, .inr (4, oF x (lN ((pC dn dp m u) / Nat.gcd (pC dn dp m u) (ct (bn m).testBit 31))) (lN ((ct (bn m).testBit 31) / Nat.gcd (pC dn dp m u) (ct (bn m).testBit 31)))))] 5 4 rfl rfl (by decide) rfl (Nat.le_of_ble_eq_true rfl) rfl rfl rfl rfl rfl ?_
      refine g_iconst (v := (nI 1)) hC dX11_owes_70 (by decide) ?_
      exact g_val (rfl) (g_ws (rfl) (hR _ _ dX11_owes_71))
    · exact absurd h_26 (nI_m1 (by omega))
  · exact Bool.noConfusion ((inB_ok (by omega) (by omega)).symm.trans h_5)
set_option maxHeartbeats 600000 in
set_option maxRecDepth 100000 in
theorem f_X11_unpaid (l : Launch) (E : Ew) (x : Nat → Nat) (h : Nat → Nat) (dr : Nat → Nat) (da : Int32) (no : Int32) (pa : Int32) (n : Nat) (u : Nat) (bn : Nat → Nat) (dn : Nat → Nat) (dp : Nat → Nat) (hn7 : n ≤ 7) (hb : ∀ j, j < 7 → bn j < 128) (hdn : ∀ k, k < u → dn k < 7) (hdp : ∀ k, k < u → dp k ≤ 60) (hu : u ≤ 6) : Fn l E 2 yX11_unpaid cX11_unpaid 3 (some .int) [.ref (x 0)] [(x 0, .inr (11, oL x h dr)), (h 0, .inr (5, oH h da (nI n) (nI u) no pa)), (h 3, .inl (E.2.1 0, 7, .inl (nf bn))), (h 4, .inl (E.2.1 0, 6, .inl (nf dn))), (h 5, .inl (E.2.1 0, 6, .inl (nf dp)))] (some (.int (nI (upC bn dn dp u n)))) [(x 0, .inr (11, oL x h dr)), (h 0, .inr (5, oH h da (nI n) (nI u) no pa)), (h 3, .inl (E.2.1 0, 7, .inl (nf bn))), (h 4, .inl (E.2.1 0, 6, .inl (nf dn))), (h 5, .inl (E.2.1 0, 6, .inl (nf dp)))] := by
  refine fn_I (by decide) (Nat.le_of_ble_eq_true rfl) rfl ?_
  intro K hC hR
  show G K E 3 [(x 0, .inr (11, oL x h dr)), (h 0, .inr (5, oH h da (nI n) (nI u) no pa)), (h 3, .inl (E.2.1 0, 7, .inl (nf bn))), (h 4, .inl (E.2.1 0, 6, .inl (nf dn))), (h 5, .inl (E.2.1 0, 6, .inl (nf dp)))] [(0, .ref (x 0))] 0 []
  refine g_iconst (v := (nI 0)) hC dX11_unpaid_0 (by decide) ?_
  refine g_istore_n hC [(1, .int (nI 0)), (0, .ref (x 0))] dX11_unpaid_1 rfl (by decide) rfl ?_
  refine g_iconst (v := (nI 0)) hC dX11_unpaid_2 (by decide) ?_
  refine g_istore_n hC [(2, .int (nI 0)), (1, .int (nI 0)), (0, .ref (x 0))] dX11_unpaid_3 rfl (by decide) rfl ?_
  have L_4 : ∀ (fu : Nat) (k : Nat) (hk : k ≤ n), n - k < fu → G K E 3 [(x 0, .inr (11, oL x h dr)), (h 0, .inr (5, oH h da (nI n) (nI u) no pa)), (h 3, .inl (E.2.1 0, 7, .inl (nf bn))), (h 4, .inl (E.2.1 0, 6, .inl (nf dn))), (h 5, .inl (E.2.1 0, 6, .inl (nf dp)))] [(2, .int (nI k)), (1, .int (nI (upC bn dn dp u k))), (0, .ref (x 0))] 4 [] := by
    intro fu
    induction fu with
    | zero => intro k hk hm_4; exact absurd hm_4 (Nat.not_lt_zero _)
    | succ fu ih_4 =>
      intro k hk hm_4
      refine g_iload_n hC dX11_unpaid_4 rfl 0 rfl ?_
      refine g_aload_n hC dX11_unpaid_5 rfl 2 rfl ?_
      refine g_get hC 0 11 0 inX11 m1_221 dX11_unpaid_6 rfl rfl (by decide) rfl ?_
      refine g_get hC 1 5 1 inX5 m1_40 dX11_unpaid_9 rfl rfl (by decide) rfl ?_
      refine g_icmp_geN (tgt := 44) hC dX11_unpaid_12 (by decide) (by omega) (by omega) (fun h_12 => ?_) (fun h_12 => ?_)
      · refine g_iload_n hC dX11_unpaid_44 rfl 1 rfl ?_
        exact g_val (by rw [show k = n by omega]) (g_ws (rfl) (hR _ _ dX11_unpaid_45))
      · have hbk := hb k (by omega)
        refine g_aload_n hC dX11_unpaid_15 rfl 2 rfl ?_
        refine g_get hC 0 11 0 inX11 m1_221 dX11_unpaid_16 rfl rfl (by decide) rfl ?_
        refine g_get hC 1 5 4 inX5 m1_52 dX11_unpaid_19 rfl rfl (by decide) rfl ?_
        refine g_iload_n hC dX11_unpaid_22 rfl 0 rfl ?_
        refine g_ialdN hC 2 dX11_unpaid_23 rfl (by decide) (by omega) ?_
        refine g_val (v' := .int (nI (bn k))) rfl ?_
        refine g_if_neN (tgt := 38) hC dX11_unpaid_24 (by decide) (by omega) (fun h_24 => ?_) (fun h_24 => ?_)
        · refine g_iincN hC (q := 0) 1 [(2, .int (nI (k + 1))), (1, .int (nI (upC bn dn dp u k))), (0, .ref (x 0))] dX11_unpaid_38 rfl rfl (by decide) rfl ?_
          refine g_goto (tgt := 4) hC dX11_unpaid_41 (by decide) ?_
          refine g_lv (lv' := [(2, .int (nI (k + 1))), (1, .int (nI (upC bn dn dp u k))), (0, .ref (x 0))]) [0, 1, 2] rfl ?_
          refine g_lve (lv' := [(2, .int (nI (k + 1))), (1, .int (nI (upC bn dn dp u (k + 1)))), (0, .ref (x 0))]) (by simp [upC, h_12, h_24]) ?_
          exact ih_4 (k + 1) (by omega) (by omega)
        · refine g_iload_n hC dX11_unpaid_27 rfl 1 rfl ?_
          refine g_aload_n hC dX11_unpaid_28 rfl 2 rfl ?_
          refine g_get hC 0 11 0 inX11 m1_221 dX11_unpaid_29 rfl rfl (by decide) rfl ?_
          refine g_iload_n hC dX11_unpaid_32 rfl 0 rfl ?_
          refine g_callV hC (f_X5_penceOn (kl K) E h da (nI n) no pa dn dp u k (by omega) (by omega) (fun k hk => Nat.lt_trans (hdn k hk) (by decide))) wX5_penceOn m3_82 dX11_unpaid_33 [1, 3, 4] [(x 0, .inr (11, oL x h dr)), (h 0, .inr (5, oH h da (nI n) (nI u) no pa)), (h 3, .inl (E.2.1 0, 7, .inl (nf bn))), (h 4, .inl (E.2.1 0, 6, .inl (nf dn))), (h 5, .inl (E.2.1 0, 6, .inl (nf dp)))] 1 5 rfl rfl (by decide) rfl (Nat.le_of_ble_eq_true rfl) rfl rfl rfl rfl rfl ?_
          refine g_iaddN hC dX11_unpaid_36 ?_
          refine g_istore_n hC [(1, .int (nI (upC bn dn dp u k + pC dn dp k u))), (2, .int (nI k)), (0, .ref (x 0))] dX11_unpaid_37 rfl (by decide) rfl ?_
          refine g_iincN hC (q := 1) 1 [(2, .int (nI (k + 1))), (1, .int (nI (upC bn dn dp u k + pC dn dp k u))), (0, .ref (x 0))] dX11_unpaid_38 rfl rfl (by decide) rfl ?_
          refine g_goto (tgt := 4) hC dX11_unpaid_41 (by decide) ?_
          refine g_lv (lv' := [(2, .int (nI (k + 1))), (1, .int (nI (upC bn dn dp u k + pC dn dp k u))), (0, .ref (x 0))]) [0, 1, 2] rfl ?_
          refine g_lve (lv' := [(2, .int (nI (k + 1))), (1, .int (nI (upC bn dn dp u (k + 1)))), (0, .ref (x 0))]) (by simp [upC, h_12, h_24]) ?_
          exact ih_4 (k + 1) (by omega) (by omega)
  refine g_lv (lv' := [(2, .int (nI 0)), (1, .int (nI 0)), (0, .ref (x 0))]) [0, 1, 2] rfl ?_
  refine g_lve (lv' := [(2, .int (nI 0)), (1, .int (nI (upC bn dn dp u 0))), (0, .ref (x 0))]) (rfl) ?_
  exact L_4 ((n - 0) + 1) 0 (by omega) (Nat.lt_succ_self _)
set_option maxHeartbeats 600000 in
set_option maxRecDepth 100000 in
theorem f_X11_note_ok (l : Launch) (E : Ew) (x : Nat → Nat) (h : Nat → Nat) (dr : Nat → Nat) (da : Int32) (de : Int32) (pa : Int32) (n : Nat) (v : Nat) (nt : Nat → Nat) (p : Nat) (y : Nat) (d : Nat) (b : Nat) (t : Nat) (hn7 : n ≤ 7) (hp : p < n) (hy : y < 10) (hd : d < 100) (hb : b < 2) (ht : t < 2) (hv : v < 6) : Fn l E 2 yX11_note cX11_note 6 (some .int) [.ref (x 0), .int (nI p), .int (nI y), .int (nI d), .int (nI b), .int (nI t)] [(x 0, .inr (11, oL x h dr)), (h 0, .inr (5, oH h da (nI n) de (nI v) pa)), (h 6, .inl (E.2.1 0, 30, .inl (nf nt)))] (some (.int (nI (v + 1)))) [(x 0, .inr (11, oL x h dr)), (h 0, .inr (5, oH h da (nI n) de (nI (v + 1)) pa)), (h 6, .inl (E.2.1 0, 30, .inl (nf (wrN nt p y d b t v))))] := by
  refine fn_I (by decide) (Nat.le_of_ble_eq_true rfl) rfl ?_
  intro K hC hR
  show G K E 6 [(x 0, .inr (11, oL x h dr)), (h 0, .inr (5, oH h da (nI n) de (nI v) pa)), (h 6, .inl (E.2.1 0, 30, .inl (nf nt)))] [(0, .ref (x 0)), (1, .int (nI p)), (2, .int (nI y)), (3, .int (nI d)), (4, .int (nI b)), (5, .int (nI t))] 0 []
  refine g_aload_n hC dX11_note_0 rfl 0 rfl ?_
  refine g_iload_n hC dX11_note_1 rfl 1 rfl ?_
  refine g_callV hC (f_X11_isThere (kl K) E x h dr da de (nI v) pa n (nI p) (by omega)) wX11_isThere m2_156 dX11_note_2 [0, 1] [(x 0, .inr (11, oL x h dr)), (h 0, .inr (5, oH h da (nI n) de (nI v) pa)), (h 6, .inl (E.2.1 0, 30, .inl (nf nt)))] 0 11 rfl rfl (by decide) rfl (Nat.le_of_ble_eq_true rfl) rfl rfl rfl rfl rfl ?_
  refine g_if_eqB (tgt := 44) hC dX11_note_5 (by decide) (fun h_5 => ?_) (fun h_5 => ?_)
  · exact Bool.noConfusion ((inB_ok (by omega) (by omega)).symm.trans h_5)
  · refine g_iload_n hC dX11_note_8 rfl 2 rfl ?_
    refine g_bipush (v := (nI 10)) hC dX11_note_9 (by decide) ?_
    refine g_callS hC (f_X11_within (kl K) E (nI y) 10 (by omega)) wX11_within m2_13 dX11_note_11 [] [(x 0, .inr (11, oL x h dr)), (h 0, .inr (5, oH h da (nI n) de (nI v) pa)), (h 6, .inl (E.2.1 0, 30, .inl (nf nt)))] (by decide) rfl (Nat.le_of_ble_eq_true rfl) rfl rfl rfl rfl rfl ?_
    refine g_if_eqB (tgt := 44) hC dX11_note_14 (by decide) (fun h_14 => ?_) (fun h_14 => ?_)
    · exact Bool.noConfusion ((inB_ok (by omega) (by omega)).symm.trans h_14)
    · refine g_iload_n hC dX11_note_17 rfl 3 rfl ?_
      refine g_bipush (v := (nI 100)) hC dX11_note_18 (by decide) ?_
      refine g_callS hC (f_X11_within (kl K) E (nI d) 100 (by omega)) wX11_within m2_13 dX11_note_20 [] [(x 0, .inr (11, oL x h dr)), (h 0, .inr (5, oH h da (nI n) de (nI v) pa)), (h 6, .inl (E.2.1 0, 30, .inl (nf nt)))] (by decide) rfl (Nat.le_of_ble_eq_true rfl) rfl rfl rfl rfl rfl ?_
      refine g_if_eqB (tgt := 44) hC dX11_note_23 (by decide) (fun h_23 => ?_) (fun h_23 => ?_)
      · exact Bool.noConfusion ((inB_ok (by omega) (by omega)).symm.trans h_23)
      · refine g_iload hC dX11_note_26 4 rfl ?_
        refine g_iconst (v := (nI 2)) hC dX11_note_28 (by decide) ?_
        refine g_callS hC (f_X11_within (kl K) E (nI b) 2 (by omega)) wX11_within m2_13 dX11_note_29 [] [(x 0, .inr (11, oL x h dr)), (h 0, .inr (5, oH h da (nI n) de (nI v) pa)), (h 6, .inl (E.2.1 0, 30, .inl (nf nt)))] (by decide) rfl (Nat.le_of_ble_eq_true rfl) rfl rfl rfl rfl rfl ?_
        refine g_if_eqB (tgt := 44) hC dX11_note_32 (by decide) (fun h_32 => ?_) (fun h_32 => ?_)
        · exact Bool.noConfusion ((inB_ok (by omega) (by omega)).symm.trans h_32)
        · refine g_iload hC dX11_note_35 5 rfl ?_
          refine g_iconst (v := (nI 2)) hC dX11_note_37 (by decide) ?_
          refine g_callS hC (f_X11_within (kl K) E (nI t) 2 (by omega)) wX11_within m2_13 dX11_note_38 [] [(x 0, .inr (11, oL x h dr)), (h 0, .inr (5, oH h da (nI n) de (nI v) pa)), (h 6, .inl (E.2.1 0, 30, .inl (nf nt)))] (by decide) rfl (Nat.le_of_ble_eq_true rfl) rfl rfl rfl rfl rfl ?_
          refine g_if_neB (tgt := 51) hC dX11_note_41 (by decide) (fun h_41 => ?_) (fun h_41 => ?_)
          · refine g_aload_n hC dX11_note_51 rfl 0 rfl ?_
            refine g_get hC 0 11 0 inX11 m1_221 dX11_note_52 rfl rfl (by decide) rfl ?_
            refine g_get hC 1 5 8 inX5 m1_60 dX11_note_55 rfl rfl (by decide) rfl ?_
            refine g_bipush (v := (nI 6)) hC dX11_note_58 (by decide) ?_
            refine g_icmp_ltN (tgt := 70) hC dX11_note_60 (by decide) (by omega) (by omega) (fun h_60 => ?_) (fun h_60 => ?_)
            · refine g_aload_n hC dX11_note_70 rfl 0 rfl ?_
              refine g_get hC 0 11 0 inX11 m1_221 dX11_note_71 rfl rfl (by decide) rfl ?_
              refine g_iload_n hC dX11_note_74 rfl 1 rfl ?_
              refine g_iload_n hC dX11_note_75 rfl 2 rfl ?_
              refine g_iload_n hC dX11_note_76 rfl 3 rfl ?_
              refine g_iload hC dX11_note_77 4 rfl ?_
              refine g_iload hC dX11_note_79 5 rfl ?_
              refine g_callV hC (f_X5_write (kl K) E h da (nI n) de pa nt v p y d b t (by omega)) wX5_write m3_105 dX11_note_81 [1, 2] [(x 0, .inr (11, oL x h dr)), (h 0, .inr (5, oH h da (nI n) de (nI (v + 1)) pa)), (h 6, .inl (E.2.1 0, 30, .inl (nf (wrN nt p y d b t v))))] 1 5 rfl rfl (by decide) rfl (Nat.le_of_ble_eq_true rfl) rfl rfl rfl rfl rfl ?_
              refine g_aload_n hC dX11_note_84 rfl 0 rfl ?_
              refine g_get hC 0 11 0 inX11 m1_221 dX11_note_85 rfl rfl (by decide) rfl ?_
              refine g_get hC 1 5 8 inX5 m1_60 dX11_note_88 rfl rfl (by decide) rfl ?_
              exact g_val (rfl) (g_ws (rfl) (hR _ _ dX11_note_91))
            · omega
          · exact Bool.noConfusion ((inB_ok (by omega) (by omega)).symm.trans h_41)
set_option maxHeartbeats 600000 in
set_option maxRecDepth 100000 in
theorem f_X11_note_full (l : Launch) (E : Ew) (x : Nat → Nat) (h : Nat → Nat) (dr : Nat → Nat) (da : Int32) (de : Int32) (pa : Int32) (n : Nat) (r : Nat → Int32) (p : Nat) (y : Nat) (d : Nat) (b : Nat) (t : Nat) (hn7 : n ≤ 7) (hp : p < n) (hy : y < 10) (hd : d < 100) (hb : b < 2) (ht : t < 2) : Fn l E 2 yX11_note cX11_note 6 (some .int) [.ref (x 0), .int (nI p), .int (nI y), .int (nI d), .int (nI b), .int (nI t)] [(x 0, .inr (11, oL x h dr)), (h 0, .inr (5, oH h da (nI n) de (nI 6) pa)), (x 3, .inl (E.2.1 0, 3, .inl r))] (some (.int (-4))) [(x 0, .inr (11, oL x h dr)), (h 0, .inr (5, oH h da (nI n) de (nI 6) pa)), (x 3, .inl (E.2.1 0, 3, .inl (upd r 2 (r 2 + nI 1))))] := by
  refine fn_I (by decide) (Nat.le_of_ble_eq_true rfl) rfl ?_
  intro K hC hR
  show G K E 6 [(x 0, .inr (11, oL x h dr)), (h 0, .inr (5, oH h da (nI n) de (nI 6) pa)), (x 3, .inl (E.2.1 0, 3, .inl r))] [(0, .ref (x 0)), (1, .int (nI p)), (2, .int (nI y)), (3, .int (nI d)), (4, .int (nI b)), (5, .int (nI t))] 0 []
  refine g_aload_n hC dX11_note_0 rfl 0 rfl ?_
  refine g_iload_n hC dX11_note_1 rfl 1 rfl ?_
  refine g_callV hC (f_X11_isThere (kl K) E x h dr da de (nI 6) pa n (nI p) (by omega)) wX11_isThere m2_156 dX11_note_2 [0, 1] [(x 0, .inr (11, oL x h dr)), (h 0, .inr (5, oH h da (nI n) de (nI 6) pa)), (x 3, .inl (E.2.1 0, 3, .inl r))] 0 11 rfl rfl (by decide) rfl (Nat.le_of_ble_eq_true rfl) rfl rfl rfl rfl rfl ?_
  refine g_if_eqB (tgt := 44) hC dX11_note_5 (by decide) (fun h_5 => ?_) (fun h_5 => ?_)
  · exact Bool.noConfusion ((inB_ok (by omega) (by omega)).symm.trans h_5)
  · refine g_iload_n hC dX11_note_8 rfl 2 rfl ?_
    refine g_bipush (v := (nI 10)) hC dX11_note_9 (by decide) ?_
    refine g_callS hC (f_X11_within (kl K) E (nI y) 10 (by omega)) wX11_within m2_13 dX11_note_11 [] [(x 0, .inr (11, oL x h dr)), (h 0, .inr (5, oH h da (nI n) de (nI 6) pa)), (x 3, .inl (E.2.1 0, 3, .inl r))] (by decide) rfl (Nat.le_of_ble_eq_true rfl) rfl rfl rfl rfl rfl ?_
    refine g_if_eqB (tgt := 44) hC dX11_note_14 (by decide) (fun h_14 => ?_) (fun h_14 => ?_)
    · exact Bool.noConfusion ((inB_ok (by omega) (by omega)).symm.trans h_14)
    · refine g_iload_n hC dX11_note_17 rfl 3 rfl ?_
      refine g_bipush (v := (nI 100)) hC dX11_note_18 (by decide) ?_
      refine g_callS hC (f_X11_within (kl K) E (nI d) 100 (by omega)) wX11_within m2_13 dX11_note_20 [] [(x 0, .inr (11, oL x h dr)), (h 0, .inr (5, oH h da (nI n) de (nI 6) pa)), (x 3, .inl (E.2.1 0, 3, .inl r))] (by decide) rfl (Nat.le_of_ble_eq_true rfl) rfl rfl rfl rfl rfl ?_
      refine g_if_eqB (tgt := 44) hC dX11_note_23 (by decide) (fun h_23 => ?_) (fun h_23 => ?_)
      · exact Bool.noConfusion ((inB_ok (by omega) (by omega)).symm.trans h_23)
      · refine g_iload hC dX11_note_26 4 rfl ?_
        refine g_iconst (v := (nI 2)) hC dX11_note_28 (by decide) ?_
        refine g_callS hC (f_X11_within (kl K) E (nI b) 2 (by omega)) wX11_within m2_13 dX11_note_29 [] [(x 0, .inr (11, oL x h dr)), (h 0, .inr (5, oH h da (nI n) de (nI 6) pa)), (x 3, .inl (E.2.1 0, 3, .inl r))] (by decide) rfl (Nat.le_of_ble_eq_true rfl) rfl rfl rfl rfl rfl ?_
        refine g_if_eqB (tgt := 44) hC dX11_note_32 (by decide) (fun h_32 => ?_) (fun h_32 => ?_)
        · exact Bool.noConfusion ((inB_ok (by omega) (by omega)).symm.trans h_32)
        · refine g_iload hC dX11_note_35 5 rfl ?_
          refine g_iconst (v := (nI 2)) hC dX11_note_37 (by decide) ?_
          refine g_callS hC (f_X11_within (kl K) E (nI t) 2 (by omega)) wX11_within m2_13 dX11_note_38 [] [(x 0, .inr (11, oL x h dr)), (h 0, .inr (5, oH h da (nI n) de (nI 6) pa)), (x 3, .inl (E.2.1 0, 3, .inl r))] (by decide) rfl (Nat.le_of_ble_eq_true rfl) rfl rfl rfl rfl rfl ?_
          refine g_if_neB (tgt := 51) hC dX11_note_41 (by decide) (fun h_41 => ?_) (fun h_41 => ?_)
          · refine g_aload_n hC dX11_note_51 rfl 0 rfl ?_
            refine g_get hC 0 11 0 inX11 m1_221 dX11_note_52 rfl rfl (by decide) rfl ?_
            refine g_get hC 1 5 8 inX5 m1_60 dX11_note_55 rfl rfl (by decide) rfl ?_
            refine g_bipush (v := (nI 6)) hC dX11_note_58 (by decide) ?_
            refine g_icmp_ltN (tgt := 70) hC dX11_note_60 (by decide) (by omega) (by omega) (fun h_60 => ?_) (fun h_60 => ?_)
            · omega
            · refine g_aload_n hC dX11_note_63 rfl 0 rfl ?_
              refine g_bipush (v := (-4)) hC dX11_note_64 (by decide) ?_
              refine g_callV hC (f_X11_refuse_full (kl K) E x h dr r) wX11_refuse m2_16 dX11_note_66 [0, 2] [(x 0, .inr (11, oL x h dr)), (h 0, .inr (5, oH h da (nI n) de (nI 6) pa)), (x 3, .inl (E.2.1 0, 3, .inl (upd r 2 (r 2 + nI 1))))] 0 11 rfl rfl (by decide) rfl (Nat.le_of_ble_eq_true rfl) rfl rfl rfl rfl rfl ?_
              exact g_val (rfl) (g_ws (rfl) (hR _ _ dX11_note_69))
          · exact Bool.noConfusion ((inB_ok (by omega) (by omega)).symm.trans h_41)
set_option maxHeartbeats 600000 in
set_option maxRecDepth 100000 in
theorem f_X11_note_bad (l : Launch) (E : Ew) (x : Nat → Nat) (h : Nat → Nat) (dr : Nat → Nat) (da : Int32) (de : Int32) (no : Int32) (pa : Int32) (n : Nat) (r : Nat → Int32) (p : Int32) (y : Int32) (d : Int32) (b : Int32) (t : Int32) (hn7 : n ≤ 7) (hb : (inB p n && inB y 10 && inB d 100 && inB b 2 && inB t 2) = false) : Fn l E 2 yX11_note cX11_note 6 (some .int) [.ref (x 0), .int p, .int y, .int d, .int b, .int t] [(x 0, .inr (11, oL x h dr)), (h 0, .inr (5, oH h da (nI n) de no pa)), (x 3, .inl (E.2.1 0, 3, .inl r))] (some (.int (-2))) [(x 0, .inr (11, oL x h dr)), (h 0, .inr (5, oH h da (nI n) de no pa)), (x 3, .inl (E.2.1 0, 3, .inl (upd r 0 (r 0 + nI 1))))] := by
  refine fn_I (by decide) (Nat.le_of_ble_eq_true rfl) rfl ?_
  intro K hC hR
  show G K E 6 [(x 0, .inr (11, oL x h dr)), (h 0, .inr (5, oH h da (nI n) de no pa)), (x 3, .inl (E.2.1 0, 3, .inl r))] [(0, .ref (x 0)), (1, .int p), (2, .int y), (3, .int d), (4, .int b), (5, .int t)] 0 []
  refine g_aload_n hC dX11_note_0 rfl 0 rfl ?_
  refine g_iload_n hC dX11_note_1 rfl 1 rfl ?_
  refine g_callV hC (f_X11_isThere (kl K) E x h dr da de no pa n p (by omega)) wX11_isThere m2_156 dX11_note_2 [0, 1] [(x 0, .inr (11, oL x h dr)), (h 0, .inr (5, oH h da (nI n) de no pa)), (x 3, .inl (E.2.1 0, 3, .inl r))] 0 11 rfl rfl (by decide) rfl (Nat.le_of_ble_eq_true rfl) rfl rfl rfl rfl rfl ?_
  refine g_if_eqB (tgt := 44) hC dX11_note_5 (by decide) (fun h_5 => ?_) (fun h_5 => ?_)
  · refine g_aload_n hC dX11_note_44 rfl 0 rfl ?_
    refine g_bipush (v := (-2)) hC dX11_note_45 (by decide) ?_
    refine g_callV hC (f_X11_refuse_bad (kl K) E x h dr r) wX11_refuse m2_16 dX11_note_47 [0, 2] [(x 0, .inr (11, oL x h dr)), (h 0, .inr (5, oH h da (nI n) de no pa)), (x 3, .inl (E.2.1 0, 3, .inl (upd r 0 (r 0 + nI 1))))] 0 11 rfl rfl (by decide) rfl (Nat.le_of_ble_eq_true rfl) rfl rfl rfl rfl rfl ?_
    exact g_val (rfl) (g_ws (rfl) (hR _ _ dX11_note_50))
  · refine g_iload_n hC dX11_note_8 rfl 2 rfl ?_
    refine g_bipush (v := (nI 10)) hC dX11_note_9 (by decide) ?_
    refine g_callS hC (f_X11_within (kl K) E y 10 (by omega)) wX11_within m2_13 dX11_note_11 [] [(x 0, .inr (11, oL x h dr)), (h 0, .inr (5, oH h da (nI n) de no pa)), (x 3, .inl (E.2.1 0, 3, .inl r))] (by decide) rfl (Nat.le_of_ble_eq_true rfl) rfl rfl rfl rfl rfl ?_
    refine g_if_eqB (tgt := 44) hC dX11_note_14 (by decide) (fun h_14 => ?_) (fun h_14 => ?_)
    · refine g_aload_n hC dX11_note_44 rfl 0 rfl ?_
      refine g_bipush (v := (-2)) hC dX11_note_45 (by decide) ?_
      refine g_callV hC (f_X11_refuse_bad (kl K) E x h dr r) wX11_refuse m2_16 dX11_note_47 [0, 2] [(x 0, .inr (11, oL x h dr)), (h 0, .inr (5, oH h da (nI n) de no pa)), (x 3, .inl (E.2.1 0, 3, .inl (upd r 0 (r 0 + nI 1))))] 0 11 rfl rfl (by decide) rfl (Nat.le_of_ble_eq_true rfl) rfl rfl rfl rfl rfl ?_
      exact g_val (rfl) (g_ws (rfl) (hR _ _ dX11_note_50))
    · refine g_iload_n hC dX11_note_17 rfl 3 rfl ?_
      refine g_bipush (v := (nI 100)) hC dX11_note_18 (by decide) ?_
      refine g_callS hC (f_X11_within (kl K) E d 100 (by omega)) wX11_within m2_13 dX11_note_20 [] [(x 0, .inr (11, oL x h dr)), (h 0, .inr (5, oH h da (nI n) de no pa)), (x 3, .inl (E.2.1 0, 3, .inl r))] (by decide) rfl (Nat.le_of_ble_eq_true rfl) rfl rfl rfl rfl rfl ?_
      refine g_if_eqB (tgt := 44) hC dX11_note_23 (by decide) (fun h_23 => ?_) (fun h_23 => ?_)
      · refine g_aload_n hC dX11_note_44 rfl 0 rfl ?_
        refine g_bipush (v := (-2)) hC dX11_note_45 (by decide) ?_
        refine g_callV hC (f_X11_refuse_bad (kl K) E x h dr r) wX11_refuse m2_16 dX11_note_47 [0, 2] [(x 0, .inr (11, oL x h dr)), (h 0, .inr (5, oH h da (nI n) de no pa)), (x 3, .inl (E.2.1 0, 3, .inl (upd r 0 (r 0 + nI 1))))] 0 11 rfl rfl (by decide) rfl (Nat.le_of_ble_eq_true rfl) rfl rfl rfl rfl rfl ?_
        exact g_val (rfl) (g_ws (rfl) (hR _ _ dX11_note_50))
      · refine g_iload hC dX11_note_26 4 rfl ?_
        refine g_iconst (v := (nI 2)) hC dX11_note_28 (by decide) ?_
        refine g_callS hC (f_X11_within (kl K) E b 2 (by omega)) wX11_within m2_13 dX11_note_29 [] [(x 0, .inr (11, oL x h dr)), (h 0, .inr (5, oH h da (nI n) de no pa)), (x 3, .inl (E.2.1 0, 3, .inl r))] (by decide) rfl (Nat.le_of_ble_eq_true rfl) rfl rfl rfl rfl rfl ?_
        refine g_if_eqB (tgt := 44) hC dX11_note_32 (by decide) (fun h_32 => ?_) (fun h_32 => ?_)
        · refine g_aload_n hC dX11_note_44 rfl 0 rfl ?_
          refine g_bipush (v := (-2)) hC dX11_note_45 (by decide) ?_
          refine g_callV hC (f_X11_refuse_bad (kl K) E x h dr r) wX11_refuse m2_16 dX11_note_47 [0, 2] [(x 0, .inr (11, oL x h dr)), (h 0, .inr (5, oH h da (nI n) de no pa)), (x 3, .inl (E.2.1 0, 3, .inl (upd r 0 (r 0 + nI 1))))] 0 11 rfl rfl (by decide) rfl (Nat.le_of_ble_eq_true rfl) rfl rfl rfl rfl rfl ?_
          exact g_val (rfl) (g_ws (rfl) (hR _ _ dX11_note_50))
        · refine g_iload hC dX11_note_35 5 rfl ?_
          refine g_iconst (v := (nI 2)) hC dX11_note_37 (by decide) ?_
          refine g_callS hC (f_X11_within (kl K) E t 2 (by omega)) wX11_within m2_13 dX11_note_38 [] [(x 0, .inr (11, oL x h dr)), (h 0, .inr (5, oH h da (nI n) de no pa)), (x 3, .inl (E.2.1 0, 3, .inl r))] (by decide) rfl (Nat.le_of_ble_eq_true rfl) rfl rfl rfl rfl rfl ?_
          refine g_if_neB (tgt := 51) hC dX11_note_41 (by decide) (fun h_41 => ?_) (fun h_41 => ?_)
          · exact absurd hb (by simp [h_5, h_14, h_23, h_32, h_41])
          · refine g_aload_n hC dX11_note_44 rfl 0 rfl ?_
            refine g_bipush (v := (-2)) hC dX11_note_45 (by decide) ?_
            refine g_callV hC (f_X11_refuse_bad (kl K) E x h dr r) wX11_refuse m2_16 dX11_note_47 [0, 2] [(x 0, .inr (11, oL x h dr)), (h 0, .inr (5, oH h da (nI n) de no pa)), (x 3, .inl (E.2.1 0, 3, .inl (upd r 0 (r 0 + nI 1))))] 0 11 rfl rfl (by decide) rfl (Nat.le_of_ble_eq_true rfl) rfl rfl rfl rfl rfl ?_
            exact g_val (rfl) (g_ws (rfl) (hR _ _ dX11_note_50))
set_option maxHeartbeats 600000 in
set_option maxRecDepth 100000 in
theorem f_X11_forget_0 (l : Launch) (E : Ew) (x : Nat → Nat) (h : Nat → Nat) (dr : Nat → Nat) (da : Int32) (pe : Int32) (de : Int32) (no : Int32) (pa : Int32)  : Fn l E 2 yX11_forget cX11_forget 3 (some .int) [.ref (x 0), .int (nI 0)] [(x 0, .inr (11, oL x h dr)), (h 0, .inr (5, oH h da pe de no pa))] (some (.int de)) [(x 0, .inr (11, oL x h dr)), (h 0, .inr (5, oH h da pe (nI 0) no pa))] := by
  refine fn_I (by decide) (Nat.le_of_ble_eq_true rfl) rfl ?_
  intro K hC hR
  show G K E 3 [(x 0, .inr (11, oL x h dr)), (h 0, .inr (5, oH h da pe de no pa))] [(0, .ref (x 0)), (1, .int (nI 0))] 0 []
  refine g_iload_n hC dX11_forget_0 rfl 1 rfl ?_
  refine g_iconst (v := (nI 2)) hC dX11_forget_1 (by decide) ?_
  refine g_callS hC (f_X11_within (kl K) E (nI 0) 2 (by omega)) wX11_within m2_13 dX11_forget_2 [] [(x 0, .inr (11, oL x h dr)), (h 0, .inr (5, oH h da pe de no pa))] (by decide) rfl (Nat.le_of_ble_eq_true rfl) rfl rfl rfl rfl rfl ?_
  refine g_if_neB (tgt := 15) hC dX11_forget_5 (by decide) (fun h_5 => ?_) (fun h_5 => ?_)
  · refine g_iload_n hC dX11_forget_15 rfl 1 rfl ?_
    refine g_if_neN (tgt := 29) hC dX11_forget_16 (by decide) (by omega) (fun h_16 => ?_) (fun h_16 => ?_)
    · omega
    · refine g_aload_n hC dX11_forget_19 rfl 0 rfl ?_
      refine g_get hC 0 11 0 inX11 m1_221 dX11_forget_20 rfl rfl (by decide) rfl ?_
      refine g_get hC 1 5 5 inX5 m1_54 dX11_forget_23 rfl rfl (by decide) rfl ?_
      refine g_goto (tgt := 36) hC dX11_forget_26 (by decide) ?_
      refine g_istore_n hC [(2, .int de), (0, .ref (x 0)), (1, .int (nI 0))] dX11_forget_36 rfl (by decide) rfl ?_
      refine g_iload_n hC dX11_forget_37 rfl 2 rfl ?_
      refine g_if_neN (tgt := 52) hC dX11_forget_38 (by decide) (by omega) (fun h_38 => ?_) (fun h_38 => ?_)
      · omega
      · refine g_aload_n hC dX11_forget_41 rfl 1 rfl ?_
        refine g_get hC 0 11 0 inX11 m1_221 dX11_forget_42 rfl rfl (by decide) rfl ?_
        refine g_iconst (v := (nI 0)) hC dX11_forget_45 (by decide) ?_
        refine g_put hC 1 5 5 [(x 0, .inr (11, oL x h dr)), (h 0, .inr (5, oH h da pe (nI 0) no pa))] .int inX5 tyX5_ok nmX5 m1_54 dX11_forget_46 rfl rfl (by decide) rfl (by decide +kernel) rfl rfl (Nat.le_of_ble_eq_true rfl) rfl ?_
        refine g_goto (tgt := 60) hC dX11_forget_49 (by decide) ?_
        refine g_iload_n hC dX11_forget_60 rfl 0 rfl ?_
        exact g_val (rfl) (g_ws (rfl) (hR _ _ dX11_forget_61))
  · exact Bool.noConfusion ((inB_ok (by omega) (by omega)).symm.trans h_5)
set_option maxHeartbeats 600000 in
set_option maxRecDepth 100000 in
theorem f_X11_forget_1 (l : Launch) (E : Ew) (x : Nat → Nat) (h : Nat → Nat) (dr : Nat → Nat) (da : Int32) (pe : Int32) (de : Int32) (no : Int32) (pa : Int32)  : Fn l E 2 yX11_forget cX11_forget 3 (some .int) [.ref (x 0), .int (nI 1)] [(x 0, .inr (11, oL x h dr)), (h 0, .inr (5, oH h da pe de no pa))] (some (.int no)) [(x 0, .inr (11, oL x h dr)), (h 0, .inr (5, oH h da pe de (nI 0) pa))] := by
  refine fn_I (by decide) (Nat.le_of_ble_eq_true rfl) rfl ?_
  intro K hC hR
  show G K E 3 [(x 0, .inr (11, oL x h dr)), (h 0, .inr (5, oH h da pe de no pa))] [(0, .ref (x 0)), (1, .int (nI 1))] 0 []
  refine g_iload_n hC dX11_forget_0 rfl 1 rfl ?_
  refine g_iconst (v := (nI 2)) hC dX11_forget_1 (by decide) ?_
  refine g_callS hC (f_X11_within (kl K) E (nI 1) 2 (by omega)) wX11_within m2_13 dX11_forget_2 [] [(x 0, .inr (11, oL x h dr)), (h 0, .inr (5, oH h da pe de no pa))] (by decide) rfl (Nat.le_of_ble_eq_true rfl) rfl rfl rfl rfl rfl ?_
  refine g_if_neB (tgt := 15) hC dX11_forget_5 (by decide) (fun h_5 => ?_) (fun h_5 => ?_)
  · refine g_iload_n hC dX11_forget_15 rfl 1 rfl ?_
    refine g_if_neN (tgt := 29) hC dX11_forget_16 (by decide) (by omega) (fun h_16 => ?_) (fun h_16 => ?_)
    · refine g_aload_n hC dX11_forget_29 rfl 0 rfl ?_
      refine g_get hC 0 11 0 inX11 m1_221 dX11_forget_30 rfl rfl (by decide) rfl ?_
      refine g_get hC 1 5 8 inX5 m1_60 dX11_forget_33 rfl rfl (by decide) rfl ?_
      refine g_istore_n hC [(2, .int no), (0, .ref (x 0)), (1, .int (nI 1))] dX11_forget_36 rfl (by decide) rfl ?_
      refine g_iload_n hC dX11_forget_37 rfl 2 rfl ?_
      refine g_if_neN (tgt := 52) hC dX11_forget_38 (by decide) (by omega) (fun h_38 => ?_) (fun h_38 => ?_)
      · refine g_aload_n hC dX11_forget_52 rfl 1 rfl ?_
        refine g_get hC 0 11 0 inX11 m1_221 dX11_forget_53 rfl rfl (by decide) rfl ?_
        refine g_iconst (v := (nI 0)) hC dX11_forget_56 (by decide) ?_
        refine g_put hC 1 5 8 [(x 0, .inr (11, oL x h dr)), (h 0, .inr (5, oH h da pe de (nI 0) pa))] .int inX5 tyX5_ok nmX5 m1_60 dX11_forget_57 rfl rfl (by decide) rfl (by decide +kernel) rfl rfl (Nat.le_of_ble_eq_true rfl) rfl ?_
        refine g_iload_n hC dX11_forget_60 rfl 0 rfl ?_
        exact g_val (rfl) (g_ws (rfl) (hR _ _ dX11_forget_61))
      · omega
    · omega
  · exact Bool.noConfusion ((inB_ok (by omega) (by omega)).symm.trans h_5)
set_option maxHeartbeats 600000 in
set_option maxRecDepth 100000 in
theorem f_X11_forget_bad (l : Launch) (E : Ew) (x : Nat → Nat) (h : Nat → Nat) (dr : Nat → Nat) (r : Nat → Int32) (wh : Int32) (hb : inB wh 2 = false) : Fn l E 2 yX11_forget cX11_forget 3 (some .int) [.ref (x 0), .int wh] [(x 0, .inr (11, oL x h dr)), (x 3, .inl (E.2.1 0, 3, .inl r))] (some (.int (-2))) [(x 0, .inr (11, oL x h dr)), (x 3, .inl (E.2.1 0, 3, .inl (upd r 0 (r 0 + nI 1))))] := by
  refine fn_I (by decide) (Nat.le_of_ble_eq_true rfl) rfl ?_
  intro K hC hR
  show G K E 3 [(x 0, .inr (11, oL x h dr)), (x 3, .inl (E.2.1 0, 3, .inl r))] [(0, .ref (x 0)), (1, .int wh)] 0 []
  refine g_iload_n hC dX11_forget_0 rfl 1 rfl ?_
  refine g_iconst (v := (nI 2)) hC dX11_forget_1 (by decide) ?_
  refine g_callS hC (f_X11_within (kl K) E wh 2 (by omega)) wX11_within m2_13 dX11_forget_2 [] [(x 0, .inr (11, oL x h dr)), (x 3, .inl (E.2.1 0, 3, .inl r))] (by decide) rfl (Nat.le_of_ble_eq_true rfl) rfl rfl rfl rfl rfl ?_
  refine g_if_neB (tgt := 15) hC dX11_forget_5 (by decide) (fun h_5 => ?_) (fun h_5 => ?_)
  · exact absurd h_5 (by rw [hb]; decide)
  · refine g_aload_n hC dX11_forget_8 rfl 0 rfl ?_
    refine g_bipush (v := (-2)) hC dX11_forget_9 (by decide) ?_
    refine g_callV hC (f_X11_refuse_bad (kl K) E x h dr r) wX11_refuse m2_16 dX11_forget_11 [0, 1] [(x 0, .inr (11, oL x h dr)), (x 3, .inl (E.2.1 0, 3, .inl (upd r 0 (r 0 + nI 1))))] 0 11 rfl rfl (by decide) rfl (Nat.le_of_ble_eq_true rfl) rfl rfl rfl rfl rfl ?_
    exact g_val (rfl) (g_ws (rfl) (hR _ _ dX11_forget_14))
