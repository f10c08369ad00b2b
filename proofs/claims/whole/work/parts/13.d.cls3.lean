def hB (kd pl : Nat → Nat) (pp : Nat) (da : Int32) (o z : Bool) (n : Nat) : Nat := bs (fun p => tk (kd p) (fr (pl p) pp) o z (evn da)) n
theorem hB_yes {kd pl : Nat → Nat} {pp k : Nat} {da : Int32} {o z : Bool} (hk : k < 31) (h : tk (kd k) (fr (pl k) pp) o z (evn da) = true) : nI (hB kd pl pp da o z k) ||| (nI 1 <<< (nI k &&& 31)) = nI (hB kd pl pp da o z (k + 1)) := bs_yes (p := fun p => tk (kd p) (fr (pl p) pp) o z (evn da)) hk h
theorem hB_no {kd pl : Nat → Nat} {pp k : Nat} {da : Int32} {o z : Bool} (h : tk (kd k) (fr (pl k) pp) o z (evn da) = false) : nI (hB kd pl pp da o z k) ||| nI 0 = nI (hB kd pl pp da o z (k + 1)) := bs_no (p := fun p => tk (kd p) (fr (pl p) pp) o z (evn da)) h
theorem un_un (f : Nat → Nat) (k v w : Nat) : un (un f k v) k w = un f k w := by
  funext j; by_cases h : j = k <;> simp [un, h]
theorem abs_fr {a b : Nat} (ha : a < 1000) (hb : b < 1000) : (if 0 ≤ nI a - nI b then nI a - nI b else 0 - (nI a - nI b)) = nI (fr a b) := by
  have e : (nI a - nI b).toInt = (a : Int) - b := pk_sub_toInt (by omega) (by omega)
  have h0 : (0 : Int32).toInt = 0 := by decide
  unfold fr
  by_cases h : a < b
  · rw [if_pos h, if_neg (by rw [fa_le, e, h0]; omega)]
    rw [fa_eq, nI_toInt (by omega), fb_subI (by rw [e, h0]; omega) (by rw [e, h0]; omega), e, h0]
    omega
  · rw [if_neg h, if_pos (by rw [fa_le, e, h0]; omega), pk_sub (by omega)]
theorem fr_1000 {a b : Nat} (ha : a < 1000) (hb : b < 1000) : fr a b < 1000 := by unfold fr; split <;> omega
def htr (ao at1 an bn : Nat → Nat) (x pp : Nat) : Nat := if bn x = 0 then an pp else (ao pp &&& bn x) ||| andn (at1 pp) (bn x)
/-- who turns at x called from pp -/
def HT (kd pl bn : Nat → Nat) (da : Int32) (x pp n : Nat) : Nat := bs (fun p => tk (kd p) (fr (pl p) pp) ((bn x).testBit p) (decide (bn x = 0)) (evn da)) n
theorem HT_eq {kd pl bn ao at1 an : Nat → Nat} {da : Int32} {x pp n : Nat} (hn : n ≤ 7) (hb : bn x < 2 ^ n) (h1 : ao pp = hB kd pl pp da true false n) (h2 : at1 pp = hB kd pl pp da false false n) (h3 : an pp = hB kd pl pp da false true n) : htr ao at1 an bn x pp = HT kd pl bn da x pp n := by
  unfold htr HT
  by_cases h0 : bn x = 0
  · rw [if_pos h0, h3]
    exact bs_cong (fun k hk => by rw [h0]; simp)
  · rw [if_neg h0, h1, h2]
    apply Nat.eq_of_testBit_eq
    intro i
    rw [Nat.testBit_or, Nat.testBit_and, bs_tb]
    by_cases hi : i < n
    · rw [andn_tb (by omega), hB, hB, bs_tb, bs_tb]
      cases hc : (bn x).testBit i <;> simp [hi, h0]
    · have hb2 : (bn x).testBit i = false := Nat.testBit_lt_two_pow (Nat.lt_of_lt_of_le hb (Nat.pow_le_pow_right (by decide) (by omega)))
      have h4 : (andn (hB kd pl pp da false false n) (bn x)).testBit i = false := by
        unfold andn
        rw [bs_tb, hB, bs_tb]
        simp [hi]
      rw [hb2, h4]
      simp [hi]
def hL (kd pl : Nat → Nat) (da : Int32) (o z : Bool) (n : Nat) (ao : Nat → Nat) (k : Nat) : Nat → Nat := fun j => if j < k then hB kd pl j da o z n else ao j
theorem hL_0 (kd pl : Nat → Nat) (da : Int32) (o z : Bool) (n : Nat) (ao : Nat → Nat) : hL kd pl da o z n ao 0 = ao := by funext j; simp [hL]
theorem hL_s (kd pl : Nat → Nat) (da : Int32) (o z : Bool) (n : Nat) (ao : Nat → Nat) (k : Nat) : hL kd pl da o z n ao (k + 1) = un (hL kd pl da o z n ao k) k (hB kd pl k da o z n) := by
  funext p
  by_cases h : p = k
  · subst h; simp [hL, un]
  · by_cases h2 : p < k
    · simp [hL, un, h, h2, show p < k + 1 by omega]
    · simp [hL, un, h, h2, show ¬ p < k + 1 by omega]
theorem HT_lt (kd pl bn : Nat → Nat) (da : Int32) (x pp : Nat) {n : Nat} (hn : n ≤ 7) : HT kd pl bn da x pp n < 128 := bs_lt' _ (m := 7) hn
theorem hB_lt (kd pl : Nat → Nat) (pp : Nat) (da : Int32) (o z : Bool) {n : Nat} (hn : n ≤ 7) : hB kd pl pp da o z n < 128 := bs_lt' _ (m := 7) hn

set_option maxHeartbeats 4000000 in
set_option maxRecDepth 100000 in
theorem f_X6_listenAt (l : Launch) (E : Ew) (x : Nat → Nat) (h : Nat → Nat) (da : Int32) (de : Int32) (no : Int32) (pa : Int32) (n : Nat) (kd : Nat → Nat) (pl : Nat → Nat) (ao : Nat → Nat) (at1 : Nat → Nat) (an : Nat → Nat) (pp : Nat) (hn7 : n ≤ 7) (hkd : ∀ p, p < n → kd p < 6) (hpl : ∀ p, p < n → pl p < 10) (hpp : pp < 10) : Fn l E 4 yX6_listenAt cX6_listenAt 6 none [.ref (x 7), .ref (h 0), .int (nI pp)] [(x 7, .inr (6, oG x)), (x 8, .inl (E.2.1 4, 6, .inr (.inr (.inr (.inr (fun j => some (x (14 + j)))))))), (x 14, .inr (7, [])), (x 15, .inr (0, [])), (x 16, .inr (3, [])), (x 17, .inr (1, [])), (x 18, .inr (9, [])), (x 19, .inr (2, [])), (x 9, .inl (E.2.1 0, 10, .inl (nf ao))), (x 10, .inl (E.2.1 0, 10, .inl (nf at1))), (x 11, .inl (E.2.1 0, 10, .inl (nf an))), (h 0, .inr (5, oH h da (nI n) de no pa)), (h 1, .inl (E.2.1 0, 7, .inl (nf kd))), (h 2, .inl (E.2.1 0, 7, .inl (nf pl)))] none [(x 7, .inr (6, oG x)), (x 8, .inl (E.2.1 4, 6, .inr (.inr (.inr (.inr (fun j => some (x (14 + j)))))))), (x 14, .inr (7, [])), (x 15, .inr (0, [])), (x 16, .inr (3, [])), (x 17, .inr (1, [])), (x 18, .inr (9, [])), (x 19, .inr (2, [])), (x 9, .inl (E.2.1 0, 10, .inl (nf (un ao pp (hB kd pl pp da true false n))))), (x 10, .inl (E.2.1 0, 10, .inl (nf (un at1 pp (hB kd pl pp da false false n))))), (x 11, .inl (E.2.1 0, 10, .inl (nf (un an pp (hB kd pl pp da false true n))))), (h 0, .inr (5, oH h da (nI n) de no pa)), (h 1, .inl (E.2.1 0, 7, .inl (nf kd))), (h 2, .inl (E.2.1 0, 7, .inl (nf pl)))] := by
  refine fn_V (by decide) (Nat.le_of_ble_eq_true rfl) rfl ?_
  intro K hC hR
  show G K E 6 [(x 7, .inr (6, oG x)), (x 8, .inl (E.2.1 4, 6, .inr (.inr (.inr (.inr (fun j => some (x (14 + j)))))))), (x 14, .inr (7, [])), (x 15, .inr (0, [])), (x 16, .inr (3, [])), (x 17, .inr (1, [])), (x 18, .inr (9, [])), (x 19, .inr (2, [])), (x 9, .inl (E.2.1 0, 10, .inl (nf ao))), (x 10, .inl (E.2.1 0, 10, .inl (nf at1))), (x 11, .inl (E.2.1 0, 10, .inl (nf an))), (h 0, .inr (5, oH h da (nI n) de no pa)), (h 1, .inl (E.2.1 0, 7, .inl (nf kd))), (h 2, .inl (E.2.1 0, 7, .inl (nf pl)))] [(0, .ref (x 7)), (1, .ref (h 0)), (2, .int (nI pp))] 0 []
  refine g_iload_n hC dX6_listenAt_0 rfl 2 rfl ?_
  refine g_bipush (v := (nI 10)) hC dX6_listenAt_1 (by decide) ?_
  refine g_callSN hC (f_X11_within (kl K) E (nI pp) 10 (by omega)) wX11_within (List.mem_of_getElem? (i := 17) rfl) dX6_listenAt_3 [] [(x 7, .inr (6, oG x)), (x 8, .inl (E.2.1 4, 6, .inr (.inr (.inr (.inr (fun j => some (x (14 + j)))))))), (x 14, .inr (7, [])), (x 15, .inr (0, [])), (x 16, .inr (3, [])), (x 17, .inr (1, [])), (x 18, .inr (9, [])), (x 19, .inr (2, [])), (x 9, .inl (E.2.1 0, 10, .inl (nf ao))), (x 10, .inl (E.2.1 0, 10, .inl (nf at1))), (x 11, .inl (E.2.1 0, 10, .inl (nf an))), (h 0, .inr (5, oH h da (nI n) de no pa)), (h 1, .inl (E.2.1 0, 7, .inl (nf kd))), (h 2, .inl (E.2.1 0, 7, .inl (nf pl)))] (by decide) rfl (Nat.le_of_ble_eq_true rfl) rfl rfl rfl rfl rfl ?_
  refine g_if_neB (tgt := 10) hC dX6_listenAt_6 (by decide) (fun h_6 => ?_) (fun h_6 => ?_)
  · refine g_aload_n hC dX6_listenAt_10 rfl 0 rfl ?_
    refine g_get hC 0 6 1 inX6 m1_187 dX6_listenAt_11 rfl rfl (by decide) rfl ?_
    refine g_iload_n hC dX6_listenAt_14 rfl 2 rfl ?_
    refine g_iconst (v := (nI 0)) hC dX6_listenAt_15 (by decide) ?_
    refine g_iastN hC 8 [(x 7, .inr (6, oG x)), (x 8, .inl (E.2.1 4, 6, .inr (.inr (.inr (.inr (fun j => some (x (14 + j)))))))), (x 14, .inr (7, [])), (x 15, .inr (0, [])), (x 16, .inr (3, [])), (x 17, .inr (1, [])), (x 18, .inr (9, [])), (x 19, .inr (2, [])), (x 9, .inl (E.2.1 0, 10, .inl (upd (nf ao) pp (nI 0)))), (x 10, .inl (E.2.1 0, 10, .inl (nf at1))), (x 11, .inl (E.2.1 0, 10, .inl (nf an))), (h 0, .inr (5, oH h da (nI n) de no pa)), (h 1, .inl (E.2.1 0, 7, .inl (nf kd))), (h 2, .inl (E.2.1 0, 7, .inl (nf pl)))] dX6_listenAt_16 rfl (by decide) (by omega) rfl ?_
    refine g_ws (ws' := [(x 7, .inr (6, oG x)), (x 8, .inl (E.2.1 4, 6, .inr (.inr (.inr (.inr (fun j => some (x (14 + j)))))))), (x 14, .inr (7, [])), (x 15, .inr (0, [])), (x 16, .inr (3, [])), (x 17, .inr (1, [])), (x 18, .inr (9, [])), (x 19, .inr (2, [])), (x 9, .inl (E.2.1 0, 10, .inl (nf (un ao pp 0)))), (x 10, .inl (E.2.1 0, 10, .inl (nf at1))), (x 11, .inl (E.2.1 0, 10, .inl (nf an))), (h 0, .inr (5, oH h da (nI n) de no pa)), (h 1, .inl (E.2.1 0, 7, .inl (nf kd))), (h 2, .inl (E.2.1 0, 7, .inl (nf pl)))]) (by rw [nf_u ao pp 0]) ?_
    refine g_aload_n hC dX6_listenAt_17 rfl 0 rfl ?_
    refine g_get hC 0 6 2 inX6 m1_188 dX6_listenAt_18 rfl rfl (by decide) rfl ?_
    refine g_iload_n hC dX6_listenAt_21 rfl 2 rfl ?_
    refine g_iconst (v := (nI 0)) hC dX6_listenAt_22 (by decide) ?_
    refine g_iastN hC 9 [(x 7, .inr (6, oG x)), (x 8, .inl (E.2.1 4, 6, .inr (.inr (.inr (.inr (fun j => some (x (14 + j)))))))), (x 14, .inr (7, [])), (x 15, .inr (0, [])), (x 16, .inr (3, [])), (x 17, .inr (1, [])), (x 18, .inr (9, [])), (x 19, .inr (2, [])), (x 9, .inl (E.2.1 0, 10, .inl (nf (un ao pp 0)))), (x 10, .inl (E.2.1 0, 10, .inl (upd (nf at1) pp (nI 0)))), (x 11, .inl (E.2.1 0, 10, .inl (nf an))), (h 0, .inr (5, oH h da (nI n) de no pa)), (h 1, .inl (E.2.1 0, 7, .inl (nf kd))), (h 2, .inl (E.2.1 0, 7, .inl (nf pl)))] dX6_listenAt_23 rfl (by decide) (by omega) rfl ?_
    refine g_ws (ws' := [(x 7, .inr (6, oG x)), (x 8, .inl (E.2.1 4, 6, .inr (.inr (.inr (.inr (fun j => some (x (14 + j)))))))), (x 14, .inr (7, [])), (x 15, .inr (0, [])), (x 16, .inr (3, [])), (x 17, .inr (1, [])), (x 18, .inr (9, [])), (x 19, .inr (2, [])), (x 9, .inl (E.2.1 0, 10, .inl (nf (un ao pp 0)))), (x 10, .inl (E.2.1 0, 10, .inl (nf (un at1 pp 0)))), (x 11, .inl (E.2.1 0, 10, .inl (nf an))), (h 0, .inr (5, oH h da (nI n) de no pa)), (h 1, .inl (E.2.1 0, 7, .inl (nf kd))), (h 2, .inl (E.2.1 0, 7, .inl (nf pl)))]) (by rw [nf_u at1 pp 0]) ?_
    refine g_aload_n hC dX6_listenAt_24 rfl 0 rfl ?_
    refine g_get hC 0 6 3 inX6 m1_189 dX6_listenAt_25 rfl rfl (by decide) rfl ?_
    refine g_iload_n hC dX6_listenAt_28 rfl 2 rfl ?_
    refine g_iconst (v := (nI 0)) hC dX6_listenAt_29 (by decide) ?_
    refine g_iastN hC 10 [(x 7, .inr (6, oG x)), (x 8, .inl (E.2.1 4, 6, .inr (.inr (.inr (.inr (fun j => some (x (14 + j)))))))), (x 14, .inr (7, [])), (x 15, .inr (0, [])), (x 16, .inr (3, [])), (x 17, .inr (1, [])), (x 18, .inr (9, [])), (x 19, .inr (2, [])), (x 9, .inl (E.2.1 0, 10, .inl (nf (un ao pp 0)))), (x 10, .inl (E.2.1 0, 10, .inl (nf (un at1 pp 0)))), (x 11, .inl (E.2.1 0, 10, .inl (upd (nf an) pp (nI 0)))), (h 0, .inr (5, oH h da (nI n) de no pa)), (h 1, .inl (E.2.1 0, 7, .inl (nf kd))), (h 2, .inl (E.2.1 0, 7, .inl (nf pl)))] dX6_listenAt_30 rfl (by decide) (by omega) rfl ?_
    refine g_ws (ws' := [(x 7, .inr (6, oG x)), (x 8, .inl (E.2.1 4, 6, .inr (.inr (.inr (.inr (fun j => some (x (14 + j)))))))), (x 14, .inr (7, [])), (x 15, .inr (0, [])), (x 16, .inr (3, [])), (x 17, .inr (1, [])), (x 18, .inr (9, [])), (x 19, .inr (2, [])), (x 9, .inl (E.2.1 0, 10, .inl (nf (un ao pp 0)))), (x 10, .inl (E.2.1 0, 10, .inl (nf (un at1 pp 0)))), (x 11, .inl (E.2.1 0, 10, .inl (nf (un an pp 0)))), (h 0, .inr (5, oH h da (nI n) de no pa)), (h 1, .inl (E.2.1 0, 7, .inl (nf kd))), (h 2, .inl (E.2.1 0, 7, .inl (nf pl)))]) (by rw [nf_u an pp 0]) ?_
    refine g_iconst (v := (nI 0)) hC dX6_listenAt_31 (by decide) ?_
    refine g_istore_n hC [(3, .int (nI 0)), (0, .ref (x 7)), (1, .ref (h 0)), (2, .int (nI pp))] dX6_listenAt_32 rfl (by decide) rfl ?_
    have L_33 : ∀ (fu : Nat) (k : Nat) (hk : k ≤ n), n - k < fu → G K E 6 [(x 7, .inr (6, oG x)), (x 8, .inl (E.2.1 4, 6, .inr (.inr (.inr (.inr (fun j => some (x (14 + j)))))))), (x 14, .inr (7, [])), (x 15, .inr (0, [])), (x 16, .inr (3, [])), (x 17, .inr (1, [])), (x 18, .inr (9, [])), (x 19, .inr (2, [])), (x 9, .inl (E.2.1 0, 10, .inl (nf (un ao pp (hB kd pl pp da true false k))))), (x 10, .inl (E.2.1 0, 10, .inl (nf (un at1 pp (hB kd pl pp da false false k))))), (x 11, .inl (E.2.1 0, 10, .inl (nf (un an pp (hB kd pl pp da false true k))))), (h 0, .inr (5, oH h da (nI n) de no pa)), (h 1, .inl (E.2.1 0, 7, .inl (nf kd))), (h 2, .inl (E.2.1 0, 7, .inl (nf pl)))] [(3, .int (nI k)), (0, .ref (x 7)), (1, .ref (h 0)), (2, .int (nI pp))] 33 [] := by
      intro fu
      induction fu with
      | zero => intro k hk hm_33; exact absurd hm_33 (Nat.not_lt_zero _)
      | succ fu ih_33 =>
        intro k hk hm_33
        refine g_iload_n hC dX6_listenAt_33 rfl 0 rfl ?_
        refine g_aload_n hC dX6_listenAt_34 rfl 2 rfl ?_
        refine g_get hC 11 5 1 inX5 m1_43 dX6_listenAt_35 rfl rfl (by decide) rfl ?_
        refine g_icmp_geN (tgt := 167) hC dX6_listenAt_38 (by decide) (by omega) (by omega) (fun h_38 => ?_) (fun h_38 => ?_)
        · exact g_ws (by rw [show k = n by omega]) (hR _ _ dX6_listenAt_167)
        · have hkk := hkd k (by omega)
          have hpk := hpl k (by omega)
          have hfk : fr (pl k) pp < 1000 := fr_1000 (by omega) (by omega)
          refine g_aload_n hC dX6_listenAt_41 rfl 2 rfl ?_
          refine g_get hC 11 5 2 inX5 m1_45 dX6_listenAt_42 rfl rfl (by decide) rfl ?_
          refine g_iload_n hC dX6_listenAt_45 rfl 0 rfl ?_
          refine g_ialdN hC 12 dX6_listenAt_46 rfl (by decide) (by omega) ?_
          refine g_val (v' := .int (nI (kd k))) rfl ?_
          refine g_istore hC [(4, .int (nI (kd k))), (3, .int (nI k)), (0, .ref (x 7)), (1, .ref (h 0)), (2, .int (nI pp))] dX6_listenAt_47 (by decide) rfl ?_
          refine g_aload_n hC dX6_listenAt_49 rfl 3 rfl ?_
          refine g_get hC 11 5 3 inX5 m1_48 dX6_listenAt_50 rfl rfl (by decide) rfl ?_
          refine g_iload_n hC dX6_listenAt_53 rfl 1 rfl ?_
          refine g_ialdN hC 13 dX6_listenAt_54 rfl (by decide) (by omega) ?_
          refine g_val (v' := .int (nI (pl k))) rfl ?_
          refine g_iload_n hC dX6_listenAt_55 rfl 4 rfl ?_
          refine g_isub hC dX6_listenAt_56 ?_
          refine g_mabs hC m2_169 m2_170 m1_20 m2_171 dX6_listenAt_57 (by decide) (Nat.le_of_ble_eq_true rfl) ?_
          refine g_val (v' := .int (nI (fr (pl k) pp))) (by rw [abs_fr (by omega) (by omega)]) ?_
          refine g_istore hC [(5, .int (nI (fr (pl k) pp))), (4, .int (nI (kd k))), (3, .int (nI k)), (0, .ref (x 7)), (1, .ref (h 0)), (2, .int (nI pp))] dX6_listenAt_60 (by decide) rfl ?_
          refine g_aload_n hC dX6_listenAt_62 rfl 3 rfl ?_
          refine g_get hC 0 6 1 inX6 m1_187 dX6_listenAt_63 rfl rfl (by decide) rfl ?_
          refine g_iload_n hC dX6_listenAt_66 rfl 5 rfl ?_
          refine g_dup2 hC dX6_listenAt_67 rfl rfl ?_
          refine g_ialdN hC 8 dX6_listenAt_68 rfl (by decide) (by omega) ?_
          refine g_val (v' := .int (nI ((un ao pp (hB kd pl pp da true false k)) pp))) rfl ?_
          refine g_val (v' := .int (nI (hB kd pl pp da true false k))) (by rw [un_s]) ?_
          refine g_aload_n hC dX6_listenAt_69 rfl 3 rfl ?_
          refine g_iload hC dX6_listenAt_70 1 rfl ?_
          refine g_iload hC dX6_listenAt_72 0 rfl ?_
          refine g_iconst (v := (nI 1)) hC dX6_listenAt_74 (by decide) ?_
          refine g_iconst (v := (nI 0)) hC dX6_listenAt_75 (by decide) ?_
          refine g_aload_n hC dX6_listenAt_76 rfl 4 rfl ?_
          refine g_get hC 11 5 0 inX5 m1_37 dX6_listenAt_77 rfl rfl (by decide) rfl ?_
          refine g_callV hC (f_X6_turnsAs (kl K) E x (kd k) (fr (pl k) pp) true false da (by omega) (by omega)) wX6_turnsAs m2_172 dX6_listenAt_80 [0, 1, 2, 3, 4, 5, 6, 7] [(x 7, .inr (6, oG x)), (x 8, .inl (E.2.1 4, 6, .inr (.inr (.inr (.inr (fun j => some (x (14 + j)))))))), (x 14, .inr (7, [])), (x 15, .inr (0, [])), (x 16, .inr (3, [])), (x 17, .inr (1, [])), (x 18, .inr (9, [])), (x 19, .inr (2, [])), (x 9, .inl (E.2.1 0, 10, .inl (nf (un ao pp (hB kd pl pp da true false k))))), (x 10, .inl (E.2.1 0, 10, .inl (nf (un at1 pp (hB kd pl pp da false false k))))), (x 11, .inl (E.2.1 0, 10, .inl (nf (un an pp (hB kd pl pp da false true k))))), (h 0, .inr (5, oH h da (nI n) de no pa)), (h 1, .inl (E.2.1 0, 7, .inl (nf kd))), (h 2, .inl (E.2.1 0, 7, .inl (nf pl)))] 0 6 rfl rfl (by decide) rfl (Nat.le_of_ble_eq_true rfl) rfl rfl rfl rfl rfl ?_
          refine g_if_eqB (tgt := 92) hC dX6_listenAt_83 (by decide) (fun h_83 => ?_) (fun h_83 => ?_)
          · refine g_iconst (v := (nI 0)) hC dX6_listenAt_92 (by decide) ?_
            refine g_ior hC dX6_listenAt_93 ?_
            refine g_val (v' := .int (nI (hB kd pl pp da true false (k + 1)))) (by rw [hB_no h_83]) ?_
            refine g_iastN hC 8 [(x 7, .inr (6, oG x)), (x 8, .inl (E.2.1 4, 6, .inr (.inr (.inr (.inr (fun j => some (x (14 + j)))))))), (x 14, .inr (7, [])), (x 15, .inr (0, [])), (x 16, .inr (3, [])), (x 17, .inr (1, [])), (x 18, .inr (9, [])), (x 19, .inr (2, [])), (x 9, .inl (E.2.1 0, 10, .inl (upd (nf (un ao pp (hB kd pl pp da true false k))) pp (nI (hB kd pl pp da true false (k + 1)))))), (x 10, .inl (E.2.1 0, 10, .inl (nf (un at1 pp (hB kd pl pp da false false k))))), (x 11, .inl (E.2.1 0, 10, .inl (nf (un an pp (hB kd pl pp da false true k))))), (h 0, .inr (5, oH h da (nI n) de no pa)), (h 1, .inl (E.2.1 0, 7, .inl (nf kd))), (h 2, .inl (E.2.1 0, 7, .inl (nf pl)))] dX6_listenAt_94 rfl (by decide) (by omega) rfl ?_
            refine g_ws (ws' := [(x 7, .inr (6, oG x)), (x 8, .inl (E.2.1 4, 6, .inr (.inr (.inr (.inr (fun j => some (x (14 + j)))))))), (x 14, .inr (7, [])), (x 15, .inr (0, [])), (x 16, .inr (3, [])), (x 17, .inr (1, [])), (x 18, .inr (9, [])), (x 19, .inr (2, [])), (x 9, .inl (E.2.1 0, 10, .inl (nf (un (un ao pp (hB kd pl pp da true false k)) pp (hB kd pl pp da true false (k + 1)))))), (x 10, .inl (E.2.1 0, 10, .inl (nf (un at1 pp (hB kd pl pp da false false k))))), (x 11, .inl (E.2.1 0, 10, .inl (nf (un an pp (hB kd pl pp da false true k))))), (h 0, .inr (5, oH h da (nI n) de no pa)), (h 1, .inl (E.2.1 0, 7, .inl (nf kd))), (h 2, .inl (E.2.1 0, 7, .inl (nf pl)))]) (by rw [nf_u (un ao pp (hB kd pl pp da true false k)) pp (hB kd pl pp da true false (k + 1))]) ?_
            refine g_aload_n hC dX6_listenAt_95 rfl 3 rfl ?_
            refine g_get hC 0 6 2 inX6 m1_188 dX6_listenAt_96 rfl rfl (by decide) rfl ?_
            refine g_iload_n hC dX6_listenAt_99 rfl 5 rfl ?_
            refine g_dup2 hC dX6_listenAt_100 rfl rfl ?_
            refine g_ialdN hC 9 dX6_listenAt_101 rfl (by decide) (by omega) ?_
            refine g_val (v' := .int (nI ((un at1 pp (hB kd pl pp da false false k)) pp))) rfl ?_
            refine g_val (v' := .int (nI (hB kd pl pp da false false k))) (by rw [un_s]) ?_
            refine g_aload_n hC dX6_listenAt_102 rfl 3 rfl ?_
            refine g_iload hC dX6_listenAt_103 1 rfl ?_
            refine g_iload hC dX6_listenAt_105 0 rfl ?_
            refine g_iconst (v := (nI 0)) hC dX6_listenAt_107 (by decide) ?_
            refine g_iconst (v := (nI 0)) hC dX6_listenAt_108 (by decide) ?_
            refine g_aload_n hC dX6_listenAt_109 rfl 4 rfl ?_
            refine g_get hC 11 5 0 inX5 m1_37 dX6_listenAt_110 rfl rfl (by decide) rfl ?_
            refine g_callV hC (f_X6_turnsAs (kl K) E x (kd k) (fr (pl k) pp) false false da (by omega) (by omega)) wX6_turnsAs m2_172 dX6_listenAt_113 [0, 1, 2, 3, 4, 5, 6, 7] [(x 7, .inr (6, oG x)), (x 8, .inl (E.2.1 4, 6, .inr (.inr (.inr (.inr (fun j => some (x (14 + j)))))))), (x 14, .inr (7, [])), (x 15, .inr (0, [])), (x 16, .inr (3, [])), (x 17, .inr (1, [])), (x 18, .inr (9, [])), (x 19, .inr (2, [])), (x 9, .inl (E.2.1 0, 10, .inl (nf (un (un ao pp (hB kd pl pp da true false k)) pp (hB kd pl pp da true false (k + 1)))))), (x 10, .inl (E.2.1 0, 10, .inl (nf (un at1 pp (hB kd pl pp da false false k))))), (x 11, .inl (E.2.1 0, 10, .inl (nf (un an pp (hB kd pl pp da false true k))))), (h 0, .inr (5, oH h da (nI n) de no pa)), (h 1, .inl (E.2.1 0, 7, .inl (nf kd))), (h 2, .inl (E.2.1 0, 7, .inl (nf pl)))] 0 6 rfl rfl (by decide) rfl (Nat.le_of_ble_eq_true rfl) rfl rfl rfl rfl rfl ?_
            refine g_if_eqB (tgt := 125) hC dX6_listenAt_116 (by decide) (fun h_116 => ?_) (fun h_116 => ?_)
            · refine g_iconst (v := (nI 0)) hC dX6_listenAt_125 (by decide) ?_
              refine g_ior hC dX6_listenAt_126 ?_
              refine g_val (v' := .int (nI (hB kd pl pp da false false (k + 1)))) (by rw [hB_no h_116]) ?_
              refine g_iastN hC 9 [(x 7, .inr (6, oG x)), (x 8, .inl (E.2.1 4, 6, .inr (.inr (.inr (.inr (fun j => some (x (14 + j)))))))), (x 14, .inr (7, [])), (x 15, .inr (0, [])), (x 16, .inr (3, [])), (x 17, .inr (1, [])), (x 18, .inr (9, [])), (x 19, .inr (2, [])), (x 9, .inl (E.2.1 0, 10, .inl (nf (un (un ao pp (hB kd pl pp da true false k)) pp (hB kd pl pp da true false (k + 1)))))), (x 10, .inl (E.2.1 0, 10, .inl (upd (nf (un at1 pp (hB kd pl pp da false false k))) pp (nI (hB kd pl pp da false false (k + 1)))))), (x 11, .inl (E.2.1 0, 10, .inl (nf (un an pp (hB kd pl pp da false true k))))), (h 0, .inr (5, oH h da (nI n) de no pa)), (h 1, .inl (E.2.1 0, 7, .inl (nf kd))), (h 2, .inl (E.2.1 0, 7, .inl (nf pl)))] dX6_listenAt_127 rfl (by decide) (by omega) rfl ?_
              refine g_ws (ws' := [(x 7, .inr (6, oG x)), (x 8, .inl (E.2.1 4, 6, .inr (.inr (.inr (.inr (fun j => some (x (14 + j)))))))), (x 14, .inr (7, [])), (x 15, .inr (0, [])), (x 16, .inr (3, [])), (x 17, .inr (1, [])), (x 18, .inr (9, [])), (x 19, .inr (2, [])), (x 9, .inl (E.2.1 0, 10, .inl (nf (un (un ao pp (hB kd pl pp da true false k)) pp (hB kd pl pp da true false (k + 1)))))), (x 10, .inl (E.2.1 0, 10, .inl (nf (un (un at1 pp (hB kd pl pp da false false k)) pp (hB kd pl pp da false false (k + 1)))))), (x 11, .inl (E.2.1 0, 10, .inl (nf (un an pp (hB kd pl pp da false true k))))), (h 0, .inr (5, oH h da (nI n) de no pa)), (h 1, .inl (E.2.1 0, 7, .inl (nf kd))), (h 2, .inl (E.2.1 0, 7, .inl (nf pl)))]) (by rw [nf_u (un at1 pp (hB kd pl pp da false false k)) pp (hB kd pl pp da false false (k + 1))]) ?_
              refine g_aload_n hC dX6_listenAt_128 rfl 3 rfl ?_
              refine g_get hC 0 6 3 inX6 m1_189 dX6_listenAt_129 rfl rfl (by decide) rfl ?_
              refine g_iload_n hC dX6_listenAt_132 rfl 5 rfl ?_
              refine g_dup2 hC dX6_listenAt_133 rfl rfl ?_
              refine g_ialdN hC 10 dX6_listenAt_134 rfl (by decide) (by omega) ?_
              refine g_val (v' := .int (nI ((un an pp (hB kd pl pp da false true k)) pp))) rfl ?_
              refine g_val (v' := .int (nI (hB kd pl pp da false true k))) (by rw [un_s]) ?_
              refine g_aload_n hC dX6_listenAt_135 rfl 3 rfl ?_
              refine g_iload hC dX6_listenAt_136 1 rfl ?_
              refine g_iload hC dX6_listenAt_138 0 rfl ?_
              refine g_iconst (v := (nI 0)) hC dX6_listenAt_140 (by decide) ?_
              refine g_iconst (v := (nI 1)) hC dX6_listenAt_141 (by decide) ?_
              refine g_aload_n hC dX6_listenAt_142 rfl 4 rfl ?_
              refine g_get hC 11 5 0 inX5 m1_37 dX6_listenAt_143 rfl rfl (by decide) rfl ?_
              refine g_callV hC (f_X6_turnsAs (kl K) E x (kd k) (fr (pl k) pp) false true da (by omega) (by omega)) wX6_turnsAs m2_172 dX6_listenAt_146 [0, 1, 2, 3, 4, 5, 6, 7] [(x 7, .inr (6, oG x)), (x 8, .inl (E.2.1 4, 6, .inr (.inr (.inr (.inr (fun j => some (x (14 + j)))))))), (x 14, .inr (7, [])), (x 15, .inr (0, [])), (x 16, .inr (3, [])), (x 17, .inr (1, [])), (x 18, .inr (9, [])), (x 19, .inr (2, [])), (x 9, .inl (E.2.1 0, 10, .inl (nf (un (un ao pp (hB kd pl pp da true false k)) pp (hB kd pl pp da true false (k + 1)))))), (x 10, .inl (E.2.1 0, 10, .inl (nf (un (un at1 pp (hB kd pl pp da false false k)) pp (hB kd pl pp da false false (k + 1)))))), (x 11, .inl (E.2.1 0, 10, .inl (nf (un an pp (hB kd pl pp da false true k))))), (h 0, .inr (5, oH h da (nI n) de no pa)), (h 1, .inl (E.2.1 0, 7, .inl (nf kd))), (h 2, .inl (E.2.1 0, 7, .inl (nf pl)))] 0 6 rfl rfl (by decide) rfl (Nat.le_of_ble_eq_true rfl) rfl rfl rfl rfl rfl ?_
              refine g_if_eqB (tgt := 158) hC dX6_listenAt_149 (by decide) (fun h_149 => ?_) (fun h_149 => ?_)
              · refine g_iconst (v := (nI 0)) hC dX6_listenAt_158 (by decide) ?_
                refine g_ior hC dX6_listenAt_159 ?_
                refine g_val (v' := .int (nI (hB kd pl pp da false true (k + 1)))) (by rw [hB_no h_149]) ?_
                refine g_iastN hC 10 [(x 7, .inr (6, oG x)), (x 8, .inl (E.2.1 4, 6, .inr (.inr (.inr (.inr (fun j => some (x (14 + j)))))))), (x 14, .inr (7, [])), (x 15, .inr (0, [])), (x 16, .inr (3, [])), (x 17, .inr (1, [])), (x 18, .inr (9, [])), (x 19, .inr (2, [])), (x 9, .inl (E.2.1 0, 10, .inl (nf (un (un ao pp (hB kd pl pp da true false k)) pp (hB kd pl pp da true false (k + 1)))))), (x 10, .inl (E.2.1 0, 10, .inl (nf (un (un at1 pp (hB kd pl pp da false false k)) pp (hB kd pl pp da false false (k + 1)))))), (x 11, .inl (E.2.1 0, 10, .inl (upd (nf (un an pp (hB kd pl pp da false true k))) pp (nI (hB kd pl pp da false true (k + 1)))))), (h 0, .inr (5, oH h da (nI n) de no pa)), (h 1, .inl (E.2.1 0, 7, .inl (nf kd))), (h 2, .inl (E.2.1 0, 7, .inl (nf pl)))] dX6_listenAt_160 rfl (by decide) (by omega) rfl ?_
                refine g_ws (ws' := [(x 7, .inr (6, oG x)), (x 8, .inl (E.2.1 4, 6, .inr (.inr (.inr (.inr (fun j => some (x (14 + j)))))))), (x 14, .inr (7, [])), (x 15, .inr (0, [])), (x 16, .inr (3, [])), (x 17, .inr (1, [])), (x 18, .inr (9, [])), (x 19, .inr (2, [])), (x 9, .inl (E.2.1 0, 10, .inl (nf (un (un ao pp (hB kd pl pp da true false k)) pp (hB kd pl pp da true false (k + 1)))))), (x 10, .inl (E.2.1 0, 10, .inl (nf (un (un at1 pp (hB kd pl pp da false false k)) pp (hB kd pl pp da false false (k + 1)))))), (x 11, .inl (E.2.1 0, 10, .inl (nf (un (un an pp (hB kd pl pp da false true k)) pp (hB kd pl pp da false true (k + 1)))))), (h 0, .inr (5, oH h da (nI n) de no pa)), (h 1, .inl (E.2.1 0, 7, .inl (nf kd))), (h 2, .inl (E.2.1 0, 7, .inl (nf pl)))]) (by rw [nf_u (un an pp (hB kd pl pp da false true k)) pp (hB kd pl pp da false true (k + 1))]) ?_
                refine g_iincN hC (q := 2) 1 [(3, .int (nI (k + 1))), (5, .int (nI (fr (pl k) pp))), (4, .int (nI (kd k))), (0, .ref (x 7)), (1, .ref (h 0)), (2, .int (nI pp))] dX6_listenAt_161 rfl rfl (by decide) rfl ?_
                refine g_goto (tgt := 33) hC dX6_listenAt_164 (by decide) ?_
                refine g_lv (lv' := [(3, .int (nI (k + 1))), (0, .ref (x 7)), (1, .ref (h 0)), (2, .int (nI pp))]) [0, 3, 4, 5] rfl ?_
                refine g_ws (ws' := [(x 7, .inr (6, oG x)), (x 8, .inl (E.2.1 4, 6, .inr (.inr (.inr (.inr (fun j => some (x (14 + j)))))))), (x 14, .inr (7, [])), (x 15, .inr (0, [])), (x 16, .inr (3, [])), (x 17, .inr (1, [])), (x 18, .inr (9, [])), (x 19, .inr (2, [])), (x 9, .inl (E.2.1 0, 10, .inl (nf (un ao pp (hB kd pl pp da true false (k + 1)))))), (x 10, .inl (E.2.1 0, 10, .inl (nf (un at1 pp (hB kd pl pp da false false (k + 1)))))), (x 11, .inl (E.2.1 0, 10, .inl (nf (un an pp (hB kd pl pp da false true (k + 1)))))), (h 0, .inr (5, oH h da (nI n) de no pa)), (h 1, .inl (E.2.1 0, 7, .inl (nf kd))), (h 2, .inl (E.2.1 0, 7, .inl (nf pl)))]) (by rw [un_un, un_un, un_un]) ?_
                exact ih_33 (k + 1) (by omega) (by omega)
              · refine g_iconst (v := (nI 1)) hC dX6_listenAt_152 (by decide) ?_
                refine g_iload_n hC dX6_listenAt_153 rfl 2 rfl ?_
                refine g_ishl hC dX6_listenAt_154 ?_
                refine g_goto (tgt := 159) hC dX6_listenAt_155 (by decide) ?_
                refine g_ior hC dX6_listenAt_159 ?_
                refine g_val (v' := .int (nI (hB kd pl pp da false true (k + 1)))) (by rw [hB_yes (by omega) h_149]) ?_
                refine g_iastN hC 10 [(x 7, .inr (6, oG x)), (x 8, .inl (E.2.1 4, 6, .inr (.inr (.inr (.inr (fun j => some (x (14 + j)))))))), (x 14, .inr (7, [])), (x 15, .inr (0, [])), (x 16, .inr (3, [])), (x 17, .inr (1, [])), (x 18, .inr (9, [])), (x 19, .inr (2, [])), (x 9, .inl (E.2.1 0, 10, .inl (nf (un (un ao pp (hB kd pl pp da true false k)) pp (hB kd pl pp da true false (k + 1)))))), (x 10, .inl (E.2.1 0, 10, .inl (nf (un (un at1 pp (hB kd pl pp da false false k)) pp (hB kd pl pp da false false (k + 1)))))), (x 11, .inl (E.2.1 0, 10, .inl (upd (nf (un an pp (hB kd pl pp da false true k))) pp (nI (hB kd pl pp da false true (k + 1)))))), (h 0, .inr (5, oH h da (nI n) de no pa)), (h 1, .inl (E.2.1 0, 7, .inl (nf kd))), (h 2, .inl (E.2.1 0, 7, .inl (nf pl)))] dX6_listenAt_160 rfl (by decide) (by omega) rfl ?_
                refine g_ws (ws' := [(x 7, .inr (6, oG x)), (x 8, .inl (E.2.1 4, 6, .inr (.inr (.inr (.inr (fun j => some (x (14 + j)))))))), (x 14, .inr (7, [])), (x 15, .inr (0, [])), (x 16, .inr (3, [])), (x 17, .inr (1, [])), (x 18, .inr (9, [])), (x 19, .inr (2, [])), (x 9, .inl (E.2.1 0, 10, .inl (nf (un (un ao pp (hB kd pl pp da true false k)) pp (hB kd pl pp da true false (k + 1)))))), (x 10, .inl (E.2.1 0, 10, .inl (nf (un (un at1 pp (hB kd pl pp da false false k)) pp (hB kd pl pp da false false (k + 1)))))), (x 11, .inl (E.2.1 0, 10, .inl (nf (un (un an pp (hB kd pl pp da false true k)) pp (hB kd pl pp da false true (k + 1)))))), (h 0, .inr (5, oH h da (nI n) de no pa)), (h 1, .inl (E.2.1 0, 7, .inl (nf kd))), (h 2, .inl (E.2.1 0, 7, .inl (nf pl)))]) (by rw [nf_u (un an pp (hB kd pl pp da false true k)) pp (hB kd pl pp da false true (k + 1))]) ?_
                refine g_iincN hC (q := 2) 1 [(3, .int (nI (k + 1))), (5, .int (nI (fr (pl k) pp))), (4, .int (nI (kd k))), (0, .ref (x 7)), (1, .ref (h 0)), (2, .int (nI pp))] dX6_listenAt_161 rfl rfl (by decide) rfl ?_
                refine g_goto (tgt := 33) hC dX6_listenAt_164 (by decide) ?_
                refine g_lv (lv' := [(3, .int (nI (k + 1))), (0, .ref (x 7)), (1, .ref (h 0)), (2, .int (nI pp))]) [0, 3, 4, 5] rfl ?_
                refine g_ws (ws' := [(x 7, .inr (6, oG x)), (x 8, .inl (E.2.1 4, 6, .inr (.inr (.inr (.inr (fun j => some (x (14 + j)))))))), (x 14, .inr (7, [])), (x 15, .inr (0, [])), (x 16, .inr (3, [])), (x 17, .inr (1, [])), (x 18, .inr (9, [])), (x 19, .inr (2, [])), (x 9, .inl (E.2.1 0, 10, .inl (nf (un ao pp (hB kd pl pp da true false (k + 1)))))), (x 10, .inl (E.2.1 0, 10, .inl (nf (un at1 pp (hB kd pl pp da false false (k + 1)))))), (x 11, .inl (E.2.1 0, 10, .inl (nf (un an pp (hB kd pl pp da false true (k + 1)))))), (h 0, .inr (5, oH h da (nI n) de no pa)), (h 1, .inl (E.2.1 0, 7, .inl (nf kd))), (h 2, .inl (E.2.1 0, 7, .inl (nf pl)))]) (by rw [un_un, un_un, un_un]) ?_
                exact ih_33 (k + 1) (by omega) (by omega)
            · refine g_iconst (v := (nI 1)) hC dX6_listenAt_119 (by decide) ?_
              refine g_iload_n hC dX6_listenAt_120 rfl 2 rfl ?_
              refine g_ishl hC dX6_listenAt_121 ?_
              refine g_goto (tgt := 126) hC dX6_listenAt_122 (by decide) ?_
              refine g_ior hC dX6_listenAt_126 ?_
              refine g_val (v' := .int (nI (hB kd pl pp da false false (k + 1)))) (by rw [hB_yes (by omega) h_116]) ?_
              refine g_iastN hC 9 [(x 7, .inr (6, oG x)), (x 8, .inl (E.2.1 4, 6, .inr (.inr (.inr (.inr (fun j => some (x (14 + j)))))))), (x 14, .inr (7, [])), (x 15, .inr (0, [])), (x 16, .inr (3, [])), (x 17, .inr (1, [])), (x 18, .inr (9, [])), (x 19, .inr (2, [])), (x 9, .inl (E.2.1 0, 10, .inl (nf (un (un ao pp (hB kd pl pp da true false k)) pp (hB kd pl pp da true false (k + 1)))))), (x 10, .inl (E.2.1 0, 10, .inl (upd (nf (un at1 pp (hB kd pl pp da false false k))) pp (nI (hB kd pl pp da false false (k + 1)))))), (x 11, .inl (E.2.1 0, 10, .inl (nf (un an pp (hB kd pl pp da false true k))))), (h 0, .inr (5, oH h da (nI n) de no pa)), (h 1, .inl (E.2.1 0, 7, .inl (nf kd))), (h 2, .inl (E.2.1 0, 7, .inl (nf pl)))] dX6_listenAt_127 rfl (by decide) (by omega) rfl ?_
              refine g_ws (ws' := [(x 7, .inr (6, oG x)), (x 8, .inl (E.2.1 4, 6, .inr (.inr (.inr (.inr (fun j => some (x (14 + j)))))))), (x 14, .inr (7, [])), (x 15, .inr (0, [])), (x 16, .inr (3, [])), (x 17, .inr (1, [])), (x 18, .inr (9, [])), (x 19, .inr (2, [])), (x 9, .inl (E.2.1 0, 10, .inl (nf (un (un ao pp (hB kd pl pp da true false k)) pp (hB kd pl pp da true false (k + 1)))))), (x 10, .inl (E.2.1 0, 10, .inl (nf (un (un at1 pp (hB kd pl pp da false false k)) pp (hB kd pl pp da false false (k + 1)))))), (x 11, .inl (E.2.1 0, 10, .inl (nf (un an pp (hB kd pl pp da false true k))))), (h 0, .inr (5, oH h da (nI n) de no pa)), (h 1, .inl (E.2.1 0, 7, .inl (nf kd))), (h 2, .inl (E.2.1 0, 7, .inl (nf pl)))]) (by rw [nf_u (un at1 pp (hB kd pl pp da false false k)) pp (hB kd pl pp da false false (k + 1))]) ?_
              refine g_aload_n hC dX6_listenAt_128 rfl 3 rfl ?_
              refine g_get hC 0 6 3 inX6 m1_189 dX6_listenAt_129 rfl rfl (by decide) rfl ?_
              refine g_iload_n hC dX6_listenAt_132 rfl 5 rfl ?_
              refine g_dup2 hC dX6_listenAt_133 rfl rfl ?_
              refine g_ialdN hC 10 dX6_listenAt_134 rfl (by decide) (by omega) ?_
              refine g_val (v' := .int (nI ((un an pp (hB kd pl pp da false true k)) pp))) rfl ?_
              refine g_val (v' := .int (nI (hB kd pl pp da false true k))) (by rw [un_s]) ?_
              refine g_aload_n hC dX6_listenAt_135 rfl 3 rfl ?_
              refine g_iload hC dX6_listenAt_136 1 rfl ?_
              refine g_iload hC dX6_listenAt_138 0 rfl ?_
              refine g_iconst (v := (nI 0)) hC dX6_listenAt_140 (by decide) ?_
              refine g_iconst (v := (nI 1)) hC dX6_listenAt_141 (by decide) ?_
              refine g_aload_n hC dX6_listenAt_142 rfl 4 rfl ?_
              refine g_get hC 11 5 0 inX5 m1_37 dX6_listenAt_143 rfl rfl (by decide) rfl ?_
              refine g_callV hC (f_X6_turnsAs (kl K) E x (kd k) (fr (pl k) pp) false true da (by omega) (by omega)) wX6_turnsAs m2_172 dX6_listenAt_146 [0, 1, 2, 3, 4, 5, 6, 7] [(x 7, .inr (6, oG x)), (x 8, .inl (E.2.1 4, 6, .inr (.inr (.inr (.inr (fun j => some (x (14 + j)))))))), (x 14, .inr (7, [])), (x 15, .inr (0, [])), (x 16, .inr (3, [])), (x 17, .inr (1, [])), (x 18, .inr (9, [])), (x 19, .inr (2, [])), (x 9, .inl (E.2.1 0, 10, .inl (nf (un (un ao pp (hB kd pl pp da true false k)) pp (hB kd pl pp da true false (k + 1)))))), (x 10, .inl (E.2.1 0, 10, .inl (nf (un (un at1 pp (hB kd pl pp da false false k)) pp (hB kd pl pp da false false (k + 1)))))), (x 11, .inl (E.2.1 0, 10, .inl (nf (un an pp (hB kd pl pp da false true k))))), (h 0, .inr (5, oH h da (nI n) de no pa)), (h 1, .inl (E.2.1 0, 7, .inl (nf kd))), (h 2, .inl (E.2.1 0, 7, .inl (nf pl)))] 0 6 rfl rfl (by decide) rfl (Nat.le_of_ble_eq_true rfl) rfl rfl rfl rfl rfl ?_
              refine g_if_eqB (tgt := 158) hC dX6_listenAt_149 (by decide) (fun h_149 => ?_) (fun h_149 => ?_)
              · refine g_iconst (v := (nI 0)) hC dX6_listenAt_158 (by decide) ?_
                refine g_ior hC dX6_listenAt_159 ?_
                refine g_val (v' := .int (nI (hB kd pl pp da false true (k + 1)))) (by rw [hB_no h_149]) ?_
                refine g_iastN hC 10 [(x 7, .inr (6, oG x)), (x 8, .inl (E.2.1 4, 6, .inr (.inr (.inr (.inr (fun j => some (x (14 + j)))))))), (x 14, .inr (7, [])), (x 15, .inr (0, [])), (x 16, .inr (3, [])), (x 17, .inr (1, [])), (x 18, .inr (9, [])), (x 19, .inr (2, [])), (x 9, .inl (E.2.1 0, 10, .inl (nf (un (un ao pp (hB kd pl pp da true false k)) pp (hB kd pl pp da true false (k + 1)))))), (x 10, .inl (E.2.1 0, 10, .inl (nf (un (un at1 pp (hB kd pl pp da false false k)) pp (hB kd pl pp da false false (k + 1)))))), (x 11, .inl (E.2.1 0, 10, .inl (upd (nf (un an pp (hB kd pl pp da false true k))) pp (nI (hB kd pl pp da false true (k + 1)))))), (h 0, .inr (5, oH h da (nI n) de no pa)), (h 1, .inl (E.2.1 0, 7, .inl (nf kd))), (h 2, .inl (E.2.1 0, 7, .inl (nf pl)))] dX6_listenAt_160 rfl (by decide) (by omega) rfl ?_
                refine g_ws (ws' := [(x 7, .inr (6, oG x)), (x 8, .inl (E.2.1 4, 6, .inr (.inr (.inr (.inr (fun j => some (x (14 + j)))))))), (x 14, .inr (7, [])), (x 15, .inr (0, [])), (x 16, .inr (3, [])), (x 17, .inr (1, [])), (x 18, .inr (9, [])), (x 19, .inr (2, [])), (x 9, .inl (E.2.1 0, 10, .inl (nf (un (un ao pp (hB kd pl pp da true false k)) pp (hB kd pl pp da true false (k + 1)))))), (x 10, .inl (E.2.1 0, 10, .inl (nf (un (un at1 pp (hB kd pl pp da false false k)) pp (hB kd pl pp da false false (k + 1)))))), (x 11, .inl (E.2.1 0, 10, .inl (nf (un (un an pp (hB kd pl pp da false true k)) pp (hB kd pl pp da false true (k + 1)))))), (h 0, .inr (5, oH h da (nI n) de no pa)), (h 1, .inl (E.2.1 0, 7, .inl (nf kd))), (h 2, .inl (E.2.1 0, 7, .inl (nf pl)))]) (by rw [nf_u (un an pp (hB kd pl pp da false true k)) pp (hB kd pl pp da false true (k + 1))]) ?_
                refine g_iincN hC (q := 2) 1 [(3, .int (nI (k + 1))), (5, .int (nI (fr (pl k) pp))), (4, .int (nI (kd k))), (0, .ref (x 7)), (1, .ref (h 0)), (2, .int (nI pp))] dX6_listenAt_161 rfl rfl (by decide) rfl ?_
                refine g_goto (tgt := 33) hC dX6_listenAt_164 (by decide) ?_
                refine g_lv (lv' := [(3, .int (nI (k + 1))), (0, .ref (x 7)), (1, .ref (h 0)), (2, .int (nI pp))]) [0, 3, 4, 5] rfl ?_
                refine g_ws (ws' := [(x 7, .inr (6, oG x)), (x 8, .inl (E.2.1 4, 6, .inr (.inr (.inr (.inr (fun j => some (x (14 + j)))))))), (x 14, .inr (7, [])), (x 15, .inr (0, [])), (x 16, .inr (3, [])), (x 17, .inr (1, [])), (x 18, .inr (9, [])), (x 19, .inr (2, [])), (x 9, .inl (E.2.1 0, 10, .inl (nf (un ao pp (hB kd pl pp da true false (k + 1)))))), (x 10, .inl (E.2.1 0, 10, .inl (nf (un at1 pp (hB kd pl pp da false false (k + 1)))))), (x 11, .inl (E.2.1 0, 10, .inl (nf (un an pp (hB kd pl pp da false true (k + 1)))))), (h 0, .inr (5, oH h da (nI n) de no pa)), (h 1, .inl (E.2.1 0, 7, .inl (nf kd))), (h 2, .inl (E.2.1 0, 7, .inl (nf pl)))]) (by rw [un_un, un_un, un_un]) ?_
                exact ih_33 (k + 1) (by omega) (by omega)
              · refine g_iconst (v := (nI 1)) hC dX6_listenAt_152 (by decide) ?_
                refine g_iload_n hC dX6_listenAt_153 rfl 2 rfl ?_
                refine g_ishl hC dX6_listenAt_154 ?_
                refine g_goto (tgt := 159) hC dX6_listenAt_155 (by decide) ?_
                refine g_ior hC dX6_listenAt_159 ?_
                refine g_val (v' := .int (nI (hB kd pl pp da false true (k + 1)))) (by rw [hB_yes (by omega) h_149]) ?_
                refine g_iastN hC 10 [(x 7, .inr (6, oG x)), (x 8, .inl (E.2.1 4, 6, .inr (.inr (.inr (.inr (fun j => some (x (14 + j)))))))), (x 14, .inr (7, [])), (x 15, .inr (0, [])), (x 16, .inr (3, [])), (x 17, .inr (1, [])), (x 18, .inr (9, [])), (x 19, .inr (2, [])), (x 9, .inl (E.2.1 0, 10, .inl (nf (un (un ao pp (hB kd pl pp da true false k)) pp (hB kd pl pp da true false (k + 1)))))), (x 10, .inl (E.2.1 0, 10, .inl (nf (un (un at1 pp (hB kd pl pp da false false k)) pp (hB kd pl pp da false false (k + 1)))))), (x 11, .inl (E.2.1 0, 10, .inl (upd (nf (un an pp (hB kd pl pp da false true k))) pp (nI (hB kd pl pp da false true (k + 1)))))), (h 0, .inr (5, oH h da (nI n) de no pa)), (h 1, .inl (E.2.1 0, 7, .inl (nf kd))), (h 2, .inl (E.2.1 0, 7, .inl (nf pl)))] dX6_listenAt_160 rfl (by decide) (by omega) rfl ?_
                refine g_ws (ws' := [(x 7, .inr (6, oG x)), (x 8, .inl (E.2.1 4, 6, .inr (.inr (.inr (.inr (fun j => some (x (14 + j)))))))), (x 14, .inr (7, [])), (x 15, .inr (0, [])), (x 16, .inr (3, [])), (x 17, .inr (1, [])), (x 18, .inr (9, [])), (x 19, .inr (2, [])), (x 9, .inl (E.2.1 0, 10, .inl (nf (un (un ao pp (hB kd pl pp da true false k)) pp (hB kd pl pp da true false (k + 1)))))), (x 10, .inl (E.2.1 0, 10, .inl (nf (un (un at1 pp (hB kd pl pp da false false k)) pp (hB kd pl pp da false false (k + 1)))))), (x 11, .inl (E.2.1 0, 10, .inl (nf (un (un an pp (hB kd pl pp da false true k)) pp (hB kd pl pp da false true (k + 1)))))), (h 0, .inr (5, oH h da (nI n) de no pa)), (h 1, .inl (E.2.1 0, 7, .inl (nf kd))), (h 2, .inl (E.2.1 0, 7, .inl (nf pl)))]) (by rw [nf_u (un an pp (hB kd pl pp da false true k)) pp (hB kd pl pp da false true (k + 1))]) ?_
                refine g_iincN hC (q := 2) 1 [(3, .int (nI (k + 1))), (5, .int (nI (fr (pl k) pp))), (4, .int (nI (kd k))), (0, .ref (x 7)), (1, .ref (h 0)), (2, .int (nI pp))] dX6_listenAt_161 rfl rfl (by decide) rfl ?_
                refine g_goto (tgt := 33) hC dX6_listenAt_164 (by decide) ?_
                refine g_lv (lv' := [(3, .int (nI (k + 1))), (0, .ref (x 7)), (1, .ref (h 0)), (2, .int (nI pp))]) [0, 3, 4, 5] rfl ?_
                refine g_ws (ws' := [(x 7, .inr (6, oG x)), (x 8, .inl (E.2.1 4, 6, .inr (.inr (.inr (.inr (fun j => some (x (14 + j)))))))), (x 14, .inr (7, [])), (x 15, .inr (0, [])), (x 16, .inr (3, [])), (x 17, .inr (1, [])), (x 18, .inr (9, [])), (x 19, .inr (2, [])), (x 9, .inl (E.2.1 0, 10, .inl (nf (un ao pp (hB kd pl pp da true false (k + 1)))))), (x 10, .inl (E.2.1 0, 10, .inl (nf (un at1 pp (hB kd pl pp da false false (k + 1)))))), (x 11, .inl (E.2.1 0, 10, .inl (nf (un an pp (hB kd pl pp da false true (k + 1)))))), (h 0, .inr (5, oH h da (nI n) de no pa)), (h 1, .inl (E.2.1 0, 7, .inl (nf kd))), (h 2, .inl (E.2.1 0, 7, .inl (nf pl)))]) (by rw [un_un, un_un, un_un]) ?_
                exact ih_33 (k + 1) (by omega) (by omega)
          · refine g_iconst (v := (nI 1)) hC dX6_listenAt_86 (by decide) ?_
            refine g_iload_n hC dX6_listenAt_87 rfl 2 rfl ?_
            refine g_ishl hC dX6_listenAt_88 ?_
            refine g_goto (tgt := 93) hC dX6_listenAt_89 (by decide) ?_
            refine g_ior hC dX6_listenAt_93 ?_
            refine g_val (v' := .int (nI (hB kd pl pp da true false (k + 1)))) (by rw [hB_yes (by omega) h_83]) ?_
            refine g_iastN hC 8 [(x 7, .inr (6, oG x)), (x 8, .inl (E.2.1 4, 6, .inr (.inr (.inr (.inr (fun j => some (x (14 + j)))))))), (x 14, .inr (7, [])), (x 15, .inr (0, [])), (x 16, .inr (3, [])), (x 17, .inr (1, [])), (x 18, .inr (9, [])), (x 19, .inr (2, [])), (x 9, .inl (E.2.1 0, 10, .inl (upd (nf (un ao pp (hB kd pl pp da true false k))) pp (nI (hB kd pl pp da true false (k + 1)))))), (x 10, .inl (E.2.1 0, 10, .inl (nf (un at1 pp (hB kd pl pp da false false k))))), (x 11, .inl (E.2.1 0, 10, .inl (nf (un an pp (hB kd pl pp da false true k))))), (h 0, .inr (5, oH h da (nI n) de no pa)), (h 1, .inl (E.2.1 0, 7, .inl (nf kd))), (h 2, .inl (E.2.1 0, 7, .inl (nf pl)))] dX6_listenAt_94 rfl (by decide) (by omega) rfl ?_
            refine g_ws (ws' := [(x 7, .inr (6, oG x)), (x 8, .inl (E.2.1 4, 6, .inr (.inr (.inr (.inr (fun j => some (x (14 + j)))))))), (x 14, .inr (7, [])), (x 15, .inr (0, [])), (x 16, .inr (3, [])), (x 17, .inr (1, [])), (x 18, .inr (9, [])), (x 19, .inr (2, [])), (x 9, .inl (E.2.1 0, 10, .inl (nf (un (un ao pp (hB kd pl pp da true false k)) pp (hB kd pl pp da true false (k + 1)))))), (x 10, .inl (E.2.1 0, 10, .inl (nf (un at1 pp (hB kd pl pp da false false k))))), (x 11, .inl (E.2.1 0, 10, .inl (nf (un an pp (hB kd pl pp da false true k))))), (h 0, .inr (5, oH h da (nI n) de no pa)), (h 1, .inl (E.2.1 0, 7, .inl (nf kd))), (h 2, .inl (E.2.1 0, 7, .inl (nf pl)))]) (by rw [nf_u (un ao pp (hB kd pl pp da true false k)) pp (hB kd pl pp da true false (k + 1))]) ?_
            refine g_aload_n hC dX6_listenAt_95 rfl 3 rfl ?_
            refine g_get hC 0 6 2 inX6 m1_188 dX6_listenAt_96 rfl rfl (by decide) rfl ?_
            refine g_iload_n hC dX6_listenAt_99 rfl 5 rfl ?_
            refine g_dup2 hC dX6_listenAt_100 rfl rfl ?_
            refine g_ialdN hC 9 dX6_listenAt_101 rfl (by decide) (by omega) ?_
            refine g_val (v' := .int (nI ((un at1 pp (hB kd pl pp da false false k)) pp))) rfl ?_
            refine g_val (v' := .int (nI (hB kd pl pp da false false k))) (by rw [un_s]) ?_
            refine g_aload_n hC dX6_listenAt_102 rfl 3 rfl ?_
            refine g_iload hC dX6_listenAt_103 1 rfl ?_
            refine g_iload hC dX6_listenAt_105 0 rfl ?_
            refine g_iconst (v := (nI 0)) hC dX6_listenAt_107 (by decide) ?_
            refine g_iconst (v := (nI 0)) hC dX6_listenAt_108 (by decide) ?_
            refine g_aload_n hC dX6_listenAt_109 rfl 4 rfl ?_
            refine g_get hC 11 5 0 inX5 m1_37 dX6_listenAt_110 rfl rfl (by decide) rfl ?_
            refine g_callV hC (f_X6_turnsAs (kl K) E x (kd k) (fr (pl k) pp) false false da (by omega) (by omega)) wX6_turnsAs m2_172 dX6_listenAt_113 [0, 1, 2, 3, 4, 5, 6, 7] [(x 7, .inr (6, oG x)), (x 8, .inl (E.2.1 4, 6, .inr (.inr (.inr (.inr (fun j => some (x (14 + j)))))))), (x 14, .inr (7, [])), (x 15, .inr (0, [])), (x 16, .inr (3, [])), (x 17, .inr (1, [])), (x 18, .inr (9, [])), (x 19, .inr (2, [])), (x 9, .inl (E.2.1 0, 10, .inl (nf (un (un ao pp (hB kd pl pp da true false k)) pp (hB kd pl pp da true false (k + 1)))))), (x 10, .inl (E.2.1 0, 10, .inl (nf (un at1 pp (hB kd pl pp da false false k))))), (x 11, .inl (E.2.1 0, 10, .inl (nf (un an pp (hB kd pl pp da false true k))))), (h 0, .inr (5, oH h da (nI n) de no pa)), (h 1, .inl (E.2.1 0, 7, .inl (nf kd))), (h 2, .inl (E.2.1 0, 7, .inl (nf pl)))] 0 6 rfl rfl (by decide) rfl (Nat.le_of_ble_eq_true rfl) rfl rfl rfl rfl rfl ?_
            refine g_if_eqB (tgt := 125) hC dX6_listenAt_116 (by decide) (fun h_116 => ?_) (fun h_116 => ?_)
            · refine g_iconst (v := (nI 0)) hC dX6_listenAt_125 (by decide) ?_
              refine g_ior hC dX6_listenAt_126 ?_
              refine g_val (v' := .int (nI (hB kd pl pp da false false (k + 1)))) (by rw [hB_no h_116]) ?_
              refine g_iastN hC 9 [(x 7, .inr (6, oG x)), (x 8, .inl (E.2.1 4, 6, .inr (.inr (.inr (.inr (fun j => some (x (14 + j)))))))), (x 14, .inr (7, [])), (x 15, .inr (0, [])), (x 16, .inr (3, [])), (x 17, .inr (1, [])), (x 18, .inr (9, [])), (x 19, .inr (2, [])), (x 9, .inl (E.2.1 0, 10, .inl (nf (un (un ao pp (hB kd pl pp da true false k)) pp (hB kd pl pp da true false (k + 1)))))), (x 10, .inl (E.2.1 0, 10, .inl (upd (nf (un at1 pp (hB kd pl pp da false false k))) pp (nI (hB kd pl pp da false false (k + 1)))))), (x 11, .inl (E.2.1 0, 10, .inl (nf (un an pp (hB kd pl pp da false true k))))), (h 0, .inr (5, oH h da (nI n) de no pa)), (h 1, .inl (E.2.1 0, 7, .inl (nf kd))), (h 2, .inl (E.2.1 0, 7, .inl (nf pl)))] dX6_listenAt_127 rfl (by decide) (by omega) rfl ?_
              refine g_ws (ws' := [(x 7, .inr (6, oG x)), (x 8, .inl (E.2.1 4, 6, .inr (.inr (.inr (.inr (fun j => some (x (14 + j)))))))), (x 14, .inr (7, [])), (x 15, .inr (0, [])), (x 16, .inr (3, [])), (x 17, .inr (1, [])), (x 18, .inr (9, [])), (x 19, .inr (2, [])), (x 9, .inl (E.2.1 0, 10, .inl (nf (un (un ao pp (hB kd pl pp da true false k)) pp (hB kd pl pp da true false (k + 1)))))), (x 10, .inl (E.2.1 0, 10, .inl (nf (un (un at1 pp (hB kd pl pp da false false k)) pp (hB kd pl pp da false false (k + 1)))))), (x 11, .inl (E.2.1 0, 10, .inl (nf (un an pp (hB kd pl pp da false true k))))), (h 0, .inr (5, oH h da (nI n) de no pa)), (h 1, .inl (E.2.1 0, 7, .inl (nf kd))), (h 2, .inl (E.2.1 0, 7, .inl (nf pl)))]) (by rw [nf_u (un at1 pp (hB kd pl pp da false false k)) pp (hB kd pl pp da false false (k + 1))]) ?_
              refine g_aload_n hC dX6_listenAt_128 rfl 3 rfl ?_
              refine g_get hC 0 6 3 inX6 m1_189 dX6_listenAt_129 rfl rfl (by decide) rfl ?_
              refine g_iload_n hC dX6_listenAt_132 rfl 5 rfl ?_
              refine g_dup2 hC dX6_listenAt_133 rfl rfl ?_
              refine g_ialdN hC 10 dX6_listenAt_134 rfl (by decide) (by omega) ?_
              refine g_val (v' := .int (nI ((un an pp (hB kd pl pp da false true k)) pp))) rfl ?_
              refine g_val (v' := .int (nI (hB kd pl pp da false true k))) (by rw [un_s]) ?_
              refine g_aload_n hC dX6_listenAt_135 rfl 3 rfl ?_
              refine g_iload hC dX6_listenAt_136 1 rfl ?_
              refine g_iload hC dX6_listenAt_138 0 rfl ?_
              refine g_iconst (v := (nI 0)) hC dX6_listenAt_140 (by decide) ?_
              refine g_iconst (v := (nI 1)) hC dX6_listenAt_141 (by decide) ?_
              refine g_aload_n hC dX6_listenAt_142 rfl 4 rfl ?_
              refine g_get hC 11 5 0 inX5 m1_37 dX6_listenAt_143 rfl rfl (by decide) rfl ?_
              refine g_callV hC (f_X6_turnsAs (kl K) E x (kd k) (fr (pl k) pp) false true da (by omega) (by omega)) wX6_turnsAs m2_172 dX6_listenAt_146 [0, 1, 2, 3, 4, 5, 6, 7] [(x 7, .inr (6, oG x)), (x 8, .inl (E.2.1 4, 6, .inr (.inr (.inr (.inr (fun j => some (x (14 + j)))))))), (x 14, .inr (7, [])), (x 15, .inr (0, [])), (x 16, .inr (3, [])), (x 17, .inr (1, [])), (x 18, .inr (9, [])), (x 19, .inr (2, [])), (x 9, .inl (E.2.1 0, 10, .inl (nf (un (un ao pp (hB kd pl pp da true false k)) pp (hB kd pl pp da true false (k + 1)))))), (x 10, .inl (E.2.1 0, 10, .inl (nf (un (un at1 pp (hB kd pl pp da false false k)) pp (hB kd pl pp da false false (k + 1)))))), (x 11, .inl (E.2.1 0, 10, .inl (nf (un an pp (hB kd pl pp da false true k))))), (h 0, .inr (5, oH h da (nI n) de no pa)), (h 1, .inl (E.2.1 0, 7, .inl (nf kd))), (h 2, .inl (E.2.1 0, 7, .inl (nf pl)))] 0 6 rfl rfl (by decide) rfl (Nat.le_of_ble_eq_true rfl) rfl rfl rfl rfl rfl ?_
              refine g_if_eqB (tgt := 158) hC dX6_listenAt_149 (by decide) (fun h_149 => ?_) (fun h_149 => ?_)
              · refine g_iconst (v := (nI 0)) hC dX6_listenAt_158 (by decide) ?_
                refine g_ior hC dX6_listenAt_159 ?_
                refine g_val (v' := .int (nI (hB kd pl pp da false true (k + 1)))) (by rw [hB_no h_149]) ?_
                refine g_iastN hC 10 [(x 7, .inr (6, oG x)), (x 8, .inl (E.2.1 4, 6, .inr (.inr (.inr (.inr (fun j => some (x (14 + j)))))))), (x 14, .inr (7, [])), (x 15, .inr (0, [])), (x 16, .inr (3, [])), (x 17, .inr (1, [])), (x 18, .inr (9, [])), (x 19, .inr (2, [])), (x 9, .inl (E.2.1 0, 10, .inl (nf (un (un ao pp (hB kd pl pp da true false k)) pp (hB kd pl pp da true false (k + 1)))))), (x 10, .inl (E.2.1 0, 10, .inl (nf (un (un at1 pp (hB kd pl pp da false false k)) pp (hB kd pl pp da false false (k + 1)))))), (x 11, .inl (E.2.1 0, 10, .inl (upd (nf (un an pp (hB kd pl pp da false true k))) pp (nI (hB kd pl pp da false true (k + 1)))))), (h 0, .inr (5, oH h da (nI n) de no pa)), (h 1, .inl (E.2.1 0, 7, .inl (nf kd))), (h 2, .inl (E.2.1 0, 7, .inl (nf pl)))] dX6_listenAt_160 rfl (by decide) (by omega) rfl ?_
                refine g_ws (ws' := [(x 7, .inr (6, oG x)), (x 8, .inl (E.2.1 4, 6, .inr (.inr (.inr (.inr (fun j => some (x (14 + j)))))))), (x 14, .inr (7, [])), (x 15, .inr (0, [])), (x 16, .inr (3, [])), (x 17, .inr (1, [])), (x 18, .inr (9, [])), (x 19, .inr (2, [])), (x 9, .inl (E.2.1 0, 10, .inl (nf (un (un ao pp (hB kd pl pp da true false k)) pp (hB kd pl pp da true false (k + 1)))))), (x 10, .inl (E.2.1 0, 10, .inl (nf (un (un at1 pp (hB kd pl pp da false false k)) pp (hB kd pl pp da false false (k + 1)))))), (x 11, .inl (E.2.1 0, 10, .inl (nf (un (un an pp (hB kd pl pp da false true k)) pp (hB kd pl pp da false true (k + 1)))))), (h 0, .inr (5, oH h da (nI n) de no pa)), (h 1, .inl (E.2.1 0, 7, .inl (nf kd))), (h 2, .inl (E.2.1 0, 7, .inl (nf pl)))]) (by rw [nf_u (un an pp (hB kd pl pp da false true k)) pp (hB kd pl pp da false true (k + 1))]) ?_
                refine g_iincN hC (q := 2) 1 [(3, .int (nI (k + 1))), (5, .int (nI (fr (pl k) pp))), (4, .int (nI (kd k))), (0, .ref (x 7)), (1, .ref (h 0)), (2, .int (nI pp))] dX6_listenAt_161 rfl rfl (by decide) rfl ?_
                refine g_goto (tgt := 33) hC dX6_listenAt_164 (by decide) ?_
                refine g_lv (lv' := [(3, .int (nI (k + 1))), (0, .ref (x 7)), (1, .ref (h 0)), (2, .int (nI pp))]) [0, 3, 4, 5] rfl ?_
                refine g_ws (ws' := [(x 7, .inr (6, oG x)), (x 8, .inl (E.2.1 4, 6, .inr (.inr (.inr (.inr (fun j => some (x (14 + j)))))))), (x 14, .inr (7, [])), (x 15, .inr (0, [])), (x 16, .inr (3, [])), (x 17, .inr (1, [])), (x 18, .inr (9, [])), (x 19, .inr (2, [])), (x 9, .inl (E.2.1 0, 10, .inl (nf (un ao pp (hB kd pl pp da true false (k + 1)))))), (x 10, .inl (E.2.1 0, 10, .inl (nf (un at1 pp (hB kd pl pp da false false (k + 1)))))), (x 11, .inl (E.2.1 0, 10, .inl (nf (un an pp (hB kd pl pp da false true (k + 1)))))), (h 0, .inr (5, oH h da (nI n) de no pa)), (h 1, .inl (E.2.1 0, 7, .inl (nf kd))), (h 2, .inl (E.2.1 0, 7, .inl (nf pl)))]) (by rw [un_un, un_un, un_un]) ?_
                exact ih_33 (k + 1) (by omega) (by omega)
              · refine g_iconst (v := (nI 1)) hC dX6_listenAt_152 (by decide) ?_
                refine g_iload_n hC dX6_listenAt_153 rfl 2 rfl ?_
                refine g_ishl hC dX6_listenAt_154 ?_
                refine g_goto (tgt := 159) hC dX6_listenAt_155 (by decide) ?_
                refine g_ior hC dX6_listenAt_159 ?_
                refine g_val (v' := .int (nI (hB kd pl pp da false true (k + 1)))) (by rw [hB_yes (by omega) h_149]) ?_
                refine g_iastN hC 10 [(x 7, .inr (6, oG x)), (x 8, .inl (E.2.1 4, 6, .inr (.inr (.inr (.inr (fun j => some (x (14 + j)))))))), (x 14, .inr (7, [])), (x 15, .inr (0, [])), (x 16, .inr (3, [])), (x 17, .inr (1, [])), (x 18, .inr (9, [])), (x 19, .inr (2, [])), (x 9, .inl (E.2.1 0, 10, .inl (nf (un (un ao pp (hB kd pl pp da true false k)) pp (hB kd pl pp da true false (k + 1)))))), (x 10, .inl (E.2.1 0, 10, .inl (nf (un (un at1 pp (hB kd pl pp da false false k)) pp (hB kd pl pp da false false (k + 1)))))), (x 11, .inl (E.2.1 0, 10, .inl (upd (nf (un an pp (hB kd pl pp da false true k))) pp (nI (hB kd pl pp da false true (k + 1)))))), (h 0, .inr (5, oH h da (nI n) de no pa)), (h 1, .inl (E.2.1 0, 7, .inl (nf kd))), (h 2, .inl (E.2.1 0, 7, .inl (nf pl)))] dX6_listenAt_160 rfl (by decide) (by omega) rfl ?_
                refine g_ws (ws' := [(x 7, .inr (6, oG x)), (x 8, .inl (E.2.1 4, 6, .inr (.inr (.inr (.inr (fun j => some (x (14 + j)))))))), (x 14, .inr (7, [])), (x 15, .inr (0, [])), (x 16, .inr (3, [])), (x 17, .inr (1, [])), (x 18, .inr (9, [])), (x 19, .inr (2, [])), (x 9, .inl (E.2.1 0, 10, .inl (nf (un (un ao pp (hB kd pl pp da true false k)) pp (hB kd pl pp da true false (k + 1)))))), (x 10, .inl (E.2.1 0, 10, .inl (nf (un (un at1 pp (hB kd pl pp da false false k)) pp (hB kd pl pp da false false (k + 1)))))), (x 11, .inl (E.2.1 0, 10, .inl (nf (un (un an pp (hB kd pl pp da false true k)) pp (hB kd pl pp da false true (k + 1)))))), (h 0, .inr (5, oH h da (nI n) de no pa)), (h 1, .inl (E.2.1 0, 7, .inl (nf kd))), (h 2, .inl (E.2.1 0, 7, .inl (nf pl)))]) (by rw [nf_u (un an pp (hB kd pl pp da false true k)) pp (hB kd pl pp da false true (k + 1))]) ?_
                refine g_iincN hC (q := 2) 1 [(3, .int (nI (k + 1))), (5, .int (nI (fr (pl k) pp))), (4, .int (nI (kd k))), (0, .ref (x 7)), (1, .ref (h 0)), (2, .int (nI pp))] dX6_listenAt_161 rfl rfl (by decide) rfl ?_
                refine g_goto (tgt := 33) hC dX6_listenAt_164 (by decide) ?_
                refine g_lv (lv' := [(3, .int (nI (k + 1))), (0, .ref (x 7)), (1, .ref (h 0)), (2, .int (nI pp))]) [0, 3, 4, 5] rfl ?_
                refine g_ws (ws' := [(x 7, .inr (6, oG x)), (x 8, .inl (E.2.1 4, 6, .inr (.inr (.inr (.inr (fun j => some (x (14 + j)))))))), (x 14, .inr (7, [])), (x 15, .inr (0, [])), (x 16, .inr (3, [])), (x 17, .inr (1, [])), (x 18, .inr (9, [])), (x 19, .inr (2, [])), (x 9, .inl (E.2.1 0, 10, .inl (nf (un ao pp (hB kd pl pp da true false (k + 1)))))), (x 10, .inl (E.2.1 0, 10, .inl (nf (un at1 pp (hB kd pl pp da false false (k + 1)))))), (x 11, .inl (E.2.1 0, 10, .inl (nf (un an pp (hB kd pl pp da false true (k + 1)))))), (h 0, .inr (5, oH h da (nI n) de no pa)), (h 1, .inl (E.2.1 0, 7, .inl (nf kd))), (h 2, .inl (E.2.1 0, 7, .inl (nf pl)))]) (by rw [un_un, un_un, un_un]) ?_
                exact ih_33 (k + 1) (by omega) (by omega)
            · refine g_iconst (v := (nI 1)) hC dX6_listenAt_119 (by decide) ?_
              refine g_iload_n hC dX6_listenAt_120 rfl 2 rfl ?_
              refine g_ishl hC dX6_listenAt_121 ?_
              refine g_goto (tgt := 126) hC dX6_listenAt_122 (by decide) ?_
              refine g_ior hC dX6_listenAt_126 ?_
              refine g_val (v' := .int (nI (hB kd pl pp da false false (k + 1)))) (by rw [hB_yes (by omega) h_116]) ?_
              refine g_iastN hC 9 [(x 7, .inr (6, oG x)), (x 8, .inl (E.2.1 4, 6, .inr (.inr (.inr (.inr (fun j => some (x (14 + j)))))))), (x 14, .inr (7, [])), (x 15, .inr (0, [])), (x 16, .inr (3, [])), (x 17, .inr (1, [])), (x 18, .inr (9, [])), (x 19, .inr (2, [])), (x 9, .inl (E.2.1 0, 10, .inl (nf (un (un ao pp (hB kd pl pp da true false k)) pp (hB kd pl pp da true false (k + 1)))))), (x 10, .inl (E.2.1 0, 10, .inl (upd (nf (un at1 pp (hB kd pl pp da false false k))) pp (nI (hB kd pl pp da false false (k + 1)))))), (x 11, .inl (E.2.1 0, 10, .inl (nf (un an pp (hB kd pl pp da false true k))))), (h 0, .inr (5, oH h da (nI n) de no pa)), (h 1, .inl (E.2.1 0, 7, .inl (nf kd))), (h 2, .inl (E.2.1 0, 7, .inl (nf pl)))] dX6_listenAt_127 rfl (by decide) (by omega) rfl ?_
              refine g_ws (ws' := [(x 7, .inr (6, oG x)), (x 8, .inl (E.2.1 4, 6, .inr (.inr (.inr (.inr (fun j => some (x (14 + j)))))))), (x 14, .inr (7, [])), (x 15, .inr (0, [])), (x 16, .inr (3, [])), (x 17, .inr (1, [])), (x 18, .inr (9, [])), (x 19, .inr (2, [])), (x 9, .inl (E.2.1 0, 10, .inl (nf (un (un ao pp (hB kd pl pp da true false k)) pp (hB kd pl pp da true false (k + 1)))))), (x 10, .inl (E.2.1 0, 10, .inl (nf (un (un at1 pp (hB kd pl pp da false false k)) pp (hB kd pl pp da false false (k + 1)))))), (x 11, .inl (E.2.1 0, 10, .inl (nf (un an pp (hB kd pl pp da false true k))))), (h 0, .inr (5, oH h da (nI n) de no pa)), (h 1, .inl (E.2.1 0, 7, .inl (nf kd))), (h 2, .inl (E.2.1 0, 7, .inl (nf pl)))]) (by rw [nf_u (un at1 pp (hB kd pl pp da false false k)) pp (hB kd pl pp da false false (k + 1))]) ?_
              refine g_aload_n hC dX6_listenAt_128 rfl 3 rfl ?_
              refine g_get hC 0 6 3 inX6 m1_189 dX6_listenAt_129 rfl rfl (by decide) rfl ?_
              refine g_iload_n hC dX6_listenAt_132 rfl 5 rfl ?_
              refine g_dup2 hC dX6_listenAt_133 rfl rfl ?_
              refine g_ialdN hC 10 dX6_listenAt_134 rfl (by decide) (by omega) ?_
              refine g_val (v' := .int (nI ((un an pp (hB kd pl pp da false true k)) pp))) rfl ?_
              refine g_val (v' := .int (nI (hB kd pl pp da false true k))) (by rw [un_s]) ?_
              refine g_aload_n hC dX6_listenAt_135 rfl 3 rfl ?_
              refine g_iload hC dX6_listenAt_136 1 rfl ?_
              refine g_iload hC dX6_listenAt_138 0 rfl ?_
              refine g_iconst (v := (nI 0)) hC dX6_listenAt_140 (by decide) ?_
              refine g_iconst (v := (nI 1)) hC dX6_listenAt_141 (by decide) ?_
              refine g_aload_n hC dX6_listenAt_142 rfl 4 rfl ?_
              refine g_get hC 11 5 0 inX5 m1_37 dX6_listenAt_143 rfl rfl (by decide) rfl ?_
              refine g_callV hC (f_X6_turnsAs (kl K) E x (kd k) (fr (pl k) pp) false true da (by omega) (by omega)) wX6_turnsAs m2_172 dX6_listenAt_146 [0, 1, 2, 3, 4, 5, 6, 7] [(x 7, .inr (6, oG x)), (x 8, .inl (E.2.1 4, 6, .inr (.inr (.inr (.inr (fun j => some (x (14 + j)))))))), (x 14, .inr (7, [])), (x 15, .inr (0, [])), (x 16, .inr (3, [])), (x 17, .inr (1, [])), (x 18, .inr (9, [])), (x 19, .inr (2, [])), (x 9, .inl (E.2.1 0, 10, .inl (nf (un (un ao pp (hB kd pl pp da true false k)) pp (hB kd pl pp da true false (k + 1)))))), (x 10, .inl (E.2.1 0, 10, .inl (nf (un (un at1 pp (hB kd pl pp da false false k)) pp (hB kd pl pp da false false (k + 1)))))), (x 11, .inl (E.2.1 0, 10, .inl (nf (un an pp (hB kd pl pp da false true k))))), (h 0, .inr (5, oH h da (nI n) de no pa)), (h 1, .inl (E.2.1 0, 7, .inl (nf kd))), (h 2, .inl (E.2.1 0, 7, .inl (nf pl)))] 0 6 rfl rfl (by decide) rfl (Nat.le_of_ble_eq_true rfl) rfl rfl rfl rfl rfl ?_
              refine g_if_eqB (tgt := 158) hC dX6_listenAt_149 (by decide) (fun h_149 => ?_) (fun h_149 => ?_)
              · refine g_iconst (v := (nI 0)) hC dX6_listenAt_158 (by decide) ?_
                refine g_ior hC dX6_listenAt_159 ?_
                refine g_val (v' := .int (nI (hB kd pl pp da false true (k + 1)))) (by rw [hB_no h_149]) ?_
                refine g_iastN hC 10 [(x 7, .inr (6, oG x)), (x 8, .inl (E.2.1 4, 6, .inr (.inr (.inr (.inr (fun j => some (x (14 + j)))))))), (x 14, .inr (7, [])), (x 15, .inr (0, [])), (x 16, .inr (3, [])), (x 17, .inr (1, [])), (x 18, .inr (9, [])), (x 19, .inr (2, [])), (x 9, .inl (E.2.1 0, 10, .inl (nf (un (un ao pp (hB kd pl pp da true false k)) pp (hB kd pl pp da true false (k + 1)))))), (x 10, .inl (E.2.1 0, 10, .inl (nf (un (un at1 pp (hB kd pl pp da false false k)) pp (hB kd pl pp da false false (k + 1)))))), (x 11, .inl (E.2.1 0, 10, .inl (upd (nf (un an pp (hB kd pl pp da false true k))) pp (nI (hB kd pl pp da false true (k + 1)))))), (h 0, .inr (5, oH h da (nI n) de no pa)), (h 1, .inl (E.2.1 0, 7, .inl (nf kd))), (h 2, .inl (E.2.1 0, 7, .inl (nf pl)))] dX6_listenAt_160 rfl (by decide) (by omega) rfl ?_
                refine g_ws (ws' := [(x 7, .inr (6, oG x)), (x 8, .inl (E.2.1 4, 6, .inr (.inr (.inr (.inr (fun j => some (x (14 + j)))))))), (x 14, .inr (7, [])), (x 15, .inr (0, [])), (x 16, .inr (3, [])), (x 17, .inr (1, [])), (x 18, .inr (9, [])), (x 19, .inr (2, [])), (x 9, .inl (E.2.1 0, 10, .inl (nf (un (un ao pp (hB kd pl pp da true false k)) pp (hB kd pl pp da true false (k + 1)))))), (x 10, .inl (E.2.1 0, 10, .inl (nf (un (un at1 pp (hB kd pl pp da false false k)) pp (hB kd pl pp da false false (k + 1)))))), (x 11, .inl (E.2.1 0, 10, .inl (nf (un (un an pp (hB kd pl pp da false true k)) pp (hB kd pl pp da false true (k + 1)))))), (h 0, .inr (5, oH h da (nI n) de no pa)), (h 1, .inl (E.2.1 0, 7, .inl (nf kd))), (h 2, .inl (E.2.1 0, 7, .inl (nf pl)))]) (by rw [nf_u (un an pp (hB kd pl pp da false true k)) pp (hB kd pl pp da false true (k + 1))]) ?_
                refine g_iincN hC (q := 2) 1 [(3, .int (nI (k + 1))), (5, .int (nI (fr (pl k) pp))), (4, .int (nI (kd k))), (0, .ref (x 7)), (1, .ref (h 0)), (2, .int (nI pp))] dX6_listenAt_161 rfl rfl (by decide) rfl ?_
                refine g_goto (tgt := 33) hC dX6_listenAt_164 (by decide) ?_
                refine g_lv (lv' := [(3, .int (nI (k + 1))), (0, .ref (x 7)), (1, .ref (h 0)), (2, .int (nI pp))]) [0, 3, 4, 5] rfl ?_
                refine g_ws (ws' := [(x 7, .inr (6, oG x)), (x 8, .inl (E.2.1 4, 6, .inr (.inr (.inr (.inr (fun j => some (x (14 + j)))))))), (x 14, .inr (7, [])), (x 15, .inr (0, [])), (x 16, .inr (3, [])), (x 17, .inr (1, [])), (x 18, .inr (9, [])), (x 19, .inr (2, [])), (x 9, .inl (E.2.1 0, 10, .inl (nf (un ao pp (hB kd pl pp da true false (k + 1)))))), (x 10, .inl (E.2.1 0, 10, .inl (nf (un at1 pp (hB kd pl pp da false false (k + 1)))))), (x 11, .inl (E.2.1 0, 10, .inl (nf (un an pp (hB kd pl pp da false true (k + 1)))))), (h 0, .inr (5, oH h da (nI n) de no pa)), (h 1, .inl (E.2.1 0, 7, .inl (nf kd))), (h 2, .inl (E.2.1 0, 7, .inl (nf pl)))]) (by rw [un_un, un_un, un_un]) ?_
                exact ih_33 (k + 1) (by omega) (by omega)
              · refine g_iconst (v := (nI 1)) hC dX6_listenAt_152 (by decide) ?_
                refine g_iload_n hC dX6_listenAt_153 rfl 2 rfl ?_
                refine g_ishl hC dX6_listenAt_154 ?_
                refine g_goto (tgt := 159) hC dX6_listenAt_155 (by decide) ?_
                refine g_ior hC dX6_listenAt_159 ?_
                refine g_val (v' := .int (nI (hB kd pl pp da false true (k + 1)))) (by rw [hB_yes (by omega) h_149]) ?_
                refine g_iastN hC 10 [(x 7, .inr (6, oG x)), (x 8, .inl (E.2.1 4, 6, .inr (.inr (.inr (.inr (fun j => some (x (14 + j)))))))), (x 14, .inr (7, [])), (x 15, .inr (0, [])), (x 16, .inr (3, [])), (x 17, .inr (1, [])), (x 18, .inr (9, [])), (x 19, .inr (2, [])), (x 9, .inl (E.2.1 0, 10, .inl (nf (un (un ao pp (hB kd pl pp da true false k)) pp (hB kd pl pp da true false (k + 1)))))), (x 10, .inl (E.2.1 0, 10, .inl (nf (un (un at1 pp (hB kd pl pp da false false k)) pp (hB kd pl pp da false false (k + 1)))))), (x 11, .inl (E.2.1 0, 10, .inl (upd (nf (un an pp (hB kd pl pp da false true k))) pp (nI (hB kd pl pp da false true (k + 1)))))), (h 0, .inr (5, oH h da (nI n) de no pa)), (h 1, .inl (E.2.1 0, 7, .inl (nf kd))), (h 2, .inl (E.2.1 0, 7, .inl (nf pl)))] dX6_listenAt_160 rfl (by decide) (by omega) rfl ?_
                refine g_ws (ws' := [(x 7, .inr (6, oG x)), (x 8, .inl (E.2.1 4, 6, .inr (.inr (.inr (.inr (fun j => some (x (14 + j)))))))), (x 14, .inr (7, [])), (x 15, .inr (0, [])), (x 16, .inr (3, [])), (x 17, .inr (1, [])), (x 18, .inr (9, [])), (x 19, .inr (2, [])), (x 9, .inl (E.2.1 0, 10, .inl (nf (un (un ao pp (hB kd pl pp da true false k)) pp (hB kd pl pp da true false (k + 1)))))), (x 10, .inl (E.2.1 0, 10, .inl (nf (un (un at1 pp (hB kd pl pp da false false k)) pp (hB kd pl pp da false false (k + 1)))))), (x 11, .inl (E.2.1 0, 10, .inl (nf (un (un an pp (hB kd pl pp da false true k)) pp (hB kd pl pp da false true (k + 1)))))), (h 0, .inr (5, oH h da (nI n) de no pa)), (h 1, .inl (E.2.1 0, 7, .inl (nf kd))), (h 2, .inl (E.2.1 0, 7, .inl (nf pl)))]) (by rw [nf_u (un an pp (hB kd pl pp da false true k)) pp (hB kd pl pp da false true (k + 1))]) ?_
                refine g_iincN hC (q := 2) 1 [(3, .int (nI (k + 1))), (5, .int (nI (fr (pl k) pp))), (4, .int (nI (kd k))), (0, .ref (x 7)), (1, .ref (h 0)), (2, .int (nI pp))] dX6_listenAt_161 rfl rfl (by decide) rfl ?_
                refine g_goto (tgt := 33) hC dX6_listenAt_164 (by decide) ?_
                refine g_lv (lv' := [(3, .int (nI (k + 1))), (0, .ref (x 7)), (1, .ref (h 0)), (2, .int (nI pp))]) [0, 3, 4, 5] rfl ?_
                refine g_ws (ws' := [(x 7, .inr (6, oG x)), (x 8, .inl (E.2.1 4, 6, .inr (.inr (.inr (.inr (fun j => some (x (14 + j)))))))), (x 14, .inr (7, [])), (x 15, .inr (0, [])), (x 16, .inr (3, [])), (x 17, .inr (1, [])), (x 18, .inr (9, [])), (x 19, .inr (2, [])), (x 9, .inl (E.2.1 0, 10, .inl (nf (un ao pp (hB kd pl pp da true false (k + 1)))))), (x 10, .inl (E.2.1 0, 10, .inl (nf (un at1 pp (hB kd pl pp da false false (k + 1)))))), (x 11, .inl (E.2.1 0, 10, .inl (nf (un an pp (hB kd pl pp da false true (k + 1)))))), (h 0, .inr (5, oH h da (nI n) de no pa)), (h 1, .inl (E.2.1 0, 7, .inl (nf kd))), (h 2, .inl (E.2.1 0, 7, .inl (nf pl)))]) (by rw [un_un, un_un, un_un]) ?_
                exact ih_33 (k + 1) (by omega) (by omega)
    refine g_lv (lv' := [(3, .int (nI 0)), (0, .ref (x 7)), (1, .ref (h 0)), (2, .int (nI pp))]) [0, 1, 2, 3] rfl ?_
    refine g_ws (ws' := [(x 7, .inr (6, oG x)), (x 8, .inl (E.2.1 4, 6, .inr (.inr (.inr (.inr (fun j => some (x (14 + j)))))))), (x 14, .inr (7, [])), (x 15, .inr (0, [])), (x 16, .inr (3, [])), (x 17, .inr (1, [])), (x 18, .inr (9, [])), (x 19, .inr (2, [])), (x 9, .inl (E.2.1 0, 10, .inl (nf (un ao pp (hB kd pl pp da true false 0))))), (x 10, .inl (E.2.1 0, 10, .inl (nf (un at1 pp (hB kd pl pp da false false 0))))), (x 11, .inl (E.2.1 0, 10, .inl (nf (un an pp (hB kd pl pp da false true 0))))), (h 0, .inr (5, oH h da (nI n) de no pa)), (h 1, .inl (E.2.1 0, 7, .inl (nf kd))), (h 2, .inl (E.2.1 0, 7, .inl (nf pl)))]) (rfl) ?_
    exact L_33 ((n - 0) + 1) 0 (by omega) (Nat.lt_succ_self _)
  · exact Bool.noConfusion ((inB_ok (by omega) (by omega)).symm.trans h_6)
set_option maxHeartbeats 4000000 in
set_option maxRecDepth 100000 in
theorem f_X6_turners (l : Launch) (E : Ew) (x : Nat → Nat) (ao : Nat → Nat) (at1 : Nat → Nat) (an : Nat → Nat) (bq : Nat) (bn : Nat → Nat) (x0 : Nat) (pp : Nat) (hx : x0 < 7) (hpp : pp < 10) (hb : bn x0 < 2147483648) (ha : at1 pp < 2147483648) : Fn l E 1 yX6_turners cX6_turners 5 (some .int) [.ref (x 7), .ref bq, .int (nI x0), .int (nI pp)] [(x 7, .inr (6, oG x)), (x 9, .inl (E.2.1 0, 10, .inl (nf ao))), (x 10, .inl (E.2.1 0, 10, .inl (nf at1))), (x 11, .inl (E.2.1 0, 10, .inl (nf an))), (bq, .inl (E.2.1 0, 7, .inl (nf bn)))] (some (.int (nI (htr ao at1 an bn x0 pp)))) [(x 7, .inr (6, oG x)), (x 9, .inl (E.2.1 0, 10, .inl (nf ao))), (x 10, .inl (E.2.1 0, 10, .inl (nf at1))), (x 11, .inl (E.2.1 0, 10, .inl (nf an))), (bq, .inl (E.2.1 0, 7, .inl (nf bn)))] := by
  refine fn_I (by decide) (Nat.le_of_ble_eq_true rfl) rfl ?_
  intro K hC hR
  show G K E 5 [(x 7, .inr (6, oG x)), (x 9, .inl (E.2.1 0, 10, .inl (nf ao))), (x 10, .inl (E.2.1 0, 10, .inl (nf at1))), (x 11, .inl (E.2.1 0, 10, .inl (nf an))), (bq, .inl (E.2.1 0, 7, .inl (nf bn)))] [(0, .ref (x 7)), (1, .ref bq), (2, .int (nI x0)), (3, .int (nI pp))] 0 []
  refine g_iload_n hC dX6_turners_0 rfl 2 rfl ?_
  refine g_aload_n hC dX6_turners_1 rfl 1 rfl ?_
  refine g_alen hC 4 0 dX6_turners_2 rfl rfl ?_
  refine g_callSN hC (f_X11_within (kl K) E (nI x0) 7 (by omega)) wX11_within (List.mem_of_getElem? (i := 17) rfl) dX6_turners_3 [] [(x 7, .inr (6, oG x)), (x 9, .inl (E.2.1 0, 10, .inl (nf ao))), (x 10, .inl (E.2.1 0, 10, .inl (nf at1))), (x 11, .inl (E.2.1 0, 10, .inl (nf an))), (bq, .inl (E.2.1 0, 7, .inl (nf bn)))] (by decide) rfl (Nat.le_of_ble_eq_true rfl) rfl rfl rfl rfl rfl ?_
  refine g_if_eqB (tgt := 18) hC dX6_turners_6 (by decide) (fun h_6 => ?_) (fun h_6 => ?_)
  · exact Bool.noConfusion ((inB_ok (by omega) (by omega)).symm.trans h_6)
  · refine g_iload_n hC dX6_turners_9 rfl 3 rfl ?_
    refine g_bipush (v := (nI 10)) hC dX6_turners_10 (by decide) ?_
    refine g_callSN hC (f_X11_within (kl K) E (nI pp) 10 (by omega)) wX11_within (List.mem_of_getElem? (i := 17) rfl) dX6_turners_12 [] [(x 7, .inr (6, oG x)), (x 9, .inl (E.2.1 0, 10, .inl (nf ao))), (x 10, .inl (E.2.1 0, 10, .inl (nf at1))), (x 11, .inl (E.2.1 0, 10, .inl (nf an))), (bq, .inl (E.2.1 0, 7, .inl (nf bn)))] (by decide) rfl (Nat.le_of_ble_eq_true rfl) rfl rfl rfl rfl rfl ?_
    refine g_if_neB (tgt := 20) hC dX6_turners_15 (by decide) (fun h_15 => ?_) (fun h_15 => ?_)
    · refine g_aload_n hC dX6_turners_20 rfl 1 rfl ?_
      refine g_iload_n hC dX6_turners_21 rfl 2 rfl ?_
      refine g_ialdN hC 4 dX6_turners_22 rfl (by decide) (by omega) ?_
      refine g_val (v' := .int (nI (bn x0))) rfl ?_
      refine g_istore hC [(4, .int (nI (bn x0))), (0, .ref (x 7)), (1, .ref bq), (2, .int (nI x0)), (3, .int (nI pp))] dX6_turners_23 (by decide) rfl ?_
      refine g_iload hC dX6_turners_25 0 rfl ?_
      refine g_if_neN (tgt := 37) hC dX6_turners_27 (by decide) (by omega) (fun h_27 => ?_) (fun h_27 => ?_)
      · refine g_aload_n hC dX6_turners_37 rfl 1 rfl ?_
        refine g_get hC 0 6 1 inX6 m1_187 dX6_turners_38 rfl rfl (by decide) rfl ?_
        refine g_iload_n hC dX6_turners_41 rfl 4 rfl ?_
        refine g_ialdN hC 1 dX6_turners_42 rfl (by decide) (by omega) ?_
        refine g_val (v' := .int (nI (ao pp))) rfl ?_
        refine g_iload hC dX6_turners_43 0 rfl ?_
        refine g_iand hC dX6_turners_45 ?_
        refine g_val (v' := .int (nI (ao pp &&& bn x0))) (by rw [fa_and]) ?_
        refine g_aload_n hC dX6_turners_46 rfl 1 rfl ?_
        refine g_get hC 0 6 2 inX6 m1_188 dX6_turners_47 rfl rfl (by decide) rfl ?_
        refine g_iload_n hC dX6_turners_50 rfl 4 rfl ?_
        refine g_ialdN hC 2 dX6_turners_51 rfl (by decide) (by omega) ?_
        refine g_val (v' := .int (nI (at1 pp))) rfl ?_
        refine g_iload hC dX6_turners_52 0 rfl ?_
        refine g_iconst (v := (-1)) hC dX6_turners_54 (by decide) ?_
        refine g_ixor hC dX6_turners_55 ?_
        refine g_iand hC dX6_turners_56 ?_
        refine g_val (v' := .int (nI (andn (at1 pp) (bn x0)))) (by rw [andn_N ha]) ?_
        refine g_ior hC dX6_turners_57 ?_
        refine g_val (v' := .int (nI ((ao pp &&& bn x0) ||| andn (at1 pp) (bn x0)))) (by rw [fa_or]) ?_
        exact g_val (by unfold htr; rw [if_neg h_27]) (g_ws (rfl) (hR _ _ dX6_turners_58))
      · refine g_aload_n hC dX6_turners_30 rfl 1 rfl ?_
        refine g_get hC 0 6 3 inX6 m1_189 dX6_turners_31 rfl rfl (by decide) rfl ?_
        refine g_iload_n hC dX6_turners_34 rfl 4 rfl ?_
        refine g_ialdN hC 3 dX6_turners_35 rfl (by decide) (by omega) ?_
        refine g_val (v' := .int (nI (an pp))) rfl ?_
        exact g_val (by unfold htr; rw [if_pos h_27]) (g_ws (rfl) (hR _ _ dX6_turners_36))
    · exact Bool.noConfusion ((inB_ok (by omega) (by omega)).symm.trans h_15)
set_option maxHeartbeats 4000000 in
set_option maxRecDepth 100000 in
theorem f_X6_listen (l : Launch) (E : Ew) (x : Nat → Nat) (h : Nat → Nat) (da : Int32) (de : Int32) (no : Int32) (pa : Int32) (n : Nat) (kd : Nat → Nat) (pl : Nat → Nat) (ao : Nat → Nat) (at1 : Nat → Nat) (an : Nat → Nat) (hn7 : n ≤ 7) (hkd : ∀ p, p < n → kd p < 6) (hpl : ∀ p, p < n → pl p < 10) : Fn l E 5 yX6_listen cX6_listen 3 none [.ref (x 7), .ref (h 0)] [(x 7, .inr (6, oG x)), (x 8, .inl (E.2.1 4, 6, .inr (.inr (.inr (.inr (fun j => some (x (14 + j)))))))), (x 14, .inr (7, [])), (x 15, .inr (0, [])), (x 16, .inr (3, [])), (x 17, .inr (1, [])), (x 18, .inr (9, [])), (x 19, .inr (2, [])), (x 9, .inl (E.2.1 0, 10, .inl (nf ao))), (x 10, .inl (E.2.1 0, 10, .inl (nf at1))), (x 11, .inl (E.2.1 0, 10, .inl (nf an))), (h 0, .inr (5, oH h da (nI n) de no pa)), (h 1, .inl (E.2.1 0, 7, .inl (nf kd))), (h 2, .inl (E.2.1 0, 7, .inl (nf pl)))] none [(x 7, .inr (6, oG x)), (x 8, .inl (E.2.1 4, 6, .inr (.inr (.inr (.inr (fun j => some (x (14 + j)))))))), (x 14, .inr (7, [])), (x 15, .inr (0, [])), (x 16, .inr (3, [])), (x 17, .inr (1, [])), (x 18, .inr (9, [])), (x 19, .inr (2, [])), (x 9, .inl (E.2.1 0, 10, .inl (nf (hL kd pl da true false n ao 10)))), (x 10, .inl (E.2.1 0, 10, .inl (nf (hL kd pl da false false n at1 10)))), (x 11, .inl (E.2.1 0, 10, .inl (nf (hL kd pl da false true n an 10)))), (h 0, .inr (5, oH h da (nI n) de no pa)), (h 1, .inl (E.2.1 0, 7, .inl (nf kd))), (h 2, .inl (E.2.1 0, 7, .inl (nf pl)))] := by
  refine fn_V (by decide) (Nat.le_of_ble_eq_true rfl) rfl ?_
  intro K hC hR
  show G K E 3 [(x 7, .inr (6, oG x)), (x 8, .inl (E.2.1 4, 6, .inr (.inr (.inr (.inr (fun j => some (x (14 + j)))))))), (x 14, .inr (7, [])), (x 15, .inr (0, [])), (x 16, .inr (3, [])), (x 17, .inr (1, [])), (x 18, .inr (9, [])), (x 19, .inr (2, [])), (x 9, .inl (E.2.1 0, 10, .inl (nf ao))), (x 10, .inl (E.2.1 0, 10, .inl (nf at1))), (x 11, .inl (E.2.1 0, 10, .inl (nf an))), (h 0, .inr (5, oH h da (nI n) de no pa)), (h 1, .inl (E.2.1 0, 7, .inl (nf kd))), (h 2, .inl (E.2.1 0, 7, .inl (nf pl)))] [(0, .ref (x 7)), (1, .ref (h 0))] 0 []
  refine g_iconst (v := (nI 0)) hC dX6_listen_0 (by decide) ?_
  refine g_istore_n hC [(2, .int (nI 0)), (0, .ref (x 7)), (1, .ref (h 0))] dX6_listen_1 rfl (by decide) rfl ?_
  have L_2 : ∀ (fu : Nat) (k : Nat) (hk : k ≤ 10), 10 - k < fu → G K E 3 [(x 7, .inr (6, oG x)), (x 8, .inl (E.2.1 4, 6, .inr (.inr (.inr (.inr (fun j => some (x (14 + j)))))))), (x 14, .inr (7, [])), (x 15, .inr (0, [])), (x 16, .inr (3, [])), (x 17, .inr (1, [])), (x 18, .inr (9, [])), (x 19, .inr (2, [])), (x 9, .inl (E.2.1 0, 10, .inl (nf (hL kd pl da true false n ao k)))), (x 10, .inl (E.2.1 0, 10, .inl (nf (hL kd pl da false false n at1 k)))), (x 11, .inl (E.2.1 0, 10, .inl (nf (hL kd pl da false true n an k)))), (h 0, .inr (5, oH h da (nI n) de no pa)), (h 1, .inl (E.2.1 0, 7, .inl (nf kd))), (h 2, .inl (E.2.1 0, 7, .inl (nf pl)))] [(2, .int (nI k)), (0, .ref (x 7)), (1, .ref (h 0))] 2 [] := by
    intro fu
    induction fu with
    | zero => intro k hk hm_2; exact absurd hm_2 (Nat.not_lt_zero _)
    | succ fu ih_2 =>
      intro k hk hm_2
      refine g_iload_n hC dX6_listen_2 rfl 0 rfl ?_
      refine g_bipush (v := (nI 10)) hC dX6_listen_3 (by decide) ?_
      refine g_icmp_geN (tgt := 20) hC dX6_listen_5 (by decide) (by omega) (by omega) (fun h_5 => ?_) (fun h_5 => ?_)
      · exact g_ws (by rw [show k = 10 by omega]) (hR _ _ dX6_listen_20)
      · refine g_aload_n hC dX6_listen_8 rfl 1 rfl ?_
        refine g_aload_n hC dX6_listen_9 rfl 2 rfl ?_
        refine g_iload_n hC dX6_listen_10 rfl 0 rfl ?_
        refine g_callV hC (f_X6_listenAt (kl K) E x h da de no pa n kd pl (hL kd pl da true false n ao k) (hL kd pl da false false n at1 k) (hL kd pl da false true n an k) k (by omega) (hkd) (hpl) (by omega)) wX6_listenAt m3_25 dX6_listen_11 [0, 1, 2, 3, 4, 5, 6, 7, 8, 9, 10, 11, 12, 13] [(x 7, .inr (6, oG x)), (x 8, .inl (E.2.1 4, 6, .inr (.inr (.inr (.inr (fun j => some (x (14 + j)))))))), (x 14, .inr (7, [])), (x 15, .inr (0, [])), (x 16, .inr (3, [])), (x 17, .inr (1, [])), (x 18, .inr (9, [])), (x 19, .inr (2, [])), (x 9, .inl (E.2.1 0, 10, .inl (nf (un (hL kd pl da true false n ao k) k (hB kd pl k da true false n))))), (x 10, .inl (E.2.1 0, 10, .inl (nf (un (hL kd pl da false false n at1 k) k (hB kd pl k da false false n))))), (x 11, .inl (E.2.1 0, 10, .inl (nf (un (hL kd pl da false true n an k) k (hB kd pl k da false true n))))), (h 0, .inr (5, oH h da (nI n) de no pa)), (h 1, .inl (E.2.1 0, 7, .inl (nf kd))), (h 2, .inl (E.2.1 0, 7, .inl (nf pl)))] 0 6 rfl rfl (by decide) rfl (Nat.le_of_ble_eq_true rfl) rfl rfl rfl rfl rfl ?_
        refine g_iincN hC (q := 0) 1 [(2, .int (nI (k + 1))), (0, .ref (x 7)), (1, .ref (h 0))] dX6_listen_14 rfl rfl (by decide) rfl ?_
        refine g_goto (tgt := 2) hC dX6_listen_17 (by decide) ?_
        refine g_lv (lv' := [(2, .int (nI (k + 1))), (0, .ref (x 7)), (1, .ref (h 0))]) [0, 1, 2] rfl ?_
        refine g_ws (ws' := [(x 7, .inr (6, oG x)), (x 8, .inl (E.2.1 4, 6, .inr (.inr (.inr (.inr (fun j => some (x (14 + j)))))))), (x 14, .inr (7, [])), (x 15, .inr (0, [])), (x 16, .inr (3, [])), (x 17, .inr (1, [])), (x 18, .inr (9, [])), (x 19, .inr (2, [])), (x 9, .inl (E.2.1 0, 10, .inl (nf (hL kd pl da true false n ao (k + 1))))), (x 10, .inl (E.2.1 0, 10, .inl (nf (hL kd pl da false false n at1 (k + 1))))), (x 11, .inl (E.2.1 0, 10, .inl (nf (hL kd pl da false true n an (k + 1))))), (h 0, .inr (5, oH h da (nI n) de no pa)), (h 1, .inl (E.2.1 0, 7, .inl (nf kd))), (h 2, .inl (E.2.1 0, 7, .inl (nf pl)))]) (by rw [hL_s, hL_s, hL_s]) ?_
        exact ih_2 (k + 1) (by omega) (by omega)
  refine g_lv (lv' := [(2, .int (nI 0)), (0, .ref (x 7)), (1, .ref (h 0))]) [0, 1, 2] rfl ?_
  refine g_ws (ws' := [(x 7, .inr (6, oG x)), (x 8, .inl (E.2.1 4, 6, .inr (.inr (.inr (.inr (fun j => some (x (14 + j)))))))), (x 14, .inr (7, [])), (x 15, .inr (0, [])), (x 16, .inr (3, [])), (x 17, .inr (1, [])), (x 18, .inr (9, [])), (x 19, .inr (2, [])), (x 9, .inl (E.2.1 0, 10, .inl (nf (hL kd pl da true false n ao 0)))), (x 10, .inl (E.2.1 0, 10, .inl (nf (hL kd pl da false false n at1 0)))), (x 11, .inl (E.2.1 0, 10, .inl (nf (hL kd pl da false true n an 0)))), (h 0, .inr (5, oH h da (nI n) de no pa)), (h 1, .inl (E.2.1 0, 7, .inl (nf kd))), (h 2, .inl (E.2.1 0, 7, .inl (nf pl)))]) (by rw [hL_0, hL_0, hL_0]) ?_
  exact L_2 ((10 - 0) + 1) 0 (by omega) (Nat.lt_succ_self _)
set_option maxHeartbeats 4000000 in
set_option maxRecDepth 100000 in
theorem f_X11_turnersAt (l : Launch) (E : Ew) (x : Nat → Nat) (h : Nat → Nat) (dr : Nat → Nat) (da : Int32) (de : Int32) (no : Int32) (pa : Int32) (n : Nat) (kd : Nat → Nat) (pl : Nat → Nat) (bn : Nat → Nat) (ao : Nat → Nat) (at1 : Nat → Nat) (an : Nat → Nat) (x0 : Nat) (pp : Nat) (hn7 : n ≤ 7) (hkd : ∀ p, p < n → kd p < 6) (hpl : ∀ p, p < n → pl p < 10) (hbn : ∀ j, j < 7 → bn j < 2 ^ n) (hx : x0 < 7) (hpp : pp < 10) : Fn l E 5 yX11_turnersAt cX11_turnersAt 3 (some .int) [.ref (x 0), .int (nI x0), .int (nI pp)] [(x 0, .inr (11, oL x h dr)), (x 7, .inr (6, oG x)), (x 8, .inl (E.2.1 4, 6, .inr (.inr (.inr (.inr (fun j => some (x (14 + j)))))))), (x 14, .inr (7, [])), (x 15, .inr (0, [])), (x 16, .inr (3, [])), (x 17, .inr (1, [])), (x 18, .inr (9, [])), (x 19, .inr (2, [])), (x 9, .inl (E.2.1 0, 10, .inl (nf ao))), (x 10, .inl (E.2.1 0, 10, .inl (nf at1))), (x 11, .inl (E.2.1 0, 10, .inl (nf an))), (h 0, .inr (5, oH h da (nI n) de no pa)), (h 1, .inl (E.2.1 0, 7, .inl (nf kd))), (h 2, .inl (E.2.1 0, 7, .inl (nf pl))), (h 3, .inl (E.2.1 0, 7, .inl (nf bn)))] (some (.int (nI (HT kd pl bn da x0 pp n)))) [(x 0, .inr (11, oL x h dr)), (x 7, .inr (6, oG x)), (x 8, .inl (E.2.1 4, 6, .inr (.inr (.inr (.inr (fun j => some (x (14 + j)))))))), (x 14, .inr (7, [])), (x 15, .inr (0, [])), (x 16, .inr (3, [])), (x 17, .inr (1, [])), (x 18, .inr (9, [])), (x 19, .inr (2, [])), (x 9, .inl (E.2.1 0, 10, .inl (nf (un ao pp (hB kd pl pp da true false n))))), (x 10, .inl (E.2.1 0, 10, .inl (nf (un at1 pp (hB kd pl pp da false false n))))), (x 11, .inl (E.2.1 0, 10, .inl (nf (un an pp (hB kd pl pp da false true n))))), (h 0, .inr (5, oH h da (nI n) de no pa)), (h 1, .inl (E.2.1 0, 7, .inl (nf kd))), (h 2, .inl (E.2.1 0, 7, .inl (nf pl))), (h 3, .inl (E.2.1 0, 7, .inl (nf bn)))] := by
  refine fn_I (by decide) (Nat.le_of_ble_eq_true rfl) rfl ?_
  intro K hC hR
  show G K E 3 [(x 0, .inr (11, oL x h dr)), (x 7, .inr (6, oG x)), (x 8, .inl (E.2.1 4, 6, .inr (.inr (.inr (.inr (fun j => some (x (14 + j)))))))), (x 14, .inr (7, [])), (x 15, .inr (0, [])), (x 16, .inr (3, [])), (x 17, .inr (1, [])), (x 18, .inr (9, [])), (x 19, .inr (2, [])), (x 9, .inl (E.2.1 0, 10, .inl (nf ao))), (x 10, .inl (E.2.1 0, 10, .inl (nf at1))), (x 11, .inl (E.2.1 0, 10, .inl (nf an))), (h 0, .inr (5, oH h da (nI n) de no pa)), (h 1, .inl (E.2.1 0, 7, .inl (nf kd))), (h 2, .inl (E.2.1 0, 7, .inl (nf pl))), (h 3, .inl (E.2.1 0, 7, .inl (nf bn)))] [(0, .ref (x 0)), (1, .int (nI x0)), (2, .int (nI pp))] 0 []
  have h2n : 2 ^ n ≤ 2 ^ 7 := Nat.pow_le_pow_right (by decide) hn7
  have hbx := hbn x0 hx
  refine g_aload_n hC dX11_turnersAt_0 rfl 0 rfl ?_
  refine g_get hC 0 11 6 inX11 m1_227 dX11_turnersAt_1 rfl rfl (by decide) rfl ?_
  refine g_aload_n hC dX11_turnersAt_4 rfl 0 rfl ?_
  refine g_get hC 0 11 0 inX11 m1_221 dX11_turnersAt_5 rfl rfl (by decide) rfl ?_
  refine g_iload_n hC dX11_turnersAt_8 rfl 2 rfl ?_
  refine g_callV hC (f_X6_listenAt (kl K) E x h da de no pa n kd pl ao at1 an pp (by omega) (hkd) (hpl) (by omega)) wX6_listenAt m2_164 dX11_turnersAt_9 [1, 2, 3, 4, 5, 6, 7, 8, 9, 10, 11, 12, 13, 14] [(x 0, .inr (11, oL x h dr)), (x 7, .inr (6, oG x)), (x 8, .inl (E.2.1 4, 6, .inr (.inr (.inr (.inr (fun j => some (x (14 + j)))))))), (x 14, .inr (7, [])), (x 15, .inr (0, [])), (x 16, .inr (3, [])), (x 17, .inr (1, [])), (x 18, .inr (9, [])), (x 19, .inr (2, [])), (x 9, .inl (E.2.1 0, 10, .inl (nf (un ao pp (hB kd pl pp da true false n))))), (x 10, .inl (E.2.1 0, 10, .inl (nf (un at1 pp (hB kd pl pp da false false n))))), (x 11, .inl (E.2.1 0, 10, .inl (nf (un an pp (hB kd pl pp da false true n))))), (h 0, .inr (5, oH h da (nI n) de no pa)), (h 1, .inl (E.2.1 0, 7, .inl (nf kd))), (h 2, .inl (E.2.1 0, 7, .inl (nf pl))), (h 3, .inl (E.2.1 0, 7, .inl (nf bn)))] 1 6 rfl rfl (by decide) rfl (Nat.le_of_ble_eq_true rfl) rfl rfl rfl rfl rfl ?_
  refine g_aload_n hC dX11_turnersAt_12 rfl 0 rfl ?_
  refine g_get hC 0 11 6 inX11 m1_227 dX11_turnersAt_13 rfl rfl (by decide) rfl ?_
  refine g_aload_n hC dX11_turnersAt_16 rfl 0 rfl ?_
  refine g_get hC 0 11 0 inX11 m1_221 dX11_turnersAt_17 rfl rfl (by decide) rfl ?_
  refine g_get hC 12 5 4 inX5 m1_52 dX11_turnersAt_20 rfl rfl (by decide) rfl ?_
  refine g_iload_n hC dX11_turnersAt_23 rfl 1 rfl ?_
  refine g_iload_n hC dX11_turnersAt_24 rfl 2 rfl ?_
  refine g_callV hC (f_X6_turners (kl K) E x (un ao pp (hB kd pl pp da true false n)) (un at1 pp (hB kd pl pp da false false n)) (un an pp (hB kd pl pp da false true n)) (h 3) bn x0 pp (by omega) (by omega) (by omega) (by rw [un_s]; exact Nat.lt_trans (hB_lt kd pl pp da false false hn7) (by decide))) wX6_turners m2_201 dX11_turnersAt_25 [1, 9, 10, 11, 15] [(x 0, .inr (11, oL x h dr)), (x 7, .inr (6, oG x)), (x 8, .inl (E.2.1 4, 6, .inr (.inr (.inr (.inr (fun j => some (x (14 + j)))))))), (x 14, .inr (7, [])), (x 15, .inr (0, [])), (x 16, .inr (3, [])), (x 17, .inr (1, [])), (x 18, .inr (9, [])), (x 19, .inr (2, [])), (x 9, .inl (E.2.1 0, 10, .inl (nf (un ao pp (hB kd pl pp da true false n))))), (x 10, .inl (E.2.1 0, 10, .inl (nf (un at1 pp (hB kd pl pp da false false n))))), (x 11, .inl (E.2.1 0, 10, .inl (nf (un an pp (hB kd pl pp da false true n))))), (h 0, .inr (5, oH h da (nI n) de no pa)), (h 1, .inl (E.2.1 0, 7, .inl (nf kd))), (h 2, .inl (E.2.1 0, 7, .inl (nf pl))), (h 3, .inl (E.2.1 0, 7, .inl (nf bn)))] 1 6 rfl rfl (by decide) rfl (Nat.le_of_ble_eq_true rfl) rfl rfl rfl rfl rfl ?_
  exact g_val (by rw [HT_eq hn7 hbx (un_s _ _ _) (un_s _ _ _) (un_s _ _ _)]) (g_ws (rfl) (hR _ _ dX11_turnersAt_28))
