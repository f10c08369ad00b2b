theorem wi_neg {u : Int32} {b : Nat} (h : u < 0) : inB u b = false := by
  rw [fa_lt] at h
  have h0 : (0 : Int32).toInt = 0 := by decide
  simp only [inB]
  rw [decide_eq_false (by omega)]; rfl
theorem wi_big {u : Int32} {b : Nat} (hb : b < 2147483648) (h : nI b ≤ u) : inB u b = false := by
  rw [fa_le, nI_toInt hb] at h
  simp only [inB]
  rw [decide_eq_false (show ¬ u.toInt < b by omega), Bool.and_false]
theorem wi_in {u : Int32} {b : Nat} (hb : b < 2147483648) (h : ¬ u < 0) (h2 : ¬ nI b ≤ u) : inB u b = true := by
  rw [fa_lt] at h
  rw [fa_le, nI_toInt hb] at h2
  have h0 : (0 : Int32).toInt = 0 := by decide
  simp only [inB]
  rw [decide_eq_true (by omega), decide_eq_true (by omega)]; rfl
def stp (w p1 p2 : Nat) : Nat := (if w.testBit 0 then 2 ^ p1 else 0) ||| (if w.testBit 1 then 2 ^ p2 else 0)
theorem bI_shl {b : Bool} {k : Nat} (h : k < 31) : bI b <<< (nI k &&& 31) = nI (if b then 2 ^ k else 0) := by
  cases b
  · have := pk_shlN (n := 0) (nI k &&& 31) k (s_l k (by omega)) (by omega)
    rw [Nat.zero_mul] at this
    exact this
  · exact sh1 h
theorem own_step {bn : Nat → Nat} {k : Nat} (hk : k < 31) : nI (bs (fun p => (bn p).testBit p) k) ||| nI (bn k &&& 2 ^ k) = nI (bs (fun p => (bn p).testBit p) (k + 1)) := by
  by_cases h : (bn k).testBit k = true
  · have e : bn k &&& 2 ^ k = 2 ^ k := by
      apply Nat.eq_of_testBit_eq
      intro i
      rw [Nat.testBit_and, Nat.testBit_two_pow]
      by_cases hi : k = i
      · subst hi; simp [h]
      · simp [hi]
    rw [e, ← sh1 hk, bs_yes (p := fun p => (bn p).testBit p) hk h]
  · have h : (bn k).testBit k = false := by simpa using h
    have e : bn k &&& 2 ^ k = 0 := (fb_bit_nat (bn k) k).mpr h
    rw [e, bs_no (p := fun p => (bn p).testBit p) h]
def stl (bn : Nat → Nat) (x t : Nat) : Nat → Nat := if t = 0 then bn else un (fun j => if j < 7 then andn (bn j) t else bn j) x t
theorem st_s (bn : Nat → Nat) (t k : Nat) : (fun j => if j < k + 1 then andn (bn j) t else bn j) = un (fun j => if j < k then andn (bn j) t else bn j) k (andn (bn k) t) := by
  funext p
  by_cases h : p = k
  · subst h; simp [un]
  · by_cases h2 : p < k
    · simp [un, h, h2, show p < k + 1 by omega]
    · simp [un, h, h2, show ¬ p < k + 1 by omega]

set_option maxHeartbeats 4000000 in
set_option maxRecDepth 100000 in
theorem f_X11_within (l : Launch) (E : Ew) (u : Int32) (b : Nat) (hb : b < 2147483648) : Fn l E 0 yX11_within cX11_within 2 (some .boolean) [.int u, .int (nI b)] [] (some (.int (bI (inB u b)))) [] := by
  refine fn_Z (by decide) (Nat.le_of_ble_eq_true rfl) rfl (nar_bI _) ?_
  intro K hC hR
  show G K E 2 [] [(0, .int u), (1, .int (nI b))] 0 []
  refine g_iload_n hC dX11_within_0 rfl 0 rfl ?_
  refine g_if_lt (tgt := 13) hC dX11_within_1 (by decide) (fun h_1 => ?_) (fun h_1 => ?_)
  · refine g_iconst (v := (nI 0)) hC dX11_within_13 (by decide) ?_
    exact g_val (by rw [wi_neg h_1]; rfl) (g_ws (rfl) (hR _ _ dX11_within_14))
  · refine g_iload_n hC dX11_within_4 rfl 0 rfl ?_
    refine g_iload_n hC dX11_within_5 rfl 1 rfl ?_
    refine g_icmp_ge (tgt := 13) hC dX11_within_6 (by decide) (fun h_6 => ?_) (fun h_6 => ?_)
    · refine g_iconst (v := (nI 0)) hC dX11_within_13 (by decide) ?_
      exact g_val (by rw [wi_big hb h_6]; rfl) (g_ws (rfl) (hR _ _ dX11_within_14))
    · refine g_iconst (v := (nI 1)) hC dX11_within_9 (by decide) ?_
      refine g_goto (tgt := 14) hC dX11_within_10 (by decide) ?_
      exact g_val (by rw [wi_in hb h_1 h_6]; rfl) (g_ws (rfl) (hR _ _ dX11_within_14))
set_option maxHeartbeats 4000000 in
set_option maxRecDepth 100000 in
theorem f_X11_bit (l : Launch) (E : Ew) (x : Nat) (k : Nat) (hx : x < 2147483648) (hk : k < 31) : Fn l E 0 yX11_bit cX11_bit 2 (some .int) [.int (nI x), .int (nI k)] [] (some (.int (bI (x.testBit k)))) [] := by
  refine fn_I (by decide) (Nat.le_of_ble_eq_true rfl) rfl ?_
  intro K hC hR
  show G K E 2 [] [(0, .int (nI x)), (1, .int (nI k))] 0 []
  refine g_iload_n hC dX11_bit_0 rfl 0 rfl ?_
  refine g_iload_n hC dX11_bit_1 rfl 1 rfl ?_
  refine g_ishr hC dX11_bit_2 ?_
  refine g_iconst (v := (nI 1)) hC dX11_bit_3 (by decide) ?_
  refine g_iand hC dX11_bit_4 ?_
  refine g_val (v' := .int (bI (x.testBit k))) (by rw [bit_N hx hk]) ?_
  exact g_val (rfl) (g_ws (rfl) (hR _ _ dX11_bit_5))
set_option maxHeartbeats 4000000 in
set_option maxRecDepth 100000 in
theorem f_X11_bearersBehind (l : Launch) (E : Ew) (x : Nat) (t : Nat) (ht : t < 2147483648) : Fn l E 0 yX11_bearersBehind cX11_bearersBehind 2 (some .int) [.int (nI x), .int (nI t)] [] (some (.int (nI (if t = 0 then x else t)))) [] := by
  refine fn_I (by decide) (Nat.le_of_ble_eq_true rfl) rfl ?_
  intro K hC hR
  show G K E 2 [] [(0, .int (nI x)), (1, .int (nI t))] 0 []
  refine g_iload_n hC dX11_bearersBehind_0 rfl 1 rfl ?_
  refine g_if_neN (tgt := 8) hC dX11_bearersBehind_1 (by decide) (by omega) (fun h_1 => ?_) (fun h_1 => ?_)
  · refine g_iload_n hC dX11_bearersBehind_8 rfl 1 rfl ?_
    exact g_val (by simp [h_1]) (g_ws (rfl) (hR _ _ dX11_bearersBehind_9))
  · refine g_iload_n hC dX11_bearersBehind_4 rfl 0 rfl ?_
    refine g_goto (tgt := 9) hC dX11_bearersBehind_5 (by decide) ?_
    exact g_val (by simp [h_1]) (g_ws (rfl) (hR _ _ dX11_bearersBehind_9))
set_option maxHeartbeats 4000000 in
set_option maxRecDepth 100000 in
theorem f_X11_stopped (l : Launch) (E : Ew) (w : Nat) (p1 : Nat) (p2 : Nat) (hw : w < 4) (h1 : p1 < 7) (h2 : p2 < 7) : Fn l E 1 yX11_stopped cX11_stopped 3 (some .int) [.int (nI w), .int (nI p1), .int (nI p2)] [] (some (.int (nI (stp w p1 p2)))) [] := by
  refine fn_I (by decide) (Nat.le_of_ble_eq_true rfl) rfl ?_
  intro K hC hR
  show G K E 3 [] [(0, .int (nI w)), (1, .int (nI p1)), (2, .int (nI p2))] 0 []
  refine g_iload_n hC dX11_stopped_0 rfl 0 rfl ?_
  refine g_iconst (v := (nI 0)) hC dX11_stopped_1 (by decide) ?_
  refine g_callS hC (f_X11_bit (kl K) E w 0 (by omega) (by omega)) wX11_bit m3_97 dX11_stopped_2 [] [] (by decide) rfl (Nat.le_of_ble_eq_true rfl) rfl rfl rfl rfl rfl ?_
  refine g_iload_n hC dX11_stopped_5 rfl 1 rfl ?_
  refine g_ishl hC dX11_stopped_6 ?_
  refine g_val (v' := .int (nI (if w.testBit 0 then 2 ^ p1 else 0))) (by rw [bI_shl (by omega)]) ?_
  refine g_iload_n hC dX11_stopped_7 rfl 0 rfl ?_
  refine g_iconst (v := (nI 1)) hC dX11_stopped_8 (by decide) ?_
  refine g_callS hC (f_X11_bit (kl K) E w 1 (by omega) (by omega)) wX11_bit m3_97 dX11_stopped_9 [] [] (by decide) rfl (Nat.le_of_ble_eq_true rfl) rfl rfl rfl rfl rfl ?_
  refine g_iload_n hC dX11_stopped_12 rfl 2 rfl ?_
  refine g_ishl hC dX11_stopped_13 ?_
  refine g_val (v' := .int (nI (if w.testBit 1 then 2 ^ p2 else 0))) (by rw [bI_shl (by omega)]) ?_
  refine g_ior hC dX11_stopped_14 ?_
  refine g_val (v' := .int (nI (stp w p1 p2))) (by rw [fa_or]; rfl) ?_
  exact g_val (rfl) (g_ws (rfl) (hR _ _ dX11_stopped_15))
set_option maxHeartbeats 4000000 in
set_option maxRecDepth 100000 in
theorem f_X11_owners (l : Launch) (E : Ew) (bq : Nat) (bn : Nat → Nat)  : Fn l E 0 yX11_owners cX11_owners 3 (some .int) [.ref bq] [(bq, .inl (E.2.1 0, 7, .inl (nf bn)))] (some (.int (nI (bs (fun p => (bn p).testBit p) 7)))) [(bq, .inl (E.2.1 0, 7, .inl (nf bn)))] := by
  refine fn_I (by decide) (Nat.le_of_ble_eq_true rfl) rfl ?_
  intro K hC hR
  show G K E 3 [(bq, .inl (E.2.1 0, 7, .inl (nf bn)))] [(0, .ref bq)] 0 []
  refine g_iconst (v := (nI 0)) hC dX11_owners_0 (by decide) ?_
  refine g_istore_n hC [(1, .int (nI 0)), (0, .ref bq)] dX11_owners_1 rfl (by decide) rfl ?_
  refine g_iconst (v := (nI 0)) hC dX11_owners_2 (by decide) ?_
  refine g_istore_n hC [(2, .int (nI 0)), (1, .int (nI 0)), (0, .ref bq)] dX11_owners_3 rfl (by decide) rfl ?_
  have L_4 : ∀ (fu : Nat) (k : Nat) (hk : k ≤ 7), 7 - k < fu → G K E 3 [(bq, .inl (E.2.1 0, 7, .inl (nf bn)))] [(2, .int (nI k)), (1, .int (nI (bs (fun p => (bn p).testBit p) k))), (0, .ref bq)] 4 [] := by
    intro fu
    induction fu with
    | zero => intro k hk hm_4; exact absurd hm_4 (Nat.not_lt_zero _)
    | succ fu ih_4 =>
      intro k hk hm_4
      refine g_iload_n hC dX11_owners_4 rfl 0 rfl ?_
      refine g_aload_n hC dX11_owners_5 rfl 2 rfl ?_
      refine g_alen hC 0 0 dX11_owners_6 rfl rfl ?_
      refine g_icmp_geN (tgt := 26) hC dX11_owners_7 (by decide) (by omega) (by omega) (fun h_7 => ?_) (fun h_7 => ?_)
      · refine g_iload_n hC dX11_owners_26 rfl 1 rfl ?_
        exact g_val (by rw [show k = 7 by omega]) (g_ws (rfl) (hR _ _ dX11_owners_27))
      · refine g_iload_n hC dX11_owners_10 rfl 1 rfl ?_
        refine g_aload_n hC dX11_owners_11 rfl 2 rfl ?_
        refine g_iload_n hC dX11_owners_12 rfl 0 rfl ?_
        refine g_ialdN hC 0 dX11_owners_13 rfl (by decide) (by omega) ?_
        refine g_val (v' := .int (nI (bn k))) rfl ?_
        refine g_iconst (v := (nI 1)) hC dX11_owners_14 (by decide) ?_
        refine g_iload_n hC dX11_owners_15 rfl 0 rfl ?_
        refine g_ishl hC dX11_owners_16 ?_
        refine g_iand hC dX11_owners_17 ?_
        refine g_val (v' := .int (nI (bn k &&& 2 ^ k))) (by rw [sh1 (by omega), fa_and]) ?_
        refine g_ior hC dX11_owners_18 ?_
        refine g_val (v' := .int (nI (bs (fun p => (bn p).testBit p) (k + 1)))) (by rw [own_step (by omega)]) ?_
        refine g_istore_n hC [(1, .int (nI (bs (fun p => (bn p).testBit p) (k + 1)))), (2, .int (nI k)), (0, .ref bq)] dX11_owners_19 rfl (by decide) rfl ?_
        refine g_iincN hC (q := 1) 1 [(2, .int (nI (k + 1))), (1, .int (nI (bs (fun p => (bn p).testBit p) (k + 1)))), (0, .ref bq)] dX11_owners_20 rfl rfl (by decide) rfl ?_
        refine g_goto (tgt := 4) hC dX11_owners_23 (by decide) ?_
        refine g_lv (lv' := [(2, .int (nI (k + 1))), (1, .int (nI (bs (fun p => (bn p).testBit p) (k + 1)))), (0, .ref bq)]) [0, 1, 2] rfl ?_
        exact ih_4 (k + 1) (by omega) (by omega)
  refine g_lv (lv' := [(2, .int (nI 0)), (1, .int (nI 0)), (0, .ref bq)]) [0, 1, 2] rfl ?_
  refine g_lve (lv' := [(2, .int (nI 0)), (1, .int (nI (bs (fun p => (bn p).testBit p) 0))), (0, .ref bq)]) (rfl) ?_
  exact L_4 ((7 - 0) + 1) 0 (by omega) (Nat.lt_succ_self _)
set_option maxHeartbeats 4000000 in
set_option maxRecDepth 100000 in
theorem f_X11_settle (l : Launch) (E : Ew) (bq : Nat) (bn : Nat → Nat) (x : Nat) (t : Nat) (hx : x < 7) (ht : t < 2147483648) (hbn : ∀ j, j < 7 → bn j < 2147483648) : Fn l E 1 yX11_settle cX11_settle 4 none [.ref bq, .int (nI x), .int (nI t)] [(bq, .inl (E.2.1 0, 7, .inl (nf bn)))] none [(bq, .inl (E.2.1 0, 7, .inl (nf (stl bn x t))))] := by
  refine fn_V (by decide) (Nat.le_of_ble_eq_true rfl) rfl ?_
  intro K hC hR
  show G K E 4 [(bq, .inl (E.2.1 0, 7, .inl (nf bn)))] [(0, .ref bq), (1, .int (nI x)), (2, .int (nI t))] 0 []
  refine g_iload_n hC dX11_settle_0 rfl 2 rfl ?_
  refine g_if_eqN (tgt := 13) hC dX11_settle_1 (by decide) (by omega) (fun h_1 => ?_) (fun h_1 => ?_)
  · exact g_ws (by rw [stl, if_pos h_1]) (hR _ _ dX11_settle_13)
  · refine g_iload_n hC dX11_settle_4 rfl 1 rfl ?_
    refine g_aload_n hC dX11_settle_5 rfl 0 rfl ?_
    refine g_alen hC 0 0 dX11_settle_6 rfl rfl ?_
    refine g_callS hC (f_X11_within (kl K) E (nI x) 7 (by omega)) wX11_within m2_13 dX11_settle_7 [] [(bq, .inl (E.2.1 0, 7, .inl (nf bn)))] (by decide) rfl (Nat.le_of_ble_eq_true rfl) rfl rfl rfl rfl rfl ?_
    refine g_if_neB (tgt := 14) hC dX11_settle_10 (by decide) (fun h_10 => ?_) (fun h_10 => ?_)
    · refine g_iconst (v := (nI 0)) hC dX11_settle_14 (by decide) ?_
      refine g_istore_n hC [(3, .int (nI 0)), (0, .ref bq), (1, .int (nI x)), (2, .int (nI t))] dX11_settle_15 rfl (by decide) rfl ?_
      have L_16 : ∀ (fu : Nat) (k : Nat) (hk : k ≤ 7), 7 - k < fu → G K E 4 [(bq, .inl (E.2.1 0, 7, .inl (nf (fun j => if j < k then andn (bn j) t else bn j))))] [(3, .int (nI k)), (0, .ref bq), (1, .int (nI x)), (2, .int (nI t))] 16 [] := by
        intro fu
        induction fu with
        | zero => intro k hk hm_16; exact absurd hm_16 (Nat.not_lt_zero _)
        | succ fu ih_16 =>
          intro k hk hm_16
          refine g_iload_n hC dX11_settle_16 rfl 0 rfl ?_
          refine g_aload_n hC dX11_settle_17 rfl 1 rfl ?_
          refine g_alen hC 0 0 dX11_settle_18 rfl rfl ?_
          refine g_icmp_geN (tgt := 37) hC dX11_settle_19 (by decide) (by omega) (by omega) (fun h_19 => ?_) (fun h_19 => ?_)
          · refine g_aload_n hC dX11_settle_37 rfl 1 rfl ?_
            refine g_iload_n hC dX11_settle_38 rfl 2 rfl ?_
            refine g_iload_n hC dX11_settle_39 rfl 3 rfl ?_
            refine g_iastN hC 0 [(bq, .inl (E.2.1 0, 7, .inl (upd (nf (fun j => if j < k then andn (bn j) t else bn j)) x (nI t))))] dX11_settle_40 rfl (by decide) (by omega) rfl ?_
            refine g_ws (ws' := [(bq, .inl (E.2.1 0, 7, .inl (nf (un (fun j => if j < k then andn (bn j) t else bn j) x t))))]) (by rw [nf_u]) ?_
            exact g_ws (by rw [stl, if_neg h_1, show k = 7 by omega]) (hR _ _ dX11_settle_41)
          · refine g_aload_n hC dX11_settle_22 rfl 1 rfl ?_
            refine g_iload_n hC dX11_settle_23 rfl 0 rfl ?_
            refine g_dup2 hC dX11_settle_24 rfl rfl ?_
            refine g_ialdN hC 0 dX11_settle_25 rfl (by decide) (by omega) ?_
            refine g_val (v' := .int (nI ((fun j => if j < k then andn (bn j) t else bn j) k))) rfl ?_
            refine g_val (v' := .int (nI (bn k))) (by simp) ?_
            refine g_iload_n hC dX11_settle_26 rfl 3 rfl ?_
            refine g_iconst (v := (-1)) hC dX11_settle_27 (by decide) ?_
            refine g_ixor hC dX11_settle_28 ?_
            refine g_iand hC dX11_settle_29 ?_
            refine g_val (v' := .int (nI (andn (bn k) t))) (by rw [andn_N (hbn k (by omega))]) ?_
            refine g_iastN hC 0 [(bq, .inl (E.2.1 0, 7, .inl (upd (nf (fun j => if j < k then andn (bn j) t else bn j)) k (nI (andn (bn k) t)))))] dX11_settle_30 rfl (by decide) (by omega) rfl ?_
            refine g_ws (ws' := [(bq, .inl (E.2.1 0, 7, .inl (nf (un (fun j => if j < k then andn (bn j) t else bn j) k (andn (bn k) t)))))]) (by rw [nf_u]) ?_
            refine g_iincN hC (q := 0) 1 [(3, .int (nI (k + 1))), (0, .ref bq), (1, .int (nI x)), (2, .int (nI t))] dX11_settle_31 rfl rfl (by decide) rfl ?_
            refine g_goto (tgt := 16) hC dX11_settle_34 (by decide) ?_
            refine g_lv (lv' := [(3, .int (nI (k + 1))), (0, .ref bq), (1, .int (nI x)), (2, .int (nI t))]) [0, 1, 2, 3] rfl ?_
            refine g_ws (ws' := [(bq, .inl (E.2.1 0, 7, .inl (nf (fun j => if j < (k + 1) then andn (bn j) t else bn j))))]) (by rw [st_s]) ?_
            exact ih_16 (k + 1) (by omega) (by omega)
      refine g_lv (lv' := [(3, .int (nI 0)), (0, .ref bq), (1, .int (nI x)), (2, .int (nI t))]) [0, 1, 2, 3] rfl ?_
      refine g_ws (ws' := [(bq, .inl (E.2.1 0, 7, .inl (nf (fun j => if j < 0 then andn (bn j) t else bn j))))]) (by simp) ?_
      exact L_16 ((7 - 0) + 1) 0 (by omega) (Nat.lt_succ_self _)
    · exact Bool.noConfusion ((inB_ok (by omega) (by omega)).symm.trans h_10)
set_option maxHeartbeats 4000000 in
set_option maxRecDepth 100000 in
theorem f_X11_isThere (l : Launch) (E : Ew) (x : Nat → Nat) (h : Nat → Nat) (dr : Nat → Nat) (da : Int32) (de : Int32) (no : Int32) (pa : Int32) (n : Nat) (p : Int32) (hn7 : n ≤ 7) : Fn l E 1 yX11_isThere cX11_isThere 2 (some .boolean) [.ref (x 0), .int p] [(x 0, .inr (11, oL x h dr)), (h 0, .inr (5, oH h da (nI n) de no pa))] (some (.int (bI (inB p n)))) [(x 0, .inr (11, oL x h dr)), (h 0, .inr (5, oH h da (nI n) de no pa))] := by
  refine fn_Z (by decide) (Nat.le_of_ble_eq_true rfl) rfl (nar_bI _) ?_
  intro K hC hR
  show G K E 2 [(x 0, .inr (11, oL x h dr)), (h 0, .inr (5, oH h da (nI n) de no pa))] [(0, .ref (x 0)), (1, .int p)] 0 []
  refine g_iload_n hC dX11_isThere_0 rfl 1 rfl ?_
  refine g_aload_n hC dX11_isThere_1 rfl 0 rfl ?_
  refine g_get hC 0 11 0 inX11 m1_221 dX11_isThere_2 rfl rfl (by decide) rfl ?_
  refine g_get hC 1 5 1 inX5 m1_40 dX11_isThere_5 rfl rfl (by decide) rfl ?_
  refine g_callS hC (f_X11_within (kl K) E p n (by omega)) wX11_within m2_13 dX11_isThere_8 [] [(x 0, .inr (11, oL x h dr)), (h 0, .inr (5, oH h da (nI n) de no pa))] (by decide) rfl (Nat.le_of_ble_eq_true rfl) rfl rfl rfl rfl rfl ?_
  exact g_val (rfl) (g_ws (rfl) (hR _ _ dX11_isThere_11))
set_option maxHeartbeats 4000000 in
set_option maxRecDepth 100000 in
theorem f_X11_refuse_bad (l : Launch) (E : Ew) (x : Nat → Nat) (h : Nat → Nat) (dr : Nat → Nat) (r : Nat → Int32)  : Fn l E 1 yX11_refuse cX11_refuse 3 (some .int) [.ref (x 0), .int (-2)] [(x 0, .inr (11, oL x h dr)), (x 3, .inl (E.2.1 0, 3, .inl r))] (some (.int (-2))) [(x 0, .inr (11, oL x h dr)), (x 3, .inl (E.2.1 0, 3, .inl (upd r 0 (r 0 + nI 1))))] := by
  refine fn_I (by decide) (Nat.le_of_ble_eq_true rfl) rfl ?_
  intro K hC hR
  show G K E 3 [(x 0, .inr (11, oL x h dr)), (x 3, .inl (E.2.1 0, 3, .inl r))] [(0, .ref (x 0)), (1, .int (-2))] 0 []
  refine g_bipush (v := (-2)) hC dX11_refuse_0 (by decide) ?_
  refine g_iload_n hC dX11_refuse_2 rfl 1 rfl ?_
  refine g_isub hC dX11_refuse_3 ?_
  refine g_val (v' := .int (nI 0)) (by rfl) ?_
  refine g_istore_n hC [(2, .int (nI 0)), (0, .ref (x 0)), (1, .int (-2))] dX11_refuse_4 rfl (by decide) rfl ?_
  refine g_iload_n hC dX11_refuse_5 rfl 0 rfl ?_
  refine g_aload_n hC dX11_refuse_6 rfl 1 rfl ?_
  refine g_get hC 0 11 8 inX11 m1_229 dX11_refuse_7 rfl rfl (by decide) rfl ?_
  refine g_alen hC 1 0 dX11_refuse_10 rfl rfl ?_
  refine g_callS hC (f_X11_within (kl K) E (nI 0) 3 (by omega)) wX11_within m2_13 dX11_refuse_11 [] [(x 0, .inr (11, oL x h dr)), (x 3, .inl (E.2.1 0, 3, .inl r))] (by decide) rfl (Nat.le_of_ble_eq_true rfl) rfl rfl rfl rfl rfl ?_
  refine g_if_eqB (tgt := 27) hC dX11_refuse_14 (by decide) (fun h_14 => ?_) (fun h_14 => ?_)
  · exact Bool.noConfusion ((inB_ok (by omega) (by omega)).symm.trans h_14)
  · refine g_aload_n hC dX11_refuse_17 rfl 1 rfl ?_
    refine g_get hC 0 11 8 inX11 m1_229 dX11_refuse_18 rfl rfl (by decide) rfl ?_
    refine g_iload_n hC dX11_refuse_21 rfl 0 rfl ?_
    refine g_dup2 hC dX11_refuse_22 rfl rfl ?_
    refine g_ialdN hC 1 dX11_refuse_23 rfl (by decide) (by omega) ?_
    refine g_iconst (v := (nI 1)) hC dX11_refuse_24 (by decide) ?_
    refine g_iadd hC dX11_refuse_25 ?_
    refine g_iastN hC 1 [(x 0, .inr (11, oL x h dr)), (x 3, .inl (E.2.1 0, 3, .inl (upd r 0 (r 0 + (nI 1)))))] dX11_refuse_26 rfl (by decide) (by omega) rfl ?_
    refine g_iload_n hC dX11_refuse_27 rfl 2 rfl ?_
    exact g_val (rfl) (g_ws (rfl) (hR _ _ dX11_refuse_28))
set_option maxHeartbeats 4000000 in
set_option maxRecDepth 100000 in
theorem f_X11_refuse_no (l : Launch) (E : Ew) (x : Nat → Nat) (h : Nat → Nat) (dr : Nat → Nat) (r : Nat → Int32)  : Fn l E 1 yX11_refuse cX11_refuse 3 (some .int) [.ref (x 0), .int (-3)] [(x 0, .inr (11, oL x h dr)), (x 3, .inl (E.2.1 0, 3, .inl r))] (some (.int (-3))) [(x 0, .inr (11, oL x h dr)), (x 3, .inl (E.2.1 0, 3, .inl (upd r 1 (r 1 + nI 1))))] := by
  refine fn_I (by decide) (Nat.le_of_ble_eq_true rfl) rfl ?_
  intro K hC hR
  show G K E 3 [(x 0, .inr (11, oL x h dr)), (x 3, .inl (E.2.1 0, 3, .inl r))] [(0, .ref (x 0)), (1, .int (-3))] 0 []
  refine g_bipush (v := (-2)) hC dX11_refuse_0 (by decide) ?_
  refine g_iload_n hC dX11_refuse_2 rfl 1 rfl ?_
  refine g_isub hC dX11_refuse_3 ?_
  refine g_val (v' := .int (nI 1)) (by rfl) ?_
  refine g_istore_n hC [(2, .int (nI 1)), (0, .ref (x 0)), (1, .int (-3))] dX11_refuse_4 rfl (by decide) rfl ?_
  refine g_iload_n hC dX11_refuse_5 rfl 0 rfl ?_
  refine g_aload_n hC dX11_refuse_6 rfl 1 rfl ?_
  refine g_get hC 0 11 8 inX11 m1_229 dX11_refuse_7 rfl rfl (by decide) rfl ?_
  refine g_alen hC 1 0 dX11_refuse_10 rfl rfl ?_
  refine g_callS hC (f_X11_within (kl K) E (nI 1) 3 (by omega)) wX11_within m2_13 dX11_refuse_11 [] [(x 0, .inr (11, oL x h dr)), (x 3, .inl (E.2.1 0, 3, .inl r))] (by decide) rfl (Nat.le_of_ble_eq_true rfl) rfl rfl rfl rfl rfl ?_
  refine g_if_eqB (tgt := 27) hC dX11_refuse_14 (by decide) (fun h_14 => ?_) (fun h_14 => ?_)
  · exact Bool.noConfusion ((inB_ok (by omega) (by omega)).symm.trans h_14)
  · refine g_aload_n hC dX11_refuse_17 rfl 1 rfl ?_
    refine g_get hC 0 11 8 inX11 m1_229 dX11_refuse_18 rfl rfl (by decide) rfl ?_
    refine g_iload_n hC dX11_refuse_21 rfl 0 rfl ?_
    refine g_dup2 hC dX11_refuse_22 rfl rfl ?_
    refine g_ialdN hC 1 dX11_refuse_23 rfl (by decide) (by omega) ?_
    refine g_iconst (v := (nI 1)) hC dX11_refuse_24 (by decide) ?_
    refine g_iadd hC dX11_refuse_25 ?_
    refine g_iastN hC 1 [(x 0, .inr (11, oL x h dr)), (x 3, .inl (E.2.1 0, 3, .inl (upd r 1 (r 1 + (nI 1)))))] dX11_refuse_26 rfl (by decide) (by omega) rfl ?_
    refine g_iload_n hC dX11_refuse_27 rfl 2 rfl ?_
    exact g_val (rfl) (g_ws (rfl) (hR _ _ dX11_refuse_28))
set_option maxHeartbeats 4000000 in
set_option maxRecDepth 100000 in
theorem f_X11_refuse_full (l : Launch) (E : Ew) (x : Nat → Nat) (h : Nat → Nat) (dr : Nat → Nat) (r : Nat → Int32)  : Fn l E 1 yX11_refuse cX11_refuse 3 (some .int) [.ref (x 0), .int (-4)] [(x 0, .inr (11, oL x h dr)), (x 3, .inl (E.2.1 0, 3, .inl r))] (some (.int (-4))) [(x 0, .inr (11, oL x h dr)), (x 3, .inl (E.2.1 0, 3, .inl (upd r 2 (r 2 + nI 1))))] := by
  refine fn_I (by decide) (Nat.le_of_ble_eq_true rfl) rfl ?_
  intro K hC hR
  show G K E 3 [(x 0, .inr (11, oL x h dr)), (x 3, .inl (E.2.1 0, 3, .inl r))] [(0, .ref (x 0)), (1, .int (-4))] 0 []
  refine g_bipush (v := (-2)) hC dX11_refuse_0 (by decide) ?_
  refine g_iload_n hC dX11_refuse_2 rfl 1 rfl ?_
  refine g_isub hC dX11_refuse_3 ?_
  refine g_val (v' := .int (nI 2)) (by rfl) ?_
  refine g_istore_n hC [(2, .int (nI 2)), (0, .ref (x 0)), (1, .int (-4))] dX11_refuse_4 rfl (by decide) rfl ?_
  refine g_iload_n hC dX11_refuse_5 rfl 0 rfl ?_
  refine g_aload_n hC dX11_refuse_6 rfl 1 rfl ?_
  refine g_get hC 0 11 8 inX11 m1_229 dX11_refuse_7 rfl rfl (by decide) rfl ?_
  refine g_alen hC 1 0 dX11_refuse_10 rfl rfl ?_
  refine g_callS hC (f_X11_within (kl K) E (nI 2) 3 (by omega)) wX11_within m2_13 dX11_refuse_11 [] [(x 0, .inr (11, oL x h dr)), (x 3, .inl (E.2.1 0, 3, .inl r))] (by decide) rfl (Nat.le_of_ble_eq_true rfl) rfl rfl rfl rfl rfl ?_
  refine g_if_eqB (tgt := 27) hC dX11_refuse_14 (by decide) (fun h_14 => ?_) (fun h_14 => ?_)
  · exact Bool.noConfusion ((inB_ok (by omega) (by omega)).symm.trans h_14)
  · refine g_aload_n hC dX11_refuse_17 rfl 1 rfl ?_
    refine g_get hC 0 11 8 inX11 m1_229 dX11_refuse_18 rfl rfl (by decide) rfl ?_
    refine g_iload_n hC dX11_refuse_21 rfl 0 rfl ?_
    refine g_dup2 hC dX11_refuse_22 rfl rfl ?_
    refine g_ialdN hC 1 dX11_refuse_23 rfl (by decide) (by omega) ?_
    refine g_iconst (v := (nI 1)) hC dX11_refuse_24 (by decide) ?_
    refine g_iadd hC dX11_refuse_25 ?_
    refine g_iastN hC 1 [(x 0, .inr (11, oL x h dr)), (x 3, .inl (E.2.1 0, 3, .inl (upd r 2 (r 2 + (nI 1)))))] dX11_refuse_26 rfl (by decide) (by omega) rfl ?_
    refine g_iload_n hC dX11_refuse_27 rfl 2 rfl ?_
    exact g_val (rfl) (g_ws (rfl) (hR _ _ dX11_refuse_28))
set_option maxHeartbeats 4000000 in
set_option maxRecDepth 100000 in
theorem f_X7_turns (l : Launch) (E : Ew) (o : Nat) (far : Int32) (be : Bool) (no : Bool) (da : Int32)  : Fn l E 0 yX7_turns cX7_turns 5 (some .boolean) [.ref o, .int far, .int (bI be), .int (bI no), .int da] [] (some (.int (bI (decide (far ≤ 3))))) [] := by
  refine fn_Z (by decide) (Nat.le_of_ble_eq_true rfl) rfl (nar_bI _) ?_
  intro K hC hR
  show G K E 5 [] [(0, .ref o), (1, .int far), (2, .int (bI be)), (3, .int (bI no)), (4, .int da)] 0 []
  refine g_iload_n hC dX7_turns_0 rfl 1 rfl ?_
  refine g_iconst (v := (nI 3)) hC dX7_turns_1 (by decide) ?_
  refine g_icmp_gt (tgt := 9) hC dX7_turns_2 (by decide) (fun h_2 => ?_) (fun h_2 => ?_)
  · refine g_iconst (v := (nI 0)) hC dX7_turns_9 (by decide) ?_
    exact g_val (bI_0e (decide_eq_false (Int32.not_le.mpr h_2))) (g_ws (rfl) (hR _ _ dX7_turns_10))
  · refine g_iconst (v := (nI 1)) hC dX7_turns_5 (by decide) ?_
    refine g_goto (tgt := 10) hC dX7_turns_6 (by decide) ?_
    exact g_val (bI_1e (decide_eq_true (Int32.not_lt.mp h_2))) (g_ws (rfl) (hR _ _ dX7_turns_10))
set_option maxHeartbeats 4000000 in
set_option maxRecDepth 100000 in
theorem f_X0_turns (l : Launch) (E : Ew) (o : Nat) (far : Int32) (be : Bool) (no : Bool) (da : Int32)  : Fn l E 1 yX0_turns cX0_turns 5 (some .boolean) [.ref o, .int far, .int (bI be), .int (bI no), .int da] [(o, .inr (0, []))] (some (.int (bI (be && decide (far ≤ 3))))) [(o, .inr (0, []))] := by
  refine fn_Z (by decide) (Nat.le_of_ble_eq_true rfl) rfl (nar_bI _) ?_
  intro K hC hR
  show G K E 5 [(o, .inr (0, []))] [(0, .ref o), (1, .int far), (2, .int (bI be)), (3, .int (bI no)), (4, .int da)] 0 []
  refine g_iload_n hC dX0_turns_0 rfl 2 rfl ?_
  refine g_if_eqB (tgt := 20) hC dX0_turns_1 (by decide) (fun h_1 => ?_) (fun h_1 => ?_)
  · refine g_iconst (v := (nI 0)) hC dX0_turns_20 (by decide) ?_
    exact g_val (bI_0e (by simp [h_1])) (g_ws (rfl) (hR _ _ dX0_turns_21))
  · refine g_aload_n hC dX0_turns_4 rfl 0 rfl ?_
    refine g_iload_n hC dX0_turns_5 rfl 1 rfl ?_
    refine g_iload_n hC dX0_turns_6 rfl 2 rfl ?_
    refine g_iload_n hC dX0_turns_7 rfl 3 rfl ?_
    refine g_iload hC dX0_turns_8 4 rfl ?_
    refine g_callSU (n := 4) hC (f_X7_turns (kl K) E o far be no da) m2_183 m2_179 m1_157 m2_177 m1_6 m2_200 (by decide) (by decide +kernel) dX0_turns_10 [] [(o, .inr (0, []))] 0 0 rfl rfl (by decide) rfl (Nat.le_of_ble_eq_true rfl) rfl rfl rfl rfl rfl ?_
    refine g_if_eqB (tgt := 20) hC dX0_turns_13 (by decide) (fun h_13 => ?_) (fun h_13 => ?_)
    · refine g_iconst (v := (nI 0)) hC dX0_turns_20 (by decide) ?_
      exact g_val (bI_0e (by rw [h_1, h_13]; rfl)) (g_ws (rfl) (hR _ _ dX0_turns_21))
    · refine g_iconst (v := (nI 1)) hC dX0_turns_16 (by decide) ?_
      refine g_goto (tgt := 21) hC dX0_turns_17 (by decide) ?_
      exact g_val (bI_1e (by rw [h_1, h_13]; rfl)) (g_ws (rfl) (hR _ _ dX0_turns_21))
set_option maxHeartbeats 4000000 in
set_option maxRecDepth 100000 in
theorem f_X0_turns_c (l : Launch) (E : Ew) (o : Nat) (far : Int32) (be : Bool) (no : Bool) (da : Int32)  : Fn l E 1 yX0_turns cX0_turns 5 (some .boolean) [.ref o, .int far, .int (bI be), .int (bI no), .int da] [(o, .inr (2, []))] (some (.int (bI (be && decide (far ≤ 3))))) [(o, .inr (2, []))] := by
  refine fn_Z (by decide) (Nat.le_of_ble_eq_true rfl) rfl (nar_bI _) ?_
  intro K hC hR
  show G K E 5 [(o, .inr (2, []))] [(0, .ref o), (1, .int far), (2, .int (bI be)), (3, .int (bI no)), (4, .int da)] 0 []
  refine g_iload_n hC dX0_turns_0 rfl 2 rfl ?_
  refine g_if_eqB (tgt := 20) hC dX0_turns_1 (by decide) (fun h_1 => ?_) (fun h_1 => ?_)
  · refine g_iconst (v := (nI 0)) hC dX0_turns_20 (by decide) ?_
    exact g_val (bI_0e (by simp [h_1])) (g_ws (rfl) (hR _ _ dX0_turns_21))
  · refine g_aload_n hC dX0_turns_4 rfl 0 rfl ?_
    refine g_iload_n hC dX0_turns_5 rfl 1 rfl ?_
    refine g_iload_n hC dX0_turns_6 rfl 2 rfl ?_
    refine g_iload_n hC dX0_turns_7 rfl 3 rfl ?_
    refine g_iload hC dX0_turns_8 4 rfl ?_
    refine g_callSU (n := 4) hC (f_X7_turns (kl K) E o far be no da) m2_183 m2_179 m1_157 m2_177 m1_6 m2_200 (by decide) (by decide +kernel) dX0_turns_10 [] [(o, .inr (2, []))] 0 2 rfl rfl (by decide) rfl (Nat.le_of_ble_eq_true rfl) rfl rfl rfl rfl rfl ?_
    refine g_if_eqB (tgt := 20) hC dX0_turns_13 (by decide) (fun h_13 => ?_) (fun h_13 => ?_)
    · refine g_iconst (v := (nI 0)) hC dX0_turns_20 (by decide) ?_
      exact g_val (bI_0e (by rw [h_1, h_13]; rfl)) (g_ws (rfl) (hR _ _ dX0_turns_21))
    · refine g_iconst (v := (nI 1)) hC dX0_turns_16 (by decide) ?_
      refine g_goto (tgt := 21) hC dX0_turns_17 (by decide) ?_
      exact g_val (bI_1e (by rw [h_1, h_13]; rfl)) (g_ws (rfl) (hR _ _ dX0_turns_21))
set_option maxHeartbeats 4000000 in
set_option maxRecDepth 100000 in
theorem f_X3_turns (l : Launch) (E : Ew) (o : Nat) (far : Int32) (be : Bool) (no : Bool) (da : Int32)  : Fn l E 1 yX3_turns cX3_turns 5 (some .boolean) [.ref o, .int far, .int (bI be), .int (bI no), .int da] [(o, .inr (3, []))] (some (.int (bI (decide (far + nI 2 ≤ 3))))) [(o, .inr (3, []))] := by
  refine fn_Z (by decide) (Nat.le_of_ble_eq_true rfl) rfl (nar_bI _) ?_
  intro K hC hR
  show G K E 5 [(o, .inr (3, []))] [(0, .ref o), (1, .int far), (2, .int (bI be)), (3, .int (bI no)), (4, .int da)] 0 []
  refine g_aload_n hC dX3_turns_0 rfl 0 rfl ?_
  refine g_iload_n hC dX3_turns_1 rfl 1 rfl ?_
  refine g_iconst (v := (nI 2)) hC dX3_turns_2 (by decide) ?_
  refine g_iadd hC dX3_turns_3 ?_
  refine g_iload_n hC dX3_turns_4 rfl 2 rfl ?_
  refine g_iload_n hC dX3_turns_5 rfl 3 rfl ?_
  refine g_iload hC dX3_turns_6 4 rfl ?_
  refine g_callSU (n := 4) hC (f_X7_turns (kl K) E o (far + (nI 2)) be no da) m2_195 m2_179 m1_164 m2_177 m1_6 m2_200 (by decide) (by decide +kernel) dX3_turns_8 [] [(o, .inr (3, []))] 0 3 rfl rfl (by decide) rfl (Nat.le_of_ble_eq_true rfl) rfl rfl rfl rfl rfl ?_
  exact g_val (rfl) (g_ws (rfl) (hR _ _ dX3_turns_11))
set_option maxHeartbeats 4000000 in
set_option maxRecDepth 100000 in
theorem f_X1_turns (l : Launch) (E : Ew) (o : Nat) (far : Int32) (be : Bool) (no : Bool) (da : Int32)  : Fn l E 1 yX1_turns cX1_turns 5 (some .boolean) [.ref o, .int far, .int (bI be), .int (bI no), .int da] [(o, .inr (1, []))] (some (.int (bI (decide (far - nI 3 ≤ 3))))) [(o, .inr (1, []))] := by
  refine fn_Z (by decide) (Nat.le_of_ble_eq_true rfl) rfl (nar_bI _) ?_
  intro K hC hR
  show G K E 5 [(o, .inr (1, []))] [(0, .ref o), (1, .int far), (2, .int (bI be)), (3, .int (bI no)), (4, .int da)] 0 []
  refine g_aload_n hC dX1_turns_0 rfl 0 rfl ?_
  refine g_iload_n hC dX1_turns_1 rfl 1 rfl ?_
  refine g_iconst (v := (nI 3)) hC dX1_turns_2 (by decide) ?_
  refine g_isub hC dX1_turns_3 ?_
  refine g_iload_n hC dX1_turns_4 rfl 2 rfl ?_
  refine g_iload_n hC dX1_turns_5 rfl 3 rfl ?_
  refine g_iload hC dX1_turns_6 4 rfl ?_
  refine g_callSU (n := 4) hC (f_X7_turns (kl K) E o (far - (nI 3)) be no da) m2_187 m2_179 m1_171 m2_177 m1_6 m2_200 (by decide) (by decide +kernel) dX1_turns_8 [] [(o, .inr (1, []))] 0 1 rfl rfl (by decide) rfl (Nat.le_of_ble_eq_true rfl) rfl rfl rfl rfl rfl ?_
  exact g_val (rfl) (g_ws (rfl) (hR _ _ dX1_turns_11))
set_option maxHeartbeats 4000000 in
set_option maxRecDepth 100000 in
theorem f_X1_turns_s (l : Launch) (E : Ew) (o : Nat) (far : Int32) (be : Bool) (no : Bool) (da : Int32)  : Fn l E 1 yX1_turns cX1_turns 5 (some .boolean) [.ref o, .int far, .int (bI be), .int (bI no), .int da] [(o, .inr (9, []))] (some (.int (bI (decide (far - nI 3 ≤ 3))))) [(o, .inr (9, []))] := by
  refine fn_Z (by decide) (Nat.le_of_ble_eq_true rfl) rfl (nar_bI _) ?_
  intro K hC hR
  show G K E 5 [(o, .inr (9, []))] [(0, .ref o), (1, .int far), (2, .int (bI be)), (3, .int (bI no)), (4, .int da)] 0 []
  refine g_aload_n hC dX1_turns_0 rfl 0 rfl ?_
  refine g_iload_n hC dX1_turns_1 rfl 1 rfl ?_
  refine g_iconst (v := (nI 3)) hC dX1_turns_2 (by decide) ?_
  refine g_isub hC dX1_turns_3 ?_
  refine g_iload_n hC dX1_turns_4 rfl 2 rfl ?_
  refine g_iload_n hC dX1_turns_5 rfl 3 rfl ?_
  refine g_iload hC dX1_turns_6 4 rfl ?_
  refine g_callSU (n := 4) hC (f_X7_turns (kl K) E o (far - (nI 3)) be no da) m2_187 m2_179 m1_171 m2_177 m1_6 m2_200 (by decide) (by decide +kernel) dX1_turns_8 [] [(o, .inr (9, []))] 0 9 rfl rfl (by decide) rfl (Nat.le_of_ble_eq_true rfl) rfl rfl rfl rfl rfl ?_
  exact g_val (rfl) (g_ws (rfl) (hR _ _ dX1_turns_11))
set_option maxHeartbeats 4000000 in
set_option maxRecDepth 100000 in
theorem f_X9_turns (l : Launch) (E : Ew) (o : Nat) (far : Int32) (be : Bool) (no : Bool) (da : Int32)  : Fn l E 2 yX9_turns cX9_turns 5 (some .boolean) [.ref o, .int far, .int (bI be), .int (bI no), .int da] [(o, .inr (9, []))] (some (.int (bI (evn da && decide (far - nI 3 ≤ 3))))) [(o, .inr (9, []))] := by
  refine fn_Z (by decide) (Nat.le_of_ble_eq_true rfl) rfl (nar_bI _) ?_
  intro K hC hR
  show G K E 5 [(o, .inr (9, []))] [(0, .ref o), (1, .int far), (2, .int (bI be)), (3, .int (bI no)), (4, .int da)] 0 []
  refine g_iload hC dX9_turns_0 4 rfl ?_
  refine g_iconst (v := (nI 2)) hC dX9_turns_2 (by decide) ?_
  refine g_irem hC dX9_turns_3 (by decide) ?_
  refine g_val (v' := .int (da - da / 2 * 2)) (rfl) ?_
  refine g_if_ne (tgt := 23) hC dX9_turns_4 (by decide) (fun h_4 => ?_) (fun h_4 => ?_)
  · refine g_iconst (v := (nI 0)) hC dX9_turns_23 (by decide) ?_
    exact g_val (bI_0e (by simp [evn, h_4])) (g_ws (rfl) (hR _ _ dX9_turns_24))
  · refine g_aload_n hC dX9_turns_7 rfl 0 rfl ?_
    refine g_iload_n hC dX9_turns_8 rfl 1 rfl ?_
    refine g_iload_n hC dX9_turns_9 rfl 2 rfl ?_
    refine g_iload_n hC dX9_turns_10 rfl 3 rfl ?_
    refine g_iload hC dX9_turns_11 4 rfl ?_
    refine g_callSU (n := 4) hC (f_X1_turns_s (kl K) E o far be no da) m2_199 m5_87 m1_178 m2_185 m1_9 m2_186 (by decide) (by decide +kernel) dX9_turns_13 [0] [(o, .inr (9, []))] 0 9 rfl rfl (by decide) rfl (Nat.le_of_ble_eq_true rfl) rfl rfl rfl rfl rfl ?_
    refine g_if_eqB (tgt := 23) hC dX9_turns_16 (by decide) (fun h_16 => ?_) (fun h_16 => ?_)
    · refine g_iconst (v := (nI 0)) hC dX9_turns_23 (by decide) ?_
      exact g_val (bI_0e (by rw [h_16]; simp)) (g_ws (rfl) (hR _ _ dX9_turns_24))
    · refine g_iconst (v := (nI 1)) hC dX9_turns_19 (by decide) ?_
      refine g_goto (tgt := 24) hC dX9_turns_20 (by decide) ?_
      exact g_val (bI_1e (by rw [h_16]; simp [evn, h_4])) (g_ws (rfl) (hR _ _ dX9_turns_24))
set_option maxHeartbeats 4000000 in
set_option maxRecDepth 100000 in
theorem f_X2_turns (l : Launch) (E : Ew) (o : Nat) (far : Int32) (be : Bool) (no : Bool) (da : Int32)  : Fn l E 2 yX2_turns cX2_turns 5 (some .boolean) [.ref o, .int far, .int (bI be), .int (bI no), .int da] [(o, .inr (2, []))] (some (.int (bI ((be && decide (far ≤ 3)) || (no && decide (far ≤ 6)))))) [(o, .inr (2, []))] := by
  refine fn_Z (by decide) (Nat.le_of_ble_eq_true rfl) rfl (nar_bI _) ?_
  intro K hC hR
  show G K E 5 [(o, .inr (2, []))] [(0, .ref o), (1, .int far), (2, .int (bI be)), (3, .int (bI no)), (4, .int da)] 0 []
  refine g_aload_n hC dX2_turns_0 rfl 0 rfl ?_
  refine g_iload_n hC dX2_turns_1 rfl 1 rfl ?_
  refine g_iload_n hC dX2_turns_2 rfl 2 rfl ?_
  refine g_iload_n hC dX2_turns_3 rfl 3 rfl ?_
  refine g_iload hC dX2_turns_4 4 rfl ?_
  refine g_callSU (n := 4) hC (f_X0_turns_c (kl K) E o far be no da) m2_191 m5_86 m1_185 m2_181 m1_7 m2_182 (by decide) (by decide +kernel) dX2_turns_6 [0] [(o, .inr (2, []))] 0 2 rfl rfl (by decide) rfl (Nat.le_of_ble_eq_true rfl) rfl rfl rfl rfl rfl ?_
  refine g_if_neB (tgt := 22) hC dX2_turns_9 (by decide) (fun h_9 => ?_) (fun h_9 => ?_)
  · refine g_iconst (v := (nI 1)) hC dX2_turns_22 (by decide) ?_
    refine g_goto (tgt := 27) hC dX2_turns_23 (by decide) ?_
    exact g_val (bI_1e (by rw [h_9]; rfl)) (g_ws (rfl) (hR _ _ dX2_turns_27))
  · refine g_iload_n hC dX2_turns_12 rfl 3 rfl ?_
    refine g_if_eqB (tgt := 26) hC dX2_turns_13 (by decide) (fun h_13 => ?_) (fun h_13 => ?_)
    · refine g_iconst (v := (nI 0)) hC dX2_turns_26 (by decide) ?_
      exact g_val (bI_0e (by rw [h_9, h_13]; rfl)) (g_ws (rfl) (hR _ _ dX2_turns_27))
    · refine g_iload_n hC dX2_turns_16 rfl 1 rfl ?_
      refine g_bipush (v := (nI 6)) hC dX2_turns_17 (by decide) ?_
      refine g_icmp_gt (tgt := 26) hC dX2_turns_19 (by decide) (fun h_19 => ?_) (fun h_19 => ?_)
      · refine g_iconst (v := (nI 0)) hC dX2_turns_26 (by decide) ?_
        exact g_val (bI_0e (by rw [h_9, h_13, decide_eq_false (show ¬ far ≤ 6 from Int32.not_le.mpr h_19)]; rfl)) (g_ws (rfl) (hR _ _ dX2_turns_27))
      · refine g_iconst (v := (nI 1)) hC dX2_turns_22 (by decide) ?_
        refine g_goto (tgt := 27) hC dX2_turns_23 (by decide) ?_
        exact g_val (bI_1e (by rw [h_9, h_13, decide_eq_true (show far ≤ 6 from Int32.not_lt.mp h_19)]; rfl)) (g_ws (rfl) (hR _ _ dX2_turns_27))
