/-- the literal i at the token behind p -/
def cspl (T : Nat → Nat) (L p i : Nat) : Bool := decide (tY T L p = 1) && decide (tE T L p - tA T L p = kL.getD i 0) && spF T (tA T L p) (kcc i) (kL.getD i 0)
theorem tK_1 {T : Nat → Nat} {L p : Nat} : decide (tK T L p = 1) = decide (tY T L p = 1) := by
  unfold tK
  by_cases h : tY T L p = 2 ∧ 2 < tE T L p - tA T L p
  · rw [if_pos h, h.1]; rfl
  · rw [if_neg h]
theorem spF_cong {T : Nat → Nat} {p : Nat} {w w' : Nat → Nat} : ∀ {k : Nat}, (∀ j, j < k → w j = w' j) → spF T p w k = spF T p w' k
  | 0, _ => rfl
  | k + 1, h => by rw [spF, spF, spF_cong (fun j hj => h j (by omega)), h k (by omega)]
theorem cspl_0 {T : Nat → Nat} {L p : Nat} : cspl T L p 0 = isHam T L p := by
  unfold cspl isHam spl
  rw [tK_1]
  rw [show kL.getD 0 0 = 6 from rfl]
  rw [spF_cong (w' := w6 104 97 109 108 101 116) (by decide)]
theorem cspl_1 {T : Nat → Nat} {L p : Nat} : cspl T L p 1 = isOnW T L p := by
  unfold cspl isOnW spl
  rw [tK_1]
  rw [show kL.getD 1 0 = 3 from rfl]
  rw [spF_cong (w' := w6 111 110 101 0 0 0) (by decide)]
theorem cspl_2 {T : Nat → Nat} {L p : Nat} : cspl T L p 2 = isBea T L p := by
  unfold cspl isBea spl
  rw [tK_1]
  rw [show kL.getD 2 0 = 5 from rfl]
  rw [spF_cong (w' := w6 98 101 97 114 115 0) (by decide)]
theorem cspl_3 {T : Nat → Nat} {L p : Nat} : cspl T L p 3 = isNon T L p := by
  unfold cspl isNon spl
  rw [tK_1]
  rw [show kL.getD 3 0 = 4 from rfl]
  rw [spF_cong (w' := w6 110 111 110 101 0 0) (by decide)]
theorem tY_le (T : Nat → Nat) (L i : Nat) : tY T L i ≤ 4 := by
  unfold tY
  split
  · exact (so_in _).2
  · omega
theorem tY_lt {T : Nat → Nat} {L i : Nat} (h : tY T L i ≠ 0) : tA T L i < L ∧ tY T L i = so (T (tA T L i)) := by
  unfold tY at *
  split at h
  · rename_i q; exact ⟨q, by rw [if_pos q]⟩
  · exact absurd rfl h
theorem tK_2 {T : Nat → Nat} {L i : Nat} : tK T L i = 2 ↔ tY T L i = 2 ∧ tE T L i - tA T L i ≤ 2 := by
  unfold tK
  by_cases h : tY T L i = 2 ∧ 2 < tE T L i - tA T L i
  · rw [if_pos h]; omega
  · rw [if_neg h]; omega
theorem adv_run {T : Nat → Nat} {L p s0 e0 : Nat} (hs : s0 = tY T L p) (he : tA T L p < L ∧ e0 = tA T L p + 1 ∨ L ≤ tA T L p ∧ e0 = tA T L p) (h1 : 0 < s0) (h2 : s0 < 3) : tA T L p < L ∧ tE T L p = ew (fun j => decide (so (T j) = so (T (tA T L p)))) L e0 := by
  obtain ⟨hl, hy⟩ := tY_lt (T := T) (L := L) (i := p) (by omega)
  refine ⟨hl, ?_⟩
  unfold tE
  rw [if_pos hl, if_pos (by omega), show e0 = tA T L p + 1 by omega]
theorem adv_stop {T : Nat → Nat} {L p s0 e0 : Nat} (hs : s0 = tY T L p) (he : tA T L p < L ∧ e0 = tA T L p + 1 ∨ L ≤ tA T L p ∧ e0 = tA T L p) (h1 : s0 ≠ 1) (h2 : s0 ≠ 2) : tE T L p = e0 := by
  unfold tE
  by_cases hl : tA T L p < L
  · have hy : tY T L p = so (T (tA T L p)) := by unfold tY; rw [if_pos hl]
    have := so_in (T (tA T L p))
    rw [if_pos hl, if_neg (by omega)]; omega
  · rw [if_neg hl]; omega
theorem isw_no {T : Nat → Nat} {p i k M : Nat} (hf : spF T p (kcc i) k = true) (h : T (p + k) ≠ kcc i k) (hk : k < M) : spF T p (kcc i) M = false := by
  obtain ⟨m, rfl⟩ := Nat.exists_eq_add_of_le (show k + 1 ≤ M from hk)
  exact spF_no (by rw [spF, hf]; simp [h]) m
theorem dvs_eq {T : Nat → Nat} {p k : Nat} (h : 48 ≤ T (p + k) ∧ T (p + k) ≤ 57) : dv T p (k + 1) = 10 * dv T p k + (T (p + k) - 48) := by rw [dv]; omega
theorem nn_val {T : Nat → Nat} {L p k : Nat} (hlt : tA T L p < L) (h : tY T L p = 2) (h2 : tE T L p - tA T L p ≤ 2) (hk : tA T L p + k = tE T L p) : dv T (tA T L p) k = tV T L p := by
  have hg := tE_gt hlt
  unfold tV
  rw [if_pos h, show tE T L p - tA T L p = k by omega]
  rcases (show k = 1 ∨ k = 2 by omega) with rfl | rfl <;> rfl

set_option maxHeartbeats 4000000 in
set_option maxRecDepth 100000 in
theorem f_X10_append (l : Launch) (E : Ew) (x : Nat → Nat) (sr : Int32) (sa : Int32) (en : Int32) (vl : Int32) (T : Nat → Nat) (L : Nat) (c : Nat) (hL : L < 150) (hc : c < 128) : Fn l E 0 yX10_append cX10_append 2 none [.ref (x 4), .int (nI c)] [(x 4, .inr (10, oT x (nI L) sr sa en vl)), (x 5, .inl (E.2.1 1, 150, .inl (nf T)))] none [(x 4, .inr (10, oT x (nI (L + 1)) sr sa en vl)), (x 5, .inl (E.2.1 1, 150, .inl (nf (un T L c))))] := by
  refine fn_V (by decide) (Nat.le_of_ble_eq_true rfl) rfl ?_
  intro K hC hR
  show G K E 2 [(x 4, .inr (10, oT x (nI L) sr sa en vl)), (x 5, .inl (E.2.1 1, 150, .inl (nf T)))] [(0, .ref (x 4)), (1, .int (nI c))] 0 []
  refine g_aload_n hC dX10_append_0 rfl 0 rfl ?_
  refine g_get hC 0 10 1 inX10 m1_100 dX10_append_1 rfl rfl (by decide) rfl ?_
  refine g_sipush (v := (nI 150)) hC dX10_append_4 (by decide) ?_
  refine g_icmp_geN (tgt := 31) hC dX10_append_7 (by decide) (by omega) (by omega) (fun h_7 => ?_) (fun h_7 => ?_)
  · omega
  · refine g_aload_n hC dX10_append_10 rfl 0 rfl ?_
    refine g_get hC 0 10 0 inX10 m1_99 dX10_append_11 rfl rfl (by decide) rfl ?_
    refine g_aload_n hC dX10_append_14 rfl 0 rfl ?_
    refine g_get hC 0 10 1 inX10 m1_100 dX10_append_15 rfl rfl (by decide) rfl ?_
    refine g_iload_n hC dX10_append_18 rfl 1 rfl ?_
    refine g_i2b hC dX10_append_19 ?_
    refine g_val (v' := .int (nI c)) (by rw [fa_byte_small hc]) ?_
    refine g_bastN hC 1 [(x 4, .inr (10, oT x (nI L) sr sa en vl)), (x 5, .inl (E.2.1 1, 150, .inl (upd (nf T) L (vp_nar .byte (nI c)))))] dX10_append_20 rfl (by decide) (by omega) rfl ?_
    refine g_ws (ws' := [(x 4, .inr (10, oT x (nI L) sr sa en vl)), (x 5, .inl (E.2.1 1, 150, .inl (nf (un T L c))))]) (by rw [nf_u T L c, vp_nar_byte, fa_byte_small hc]) ?_
    refine g_aload_n hC dX10_append_21 rfl 0 rfl ?_
    refine g_dup hC dX10_append_22 rfl ?_
    refine g_get hC 0 10 1 inX10 m1_100 dX10_append_23 rfl rfl (by decide) rfl ?_
    refine g_iconst (v := (nI 1)) hC dX10_append_26 (by decide) ?_
    refine g_iaddN hC dX10_append_27 ?_
    refine g_put hC 0 10 1 [(x 4, .inr (10, oT x (nI (L + 1)) sr sa en vl)), (x 5, .inl (E.2.1 1, 150, .inl (nf (un T L c))))] .int inX10 tyX10_ok nmX10 m1_100 dX10_append_28 rfl rfl (by decide) rfl (by decide +kernel) rfl rfl (Nat.le_of_ble_eq_true rfl) rfl ?_
    exact g_ws (rfl) (hR _ _ dX10_append_31)
set_option maxHeartbeats 4000000 in
set_option maxRecDepth 100000 in
theorem f_X10_sortOf (l : Launch) (E : Ew) (c : Nat) (hc : c < 128) : Fn l E 0 yX10_sortOf cX10_sortOf 1 (some .int) [.int (nI c)] [] (some (.int (nI (so c)))) [] := by
  refine fn_I (by decide) (Nat.le_of_ble_eq_true rfl) rfl ?_
  intro K hC hR
  show G K E 1 [] [(0, .int (nI c))] 0 []
  refine g_iload_n hC dX10_sortOf_0 rfl 0 rfl ?_
  refine g_bipush (v := (nI 97)) hC dX10_sortOf_1 (by decide) ?_
  refine g_icmp_ltN (tgt := 14) hC dX10_sortOf_3 (by decide) (by omega) (by omega) (fun h_3 => ?_) (fun h_3 => ?_)
  · refine g_iload_n hC dX10_sortOf_14 rfl 0 rfl ?_
    refine g_bipush (v := (nI 48)) hC dX10_sortOf_15 (by decide) ?_
    refine g_icmp_ltN (tgt := 28) hC dX10_sortOf_17 (by decide) (by omega) (by omega) (fun h_17 => ?_) (fun h_17 => ?_)
    · refine g_iload_n hC dX10_sortOf_28 rfl 0 rfl ?_
      refine g_bipush (v := (nI 59)) hC dX10_sortOf_29 (by decide) ?_
      refine g_icmp_neN (tgt := 38) hC dX10_sortOf_31 (by decide) (by omega) (by omega) (fun h_31 => ?_) (fun h_31 => ?_)
      · refine g_iconst (v := (nI 4)) hC dX10_sortOf_38 (by decide) ?_
        exact g_val (by unfold so; rw [if_neg (by omega), if_neg (by omega), if_neg h_31]) (g_ws (rfl) (hR _ _ dX10_sortOf_39))
      · refine g_iconst (v := (nI 3)) hC dX10_sortOf_34 (by decide) ?_
        refine g_goto (tgt := 39) hC dX10_sortOf_35 (by decide) ?_
        exact g_val (by unfold so; rw [if_neg (by omega), if_neg (by omega), if_pos h_31]) (g_ws (rfl) (hR _ _ dX10_sortOf_39))
    · refine g_iload_n hC dX10_sortOf_20 rfl 0 rfl ?_
      refine g_bipush (v := (nI 57)) hC dX10_sortOf_21 (by decide) ?_
      refine g_icmp_gtN (tgt := 28) hC dX10_sortOf_23 (by decide) (by omega) (by omega) (fun h_23 => ?_) (fun h_23 => ?_)
      · refine g_iload_n hC dX10_sortOf_28 rfl 0 rfl ?_
        refine g_bipush (v := (nI 59)) hC dX10_sortOf_29 (by decide) ?_
        refine g_icmp_neN (tgt := 38) hC dX10_sortOf_31 (by decide) (by omega) (by omega) (fun h_31 => ?_) (fun h_31 => ?_)
        · refine g_iconst (v := (nI 4)) hC dX10_sortOf_38 (by decide) ?_
          exact g_val (by unfold so; rw [if_neg (by omega), if_neg (by omega), if_neg h_31]) (g_ws (rfl) (hR _ _ dX10_sortOf_39))
        · refine g_iconst (v := (nI 3)) hC dX10_sortOf_34 (by decide) ?_
          refine g_goto (tgt := 39) hC dX10_sortOf_35 (by decide) ?_
          exact g_val (by unfold so; rw [if_neg (by omega), if_neg (by omega), if_pos h_31]) (g_ws (rfl) (hR _ _ dX10_sortOf_39))
      · refine g_iconst (v := (nI 2)) hC dX10_sortOf_26 (by decide) ?_
        exact g_val (by unfold so; rw [if_neg (by omega), if_pos (by omega)]) (g_ws (rfl) (hR _ _ dX10_sortOf_27))
  · refine g_iload_n hC dX10_sortOf_6 rfl 0 rfl ?_
    refine g_bipush (v := (nI 122)) hC dX10_sortOf_7 (by decide) ?_
    refine g_icmp_gtN (tgt := 14) hC dX10_sortOf_9 (by decide) (by omega) (by omega) (fun h_9 => ?_) (fun h_9 => ?_)
    · refine g_iload_n hC dX10_sortOf_14 rfl 0 rfl ?_
      refine g_bipush (v := (nI 48)) hC dX10_sortOf_15 (by decide) ?_
      refine g_icmp_ltN (tgt := 28) hC dX10_sortOf_17 (by decide) (by omega) (by omega) (fun h_17 => ?_) (fun h_17 => ?_)
      · refine g_iload_n hC dX10_sortOf_28 rfl 0 rfl ?_
        refine g_bipush (v := (nI 59)) hC dX10_sortOf_29 (by decide) ?_
        refine g_icmp_neN (tgt := 38) hC dX10_sortOf_31 (by decide) (by omega) (by omega) (fun h_31 => ?_) (fun h_31 => ?_)
        · refine g_iconst (v := (nI 4)) hC dX10_sortOf_38 (by decide) ?_
          exact g_val (by unfold so; rw [if_neg (by omega), if_neg (by omega), if_neg h_31]) (g_ws (rfl) (hR _ _ dX10_sortOf_39))
        · refine g_iconst (v := (nI 3)) hC dX10_sortOf_34 (by decide) ?_
          refine g_goto (tgt := 39) hC dX10_sortOf_35 (by decide) ?_
          exact g_val (by unfold so; rw [if_neg (by omega), if_neg (by omega), if_pos h_31]) (g_ws (rfl) (hR _ _ dX10_sortOf_39))
      · refine g_iload_n hC dX10_sortOf_20 rfl 0 rfl ?_
        refine g_bipush (v := (nI 57)) hC dX10_sortOf_21 (by decide) ?_
        refine g_icmp_gtN (tgt := 28) hC dX10_sortOf_23 (by decide) (by omega) (by omega) (fun h_23 => ?_) (fun h_23 => ?_)
        · refine g_iload_n hC dX10_sortOf_28 rfl 0 rfl ?_
          refine g_bipush (v := (nI 59)) hC dX10_sortOf_29 (by decide) ?_
          refine g_icmp_neN (tgt := 38) hC dX10_sortOf_31 (by decide) (by omega) (by omega) (fun h_31 => ?_) (fun h_31 => ?_)
          · refine g_iconst (v := (nI 4)) hC dX10_sortOf_38 (by decide) ?_
            exact g_val (by unfold so; rw [if_neg (by omega), if_neg (by omega), if_neg h_31]) (g_ws (rfl) (hR _ _ dX10_sortOf_39))
          · refine g_iconst (v := (nI 3)) hC dX10_sortOf_34 (by decide) ?_
            refine g_goto (tgt := 39) hC dX10_sortOf_35 (by decide) ?_
            exact g_val (by unfold so; rw [if_neg (by omega), if_neg (by omega), if_pos h_31]) (g_ws (rfl) (hR _ _ dX10_sortOf_39))
        · refine g_iconst (v := (nI 2)) hC dX10_sortOf_26 (by decide) ?_
          exact g_val (by unfold so; rw [if_neg (by omega), if_pos (by omega)]) (g_ws (rfl) (hR _ _ dX10_sortOf_27))
    · refine g_iconst (v := (nI 1)) hC dX10_sortOf_12 (by decide) ?_
      exact g_val (by unfold so; rw [if_pos (by omega)]) (g_ws (rfl) (hR _ _ dX10_sortOf_13))
set_option maxHeartbeats 4000000 in
set_option maxRecDepth 100000 in
theorem f_X10_advance (l : Launch) (E : Ew) (x : Nat → Nat) (sr : Int32) (sa : Int32) (vl : Int32) (T : Nat → Nat) (L : Nat) (p : Nat) (hL : L ≤ 150) (hT : ∀ j, j < L → T j < 128) (hp : p ≤ L) : Fn l E 1 yX10_advance cX10_advance 2 none [.ref (x 4)] [(x 4, .inr (10, oT x (nI L) sr sa (nI p) vl)), (x 5, .inl (E.2.1 1, 150, .inl (nf T)))] none [(x 4, .inr (10, oT x (nI L) (nI (tY T L p)) (nI (tA T L p)) (nI (tE T L p)) vl)), (x 5, .inl (E.2.1 1, 150, .inl (nf T)))] := by
  refine fn_V (by decide) (Nat.le_of_ble_eq_true rfl) rfl ?_
  intro K hC hR
  show G K E 2 [(x 4, .inr (10, oT x (nI L) sr sa (nI p) vl)), (x 5, .inl (E.2.1 1, 150, .inl (nf T)))] [(0, .ref (x 4))] 0 []
  have hal := tA_le (T := T) hp
  have J_46 : G K E 2 [(x 4, .inr (10, oT x (nI L) sr (nI (tA T L p)) (nI p) vl)), (x 5, .inl (E.2.1 1, 150, .inl (nf T)))] [(0, .ref (x 4))] 46 [] := by
    have J_96 : ∀ (s0 : Nat) (e0 : Nat) (hs0 : s0 = tY T L p) (he0 : tA T L p < L ∧ e0 = tA T L p + 1 ∨ L ≤ tA T L p ∧ e0 = tA T L p), G K E 2 [(x 4, .inr (10, oT x (nI L) (nI s0) (nI (tA T L p)) (nI e0) vl)), (x 5, .inl (E.2.1 1, 150, .inl (nf T)))] [(0, .ref (x 4))] 96 [] := by
      intro s0 e0 hs0 he0
      have hsy := tY_le T L p
      refine g_aload_n hC dX10_advance_96 rfl 0 rfl ?_
      refine g_get hC 0 10 2 inX10 m1_102 dX10_advance_97 rfl rfl (by decide) rfl ?_
      refine g_iconst (v := (nI 1)) hC dX10_advance_100 (by decide) ?_
      refine g_icmp_eqN (tgt := 112) hC dX10_advance_101 (by decide) (by omega) (by omega) (fun h_101 => ?_) (fun h_101 => ?_)
      · refine g_iconst (v := (nI 1)) hC dX10_advance_112 (by decide) ?_
        refine g_goto (tgt := 117) hC dX10_advance_113 (by decide) ?_
        refine g_istore_n hC [(1, .int (nI 1)), (0, .ref (x 4))] dX10_advance_117 rfl (by decide) rfl ?_
        have L_118 : ∀ (fu : Nat) (rb : Bool) (e : Nat) (heL : e ≤ L) (hr1 : rb = true → tA T L p < L ∧ tE T L p = ew (fun j => decide (so (T j) = so (T (tA T L p)))) L e) (hr0 : rb = false → tE T L p = e), L - e < fu → G K E 2 [(x 4, .inr (10, oT x (nI L) (nI s0) (nI (tA T L p)) (nI e) vl)), (x 5, .inl (E.2.1 1, 150, .inl (nf T)))] [(1, .int (bI rb)), (0, .ref (x 4))] 118 [] := by
          intro fu
          induction fu with
          | zero => intro rb e heL hr1 hr0 hm_118; exact absurd hm_118 (Nat.not_lt_zero _)
          | succ fu ih_118 =>
            intro rb e heL hr1 hr0 hm_118
            refine g_iload_n hC dX10_advance_118 rfl 0 rfl ?_
            refine g_if_eqB (tgt := 165) hC dX10_advance_119 (by decide) (fun h_119 => ?_) (fun h_119 => ?_)
            · exact g_ws (by rw [← hs0, hr0 h_119]) (hR _ _ dX10_advance_165)
            · refine g_aload_n hC dX10_advance_122 rfl 1 rfl ?_
              refine g_get hC 0 10 4 inX10 m1_105 dX10_advance_123 rfl rfl (by decide) rfl ?_
              refine g_aload_n hC dX10_advance_126 rfl 1 rfl ?_
              refine g_get hC 0 10 1 inX10 m1_100 dX10_advance_127 rfl rfl (by decide) rfl ?_
              refine g_icmp_geN (tgt := 165) hC dX10_advance_130 (by decide) (by omega) (by omega) (fun h_130 => ?_) (fun h_130 => ?_)
              · exact g_ws (by rw [← hs0, (hr1 h_119).2, ew_stop (Or.inl h_130)]) (hR _ _ dX10_advance_165)
              · have hTe := hT _ h_130
                have hsl := so_in (T e)
                refine g_aload_n hC dX10_advance_133 rfl 1 rfl ?_
                refine g_get hC 0 10 0 inX10 m1_99 dX10_advance_134 rfl rfl (by decide) rfl ?_
                refine g_aload_n hC dX10_advance_137 rfl 1 rfl ?_
                refine g_get hC 0 10 4 inX10 m1_105 dX10_advance_138 rfl rfl (by decide) rfl ?_
                refine g_baldN hC 1 dX10_advance_141 rfl (by decide) (by omega) ?_
                refine g_val (v' := .int (nI (T e))) rfl ?_
                refine g_callS hC (f_X10_sortOf (kl K) E (T e) (hT _ (by omega))) wX10_sortOf m2_59 dX10_advance_142 [] [(x 4, .inr (10, oT x (nI L) (nI s0) (nI (tA T L p)) (nI e) vl)), (x 5, .inl (E.2.1 1, 150, .inl (nf T)))] (by decide) rfl (Nat.le_of_ble_eq_true rfl) rfl rfl rfl rfl rfl ?_
                refine g_aload_n hC dX10_advance_145 rfl 1 rfl ?_
                refine g_get hC 0 10 2 inX10 m1_102 dX10_advance_146 rfl rfl (by decide) rfl ?_
                refine g_icmp_neN (tgt := 165) hC dX10_advance_149 (by decide) (by omega) (by omega) (fun h_149 => ?_) (fun h_149 => ?_)
                · exact g_ws (by rw [← hs0, (hr1 h_119).2, ew_stop (Or.inr (by simp only [decide_eq_false_iff_not]; rw [← (tY_lt (by have := (hr1 h_119).1; unfold tY; rw [if_pos this]; have := so_in (T (tA T L p)); omega)).2, ← hs0]; exact h_149))]) (hR _ _ dX10_advance_165)
                · refine g_aload_n hC dX10_advance_152 rfl 1 rfl ?_
                  refine g_dup hC dX10_advance_153 rfl ?_
                  refine g_get hC 0 10 4 inX10 m1_105 dX10_advance_154 rfl rfl (by decide) rfl ?_
                  refine g_iconst (v := (nI 1)) hC dX10_advance_157 (by decide) ?_
                  refine g_iaddN hC dX10_advance_158 ?_
                  refine g_put hC 0 10 4 [(x 4, .inr (10, oT x (nI L) (nI s0) (nI (tA T L p)) (nI (e + 1)) vl)), (x 5, .inl (E.2.1 1, 150, .inl (nf T)))] .int inX10 tyX10_ok nmX10 m1_105 dX10_advance_159 rfl rfl (by decide) rfl (by decide +kernel) rfl rfl (Nat.le_of_ble_eq_true rfl) rfl ?_
                  refine g_goto (tgt := 118) hC dX10_advance_162 (by decide) ?_
                  refine g_lv (lv' := [(1, .int (bI rb)), (0, .ref (x 4))]) [0, 1] rfl ?_
                  exact ih_118 rb (e + 1) (by omega) (fun h => ⟨(hr1 h).1, by rw [(hr1 h).2, ew_go h_130 (by simp only [decide_eq_true_eq]; rw [← (tY_lt (by have := (hr1 h).1; unfold tY; rw [if_pos this]; have := so_in (T (tA T L p)); omega)).2, ← hs0]; exact h_149)]⟩) (fun h => absurd h (by rw [h_119]; decide)) (by omega)
        refine g_lv (lv' := [(1, .int (nI 1)), (0, .ref (x 4))]) [0, 1] rfl ?_
        exact L_118 ((L - e0) + 1) true e0 (by omega) (fun _ => adv_run hs0 he0 (by omega) (by omega)) (fun h => by cases h) (Nat.lt_succ_self _)
      · refine g_aload_n hC dX10_advance_104 rfl 0 rfl ?_
        refine g_get hC 0 10 2 inX10 m1_102 dX10_advance_105 rfl rfl (by decide) rfl ?_
        refine g_iconst (v := (nI 2)) hC dX10_advance_108 (by decide) ?_
        refine g_icmp_neN (tgt := 116) hC dX10_advance_109 (by decide) (by omega) (by omega) (fun h_109 => ?_) (fun h_109 => ?_)
        · refine g_iconst (v := (nI 0)) hC dX10_advance_116 (by decide) ?_
          refine g_istore_n hC [(1, .int (nI 0)), (0, .ref (x 4))] dX10_advance_117 rfl (by decide) rfl ?_
          have L_118 : ∀ (fu : Nat) (rb : Bool) (e : Nat) (heL : e ≤ L) (hr1 : rb = true → tA T L p < L ∧ tE T L p = ew (fun j => decide (so (T j) = so (T (tA T L p)))) L e) (hr0 : rb = false → tE T L p = e), L - e < fu → G K E 2 [(x 4, .inr (10, oT x (nI L) (nI s0) (nI (tA T L p)) (nI e) vl)), (x 5, .inl (E.2.1 1, 150, .inl (nf T)))] [(1, .int (bI rb)), (0, .ref (x 4))] 118 [] := by
            intro fu
            induction fu with
            | zero => intro rb e heL hr1 hr0 hm_118; exact absurd hm_118 (Nat.not_lt_zero _)
            | succ fu ih_118 =>
              intro rb e heL hr1 hr0 hm_118
              refine g_iload_n hC dX10_advance_118 rfl 0 rfl ?_
              refine g_if_eqB (tgt := 165) hC dX10_advance_119 (by decide) (fun h_119 => ?_) (fun h_119 => ?_)
              · exact g_ws (by rw [← hs0, hr0 h_119]) (hR _ _ dX10_advance_165)
              · refine g_aload_n hC dX10_advance_122 rfl 1 rfl ?_
                refine g_get hC 0 10 4 inX10 m1_105 dX10_advance_123 rfl rfl (by decide) rfl ?_
                refine g_aload_n hC dX10_advance_126 rfl 1 rfl ?_
                refine g_get hC 0 10 1 inX10 m1_100 dX10_advance_127 rfl rfl (by decide) rfl ?_
                refine g_icmp_geN (tgt := 165) hC dX10_advance_130 (by decide) (by omega) (by omega) (fun h_130 => ?_) (fun h_130 => ?_)
                · exact g_ws (by rw [← hs0, (hr1 h_119).2, ew_stop (Or.inl h_130)]) (hR _ _ dX10_advance_165)
                · have hTe := hT _ h_130
                  have hsl := so_in (T e)
                  refine g_aload_n hC dX10_advance_133 rfl 1 rfl ?_
                  refine g_get hC 0 10 0 inX10 m1_99 dX10_advance_134 rfl rfl (by decide) rfl ?_
                  refine g_aload_n hC dX10_advance_137 rfl 1 rfl ?_
                  refine g_get hC 0 10 4 inX10 m1_105 dX10_advance_138 rfl rfl (by decide) rfl ?_
                  refine g_baldN hC 1 dX10_advance_141 rfl (by decide) (by omega) ?_
                  refine g_val (v' := .int (nI (T e))) rfl ?_
                  refine g_callS hC (f_X10_sortOf (kl K) E (T e) (hT _ (by omega))) wX10_sortOf m2_59 dX10_advance_142 [] [(x 4, .inr (10, oT x (nI L) (nI s0) (nI (tA T L p)) (nI e) vl)), (x 5, .inl (E.2.1 1, 150, .inl (nf T)))] (by decide) rfl (Nat.le_of_ble_eq_true rfl) rfl rfl rfl rfl rfl ?_
                  refine g_aload_n hC dX10_advance_145 rfl 1 rfl ?_
                  refine g_get hC 0 10 2 inX10 m1_102 dX10_advance_146 rfl rfl (by decide) rfl ?_
                  refine g_icmp_neN (tgt := 165) hC dX10_advance_149 (by decide) (by omega) (by omega) (fun h_149 => ?_) (fun h_149 => ?_)
                  · exact g_ws (by rw [← hs0, (hr1 h_119).2, ew_stop (Or.inr (by simp only [decide_eq_false_iff_not]; rw [← (tY_lt (by have := (hr1 h_119).1; unfold tY; rw [if_pos this]; have := so_in (T (tA T L p)); omega)).2, ← hs0]; exact h_149))]) (hR _ _ dX10_advance_165)
                  · refine g_aload_n hC dX10_advance_152 rfl 1 rfl ?_
                    refine g_dup hC dX10_advance_153 rfl ?_
                    refine g_get hC 0 10 4 inX10 m1_105 dX10_advance_154 rfl rfl (by decide) rfl ?_
                    refine g_iconst (v := (nI 1)) hC dX10_advance_157 (by decide) ?_
                    refine g_iaddN hC dX10_advance_158 ?_
                    refine g_put hC 0 10 4 [(x 4, .inr (10, oT x (nI L) (nI s0) (nI (tA T L p)) (nI (e + 1)) vl)), (x 5, .inl (E.2.1 1, 150, .inl (nf T)))] .int inX10 tyX10_ok nmX10 m1_105 dX10_advance_159 rfl rfl (by decide) rfl (by decide +kernel) rfl rfl (Nat.le_of_ble_eq_true rfl) rfl ?_
                    refine g_goto (tgt := 118) hC dX10_advance_162 (by decide) ?_
                    refine g_lv (lv' := [(1, .int (bI rb)), (0, .ref (x 4))]) [0, 1] rfl ?_
                    exact ih_118 rb (e + 1) (by omega) (fun h => ⟨(hr1 h).1, by rw [(hr1 h).2, ew_go h_130 (by simp only [decide_eq_true_eq]; rw [← (tY_lt (by have := (hr1 h).1; unfold tY; rw [if_pos this]; have := so_in (T (tA T L p)); omega)).2, ← hs0]; exact h_149)]⟩) (fun h => absurd h (by rw [h_119]; decide)) (by omega)
          refine g_lv (lv' := [(1, .int (nI 0)), (0, .ref (x 4))]) [0, 1] rfl ?_
          exact L_118 ((L - e0) + 1) false e0 (by omega) (fun h => by cases h) (fun _ => adv_stop hs0 he0 (by omega) (by omega)) (Nat.lt_succ_self _)
        · refine g_iconst (v := (nI 1)) hC dX10_advance_112 (by decide) ?_
          refine g_goto (tgt := 117) hC dX10_advance_113 (by decide) ?_
          refine g_istore_n hC [(1, .int (nI 1)), (0, .ref (x 4))] dX10_advance_117 rfl (by decide) rfl ?_
          have L_118 : ∀ (fu : Nat) (rb : Bool) (e : Nat) (heL : e ≤ L) (hr1 : rb = true → tA T L p < L ∧ tE T L p = ew (fun j => decide (so (T j) = so (T (tA T L p)))) L e) (hr0 : rb = false → tE T L p = e), L - e < fu → G K E 2 [(x 4, .inr (10, oT x (nI L) (nI s0) (nI (tA T L p)) (nI e) vl)), (x 5, .inl (E.2.1 1, 150, .inl (nf T)))] [(1, .int (bI rb)), (0, .ref (x 4))] 118 [] := by
            intro fu
            induction fu with
            | zero => intro rb e heL hr1 hr0 hm_118; exact absurd hm_118 (Nat.not_lt_zero _)
            | succ fu ih_118 =>
              intro rb e heL hr1 hr0 hm_118
              refine g_iload_n hC dX10_advance_118 rfl 0 rfl ?_
              refine g_if_eqB (tgt := 165) hC dX10_advance_119 (by decide) (fun h_119 => ?_) (fun h_119 => ?_)
              · exact g_ws (by rw [← hs0, hr0 h_119]) (hR _ _ dX10_advance_165)
              · refine g_aload_n hC dX10_advance_122 rfl 1 rfl ?_
                refine g_get hC 0 10 4 inX10 m1_105 dX10_advance_123 rfl rfl (by decide) rfl ?_
                refine g_aload_n hC dX10_advance_126 rfl 1 rfl ?_
                refine g_get hC 0 10 1 inX10 m1_100 dX10_advance_127 rfl rfl (by decide) rfl ?_
                refine g_icmp_geN (tgt := 165) hC dX10_advance_130 (by decide) (by omega) (by omega) (fun h_130 => ?_) (fun h_130 => ?_)
                · exact g_ws (by rw [← hs0, (hr1 h_119).2, ew_stop (Or.inl h_130)]) (hR _ _ dX10_advance_165)
                · have hTe := hT _ h_130
                  have hsl := so_in (T e)
                  refine g_aload_n hC dX10_advance_133 rfl 1 rfl ?_
                  refine g_get hC 0 10 0 inX10 m1_99 dX10_advance_134 rfl rfl (by decide) rfl ?_
                  refine g_aload_n hC dX10_advance_137 rfl 1 rfl ?_
                  refine g_get hC 0 10 4 inX10 m1_105 dX10_advance_138 rfl rfl (by decide) rfl ?_
                  refine g_baldN hC 1 dX10_advance_141 rfl (by decide) (by omega) ?_
                  refine g_val (v' := .int (nI (T e))) rfl ?_
                  refine g_callS hC (f_X10_sortOf (kl K) E (T e) (hT _ (by omega))) wX10_sortOf m2_59 dX10_advance_142 [] [(x 4, .inr (10, oT x (nI L) (nI s0) (nI (tA T L p)) (nI e) vl)), (x 5, .inl (E.2.1 1, 150, .inl (nf T)))] (by decide) rfl (Nat.le_of_ble_eq_true rfl) rfl rfl rfl rfl rfl ?_
                  refine g_aload_n hC dX10_advance_145 rfl 1 rfl ?_
                  refine g_get hC 0 10 2 inX10 m1_102 dX10_advance_146 rfl rfl (by decide) rfl ?_
                  refine g_icmp_neN (tgt := 165) hC dX10_advance_149 (by decide) (by omega) (by omega) (fun h_149 => ?_) (fun h_149 => ?_)
                  · exact g_ws (by rw [← hs0, (hr1 h_119).2, ew_stop (Or.inr (by simp only [decide_eq_false_iff_not]; rw [← (tY_lt (by have := (hr1 h_119).1; unfold tY; rw [if_pos this]; have := so_in (T (tA T L p)); omega)).2, ← hs0]; exact h_149))]) (hR _ _ dX10_advance_165)
                  · refine g_aload_n hC dX10_advance_152 rfl 1 rfl ?_
                    refine g_dup hC dX10_advance_153 rfl ?_
                    refine g_get hC 0 10 4 inX10 m1_105 dX10_advance_154 rfl rfl (by decide) rfl ?_
                    refine g_iconst (v := (nI 1)) hC dX10_advance_157 (by decide) ?_
                    refine g_iaddN hC dX10_advance_158 ?_
                    refine g_put hC 0 10 4 [(x 4, .inr (10, oT x (nI L) (nI s0) (nI (tA T L p)) (nI (e + 1)) vl)), (x 5, .inl (E.2.1 1, 150, .inl (nf T)))] .int inX10 tyX10_ok nmX10 m1_105 dX10_advance_159 rfl rfl (by decide) rfl (by decide +kernel) rfl rfl (Nat.le_of_ble_eq_true rfl) rfl ?_
                    refine g_goto (tgt := 118) hC dX10_advance_162 (by decide) ?_
                    refine g_lv (lv' := [(1, .int (bI rb)), (0, .ref (x 4))]) [0, 1] rfl ?_
                    exact ih_118 rb (e + 1) (by omega) (fun h => ⟨(hr1 h).1, by rw [(hr1 h).2, ew_go h_130 (by simp only [decide_eq_true_eq]; rw [← (tY_lt (by have := (hr1 h).1; unfold tY; rw [if_pos this]; have := so_in (T (tA T L p)); omega)).2, ← hs0]; exact h_149)]⟩) (fun h => absurd h (by rw [h_119]; decide)) (by omega)
          refine g_lv (lv' := [(1, .int (nI 1)), (0, .ref (x 4))]) [0, 1] rfl ?_
          exact L_118 ((L - e0) + 1) true e0 (by omega) (fun _ => adv_run hs0 he0 (by omega) (by omega)) (fun h => by cases h) (Nat.lt_succ_self _)
    refine g_aload_n hC dX10_advance_46 rfl 0 rfl ?_
    refine g_aload_n hC dX10_advance_47 rfl 0 rfl ?_
    refine g_get hC 0 10 3 inX10 m1_104 dX10_advance_48 rfl rfl (by decide) rfl ?_
    refine g_put hC 0 10 4 [(x 4, .inr (10, oT x (nI L) sr (nI (tA T L p)) (nI (tA T L p)) vl)), (x 5, .inl (E.2.1 1, 150, .inl (nf T)))] .int inX10 tyX10_ok nmX10 m1_105 dX10_advance_51 rfl rfl (by decide) rfl (by decide +kernel) rfl rfl (Nat.le_of_ble_eq_true rfl) rfl ?_
    refine g_aload_n hC dX10_advance_54 rfl 0 rfl ?_
    refine g_iconst (v := (nI 0)) hC dX10_advance_55 (by decide) ?_
    refine g_put hC 0 10 2 [(x 4, .inr (10, oT x (nI L) (nI 0) (nI (tA T L p)) (nI (tA T L p)) vl)), (x 5, .inl (E.2.1 1, 150, .inl (nf T)))] .int inX10 tyX10_ok nmX10 m1_102 dX10_advance_56 rfl rfl (by decide) rfl (by decide +kernel) rfl rfl (Nat.le_of_ble_eq_true rfl) rfl ?_
    refine g_aload_n hC dX10_advance_59 rfl 0 rfl ?_
    refine g_get hC 0 10 3 inX10 m1_104 dX10_advance_60 rfl rfl (by decide) rfl ?_
    refine g_aload_n hC dX10_advance_63 rfl 0 rfl ?_
    refine g_get hC 0 10 1 inX10 m1_100 dX10_advance_64 rfl rfl (by decide) rfl ?_
    refine g_icmp_geN (tgt := 96) hC dX10_advance_67 (by decide) (by omega) (by omega) (fun h_67 => ?_) (fun h_67 => ?_)
    · refine g_lv (lv' := [(0, .ref (x 4))]) [0] rfl ?_
      exact J_96 0 (tA T L p) (by unfold tY; rw [if_neg (by omega)]) (by omega)
    · refine g_aload_n hC dX10_advance_70 rfl 0 rfl ?_
      refine g_aload_n hC dX10_advance_71 rfl 0 rfl ?_
      refine g_get hC 0 10 0 inX10 m1_99 dX10_advance_72 rfl rfl (by decide) rfl ?_
      refine g_aload_n hC dX10_advance_75 rfl 0 rfl ?_
      refine g_get hC 0 10 3 inX10 m1_104 dX10_advance_76 rfl rfl (by decide) rfl ?_
      refine g_baldN hC 1 dX10_advance_79 rfl (by decide) (by omega) ?_
      refine g_val (v' := .int (nI (T (tA T L p)))) rfl ?_
      refine g_callS hC (f_X10_sortOf (kl K) E (T (tA T L p)) (hT _ (by omega))) wX10_sortOf m2_59 dX10_advance_80 [] [(x 4, .inr (10, oT x (nI L) (nI 0) (nI (tA T L p)) (nI (tA T L p)) vl)), (x 5, .inl (E.2.1 1, 150, .inl (nf T)))] (by decide) rfl (Nat.le_of_ble_eq_true rfl) rfl rfl rfl rfl rfl ?_
      refine g_put hC 0 10 2 [(x 4, .inr (10, oT x (nI L) (nI (so (T (tA T L p)))) (nI (tA T L p)) (nI (tA T L p)) vl)), (x 5, .inl (E.2.1 1, 150, .inl (nf T)))] .int inX10 tyX10_ok nmX10 m1_102 dX10_advance_83 rfl rfl (by decide) rfl (by decide +kernel) rfl rfl (Nat.le_of_ble_eq_true rfl) rfl ?_
      refine g_aload_n hC dX10_advance_86 rfl 0 rfl ?_
      refine g_dup hC dX10_advance_87 rfl ?_
      refine g_get hC 0 10 4 inX10 m1_105 dX10_advance_88 rfl rfl (by decide) rfl ?_
      refine g_iconst (v := (nI 1)) hC dX10_advance_91 (by decide) ?_
      refine g_iaddN hC dX10_advance_92 ?_
      refine g_put hC 0 10 4 [(x 4, .inr (10, oT x (nI L) (nI (so (T (tA T L p)))) (nI (tA T L p)) (nI ((tA T L p) + 1)) vl)), (x 5, .inl (E.2.1 1, 150, .inl (nf T)))] .int inX10 tyX10_ok nmX10 m1_105 dX10_advance_93 rfl rfl (by decide) rfl (by decide +kernel) rfl rfl (Nat.le_of_ble_eq_true rfl) rfl ?_
      refine g_lv (lv' := [(0, .ref (x 4))]) [0] rfl ?_
      exact J_96 (so (T (tA T L p))) ((tA T L p) + 1) (by unfold tY; rw [if_pos h_67]) (by omega)
  refine g_aload_n hC dX10_advance_0 rfl 0 rfl ?_
  refine g_aload_n hC dX10_advance_1 rfl 0 rfl ?_
  refine g_get hC 0 10 4 inX10 m1_105 dX10_advance_2 rfl rfl (by decide) rfl ?_
  refine g_put hC 0 10 3 [(x 4, .inr (10, oT x (nI L) sr (nI p) (nI p) vl)), (x 5, .inl (E.2.1 1, 150, .inl (nf T)))] .int inX10 tyX10_ok nmX10 m1_104 dX10_advance_5 rfl rfl (by decide) rfl (by decide +kernel) rfl rfl (Nat.le_of_ble_eq_true rfl) rfl ?_
  have L_8 : ∀ (fu : Nat) (j : Nat) (hjL : j ≤ L) (hj : tA T L p = ew (fun j => decide (T j = 32)) L j), L - j < fu → G K E 2 [(x 4, .inr (10, oT x (nI L) sr (nI j) (nI p) vl)), (x 5, .inl (E.2.1 1, 150, .inl (nf T)))] [(0, .ref (x 4))] 8 [] := by
    intro fu
    induction fu with
    | zero => intro j hjL hj hm_8; exact absurd hm_8 (Nat.not_lt_zero _)
    | succ fu ih_8 =>
      intro j hjL hj hm_8
      refine g_aload_n hC dX10_advance_8 rfl 0 rfl ?_
      refine g_get hC 0 10 3 inX10 m1_104 dX10_advance_9 rfl rfl (by decide) rfl ?_
      refine g_aload_n hC dX10_advance_12 rfl 0 rfl ?_
      refine g_get hC 0 10 1 inX10 m1_100 dX10_advance_13 rfl rfl (by decide) rfl ?_
      refine g_icmp_geN (tgt := 46) hC dX10_advance_16 (by decide) (by omega) (by omega) (fun h_16 => ?_) (fun h_16 => ?_)
      · refine g_lv (lv' := [(0, .ref (x 4))]) [0] rfl ?_
        refine g_ws (ws' := [(x 4, .inr (10, oT x (nI L) sr (nI (tA T L p)) (nI p) vl)), (x 5, .inl (E.2.1 1, 150, .inl (nf T)))]) (by rw [hj, ew_stop (Or.inl h_16)]) ?_
        exact J_46
      · have hTj := hT j h_16
        refine g_aload_n hC dX10_advance_19 rfl 0 rfl ?_
        refine g_get hC 0 10 0 inX10 m1_99 dX10_advance_20 rfl rfl (by decide) rfl ?_
        refine g_aload_n hC dX10_advance_23 rfl 0 rfl ?_
        refine g_get hC 0 10 3 inX10 m1_104 dX10_advance_24 rfl rfl (by decide) rfl ?_
        refine g_baldN hC 1 dX10_advance_27 rfl (by decide) (by omega) ?_
        refine g_val (v' := .int (nI (T j))) rfl ?_
        refine g_bipush (v := (nI 32)) hC dX10_advance_28 (by decide) ?_
        refine g_icmp_neN (tgt := 46) hC dX10_advance_30 (by decide) (by omega) (by omega) (fun h_30 => ?_) (fun h_30 => ?_)
        · refine g_lv (lv' := [(0, .ref (x 4))]) [0] rfl ?_
          refine g_ws (ws' := [(x 4, .inr (10, oT x (nI L) sr (nI (tA T L p)) (nI p) vl)), (x 5, .inl (E.2.1 1, 150, .inl (nf T)))]) (by rw [hj, ew_stop (Or.inr (by simp [h_30]))]) ?_
          exact J_46
        · refine g_aload_n hC dX10_advance_33 rfl 0 rfl ?_
          refine g_dup hC dX10_advance_34 rfl ?_
          refine g_get hC 0 10 3 inX10 m1_104 dX10_advance_35 rfl rfl (by decide) rfl ?_
          refine g_iconst (v := (nI 1)) hC dX10_advance_38 (by decide) ?_
          refine g_iaddN hC dX10_advance_39 ?_
          refine g_put hC 0 10 3 [(x 4, .inr (10, oT x (nI L) sr (nI (j + 1)) (nI p) vl)), (x 5, .inl (E.2.1 1, 150, .inl (nf T)))] .int inX10 tyX10_ok nmX10 m1_104 dX10_advance_40 rfl rfl (by decide) rfl (by decide +kernel) rfl rfl (Nat.le_of_ble_eq_true rfl) rfl ?_
          refine g_goto (tgt := 8) hC dX10_advance_43 (by decide) ?_
          refine g_lv (lv' := [(0, .ref (x 4))]) [0] rfl ?_
          exact ih_8 (j + 1) (by omega) (by rw [hj, ew_go h_16 (by simp [h_30])]) (by omega)
  refine g_lv (lv' := [(0, .ref (x 4))]) [0] rfl ?_
  exact L_8 ((L - p) + 1) p (hp) (rfl) (Nat.lt_succ_self _)
set_option maxHeartbeats 4000000 in
set_option maxRecDepth 100000 in
theorem f_X10_isWord (l : Launch) (E : Ew) (x : Nat → Nat) (vl : Int32) (T : Nat → Nat) (L : Nat) (p : Nat) (i : Nat) (hL : L ≤ 150) (hT : ∀ j, j < L → T j < 128) (hp : p ≤ L) (hi : i < 4) : Fn l E 4 yX10_isWord cX10_isWord 3 (some .boolean) [.ref (x 4), .ref (E.2.2.1 i)] [(x 4, .inr (10, oT x (nI L) (nI (tY T L p)) (nI (tA T L p)) (nI (tE T L p)) vl)), (x 5, .inl (E.2.1 1, 150, .inl (nf T)))] (some (.int (bI (cspl T L p i)))) [(x 4, .inr (10, oT x (nI L) (nI (tY T L p)) (nI (tA T L p)) (nI (tE T L p)) vl)), (x 5, .inl (E.2.1 1, 150, .inl (nf T)))] := by
  refine fn_Z (by decide) (Nat.le_of_ble_eq_true rfl) rfl (nar_bI _) ?_
  intro K hC hR
  show G K E 3 [(x 4, .inr (10, oT x (nI L) (nI (tY T L p)) (nI (tA T L p)) (nI (tE T L p)) vl)), (x 5, .inl (E.2.1 1, 150, .inl (nf T)))] [(0, .ref (x 4)), (1, .ref (E.2.2.1 i))] 0 []
  have hel := tE_le (T := T) hp
  have hge := tE_ge T L p
  have hyl := tY_le T L p
  have hl7 := kL_lt i hi
  refine g_aload_n hC dX10_isWord_0 rfl 0 rfl ?_
  refine g_get hC 0 10 2 inX10 m1_102 dX10_isWord_1 rfl rfl (by decide) rfl ?_
  refine g_iconst (v := (nI 1)) hC dX10_isWord_4 (by decide) ?_
  refine g_icmp_neN (tgt := 24) hC dX10_isWord_5 (by decide) (by omega) (by omega) (fun h_5 => ?_) (fun h_5 => ?_)
  · refine g_iconst (v := (nI 0)) hC dX10_isWord_24 (by decide) ?_
    exact g_val (bI_0e (by unfold cspl; rw [decide_eq_false h_5]; rfl)) (g_ws (rfl) (hR _ _ dX10_isWord_25))
  · refine g_aload_n hC dX10_isWord_8 rfl 0 rfl ?_
    refine g_get hC 0 10 4 inX10 m1_105 dX10_isWord_9 rfl rfl (by decide) rfl ?_
    refine g_aload_n hC dX10_isWord_12 rfl 0 rfl ?_
    refine g_get hC 0 10 3 inX10 m1_104 dX10_isWord_13 rfl rfl (by decide) rfl ?_
    refine g_isubN hC dX10_isWord_16 (by omega) ?_
    refine g_aload_n hC dX10_isWord_17 rfl 1 rfl ?_
    refine g_callVS hC (hi) (f_J0_length_8abf5 (kl K) E i (hi)) wJ0_length_8abf5 rfl m2_67 dX10_isWord_18 [] [(x 4, .inr (10, oT x (nI L) (nI (tY T L p)) (nI (tA T L p)) (nI (tE T L p)) vl)), (x 5, .inl (E.2.1 1, 150, .inl (nf T)))] (by decide) rfl (Nat.le_of_ble_eq_true rfl) rfl rfl rfl rfl rfl ?_
    refine g_icmp_eqN (tgt := 26) hC dX10_isWord_21 (by decide) (by omega) (by omega) (fun h_21 => ?_) (fun h_21 => ?_)
    · refine g_iconst (v := (nI 0)) hC dX10_isWord_26 (by decide) ?_
      refine g_istore_n hC [(2, .int (nI 0)), (0, .ref (x 4)), (1, .ref (E.2.2.1 i))] dX10_isWord_27 rfl (by decide) rfl ?_
      have L_28 : ∀ (fu : Nat) (k : Nat) (hk : k ≤ kL.getD i 0) (hf : spF T (tA T L p) (kcc i) k = true), kL.getD i 0 - k < fu → G K E 3 [(x 4, .inr (10, oT x (nI L) (nI (tY T L p)) (nI (tA T L p)) (nI (tE T L p)) vl)), (x 5, .inl (E.2.1 1, 150, .inl (nf T)))] [(2, .int (nI k)), (0, .ref (x 4)), (1, .ref (E.2.2.1 i))] 28 [] := by
        intro fu
        induction fu with
        | zero => intro k hk hf hm_28; exact absurd hm_28 (Nat.not_lt_zero _)
        | succ fu ih_28 =>
          intro k hk hf hm_28
          refine g_iload_n hC dX10_isWord_28 rfl 0 rfl ?_
          refine g_aload_n hC dX10_isWord_29 rfl 2 rfl ?_
          refine g_callVS hC (hi) (f_J0_length_8abf5 (kl K) E i (hi)) wJ0_length_8abf5 rfl m2_67 dX10_isWord_30 [] [(x 4, .inr (10, oT x (nI L) (nI (tY T L p)) (nI (tA T L p)) (nI (tE T L p)) vl)), (x 5, .inl (E.2.1 1, 150, .inl (nf T)))] (by decide) rfl (Nat.le_of_ble_eq_true rfl) rfl rfl rfl rfl rfl ?_
          refine g_icmp_geN (tgt := 63) hC dX10_isWord_33 (by decide) (by omega) (by omega) (fun h_33 => ?_) (fun h_33 => ?_)
          · refine g_iconst (v := (nI 1)) hC dX10_isWord_63 (by decide) ?_
            exact g_val (bI_1e (by unfold cspl; rw [decide_eq_true h_5, decide_eq_true h_21, ← (show k = kL.getD i 0 by omega), hf]; rfl)) (g_ws (rfl) (hR _ _ dX10_isWord_64))
          · have hTk := hT (tA T L p + k) (by omega)
            have hck := (kc_ok i hi k h_33).2
            refine g_aload_n hC dX10_isWord_36 rfl 1 rfl ?_
            refine g_get hC 0 10 0 inX10 m1_99 dX10_isWord_37 rfl rfl (by decide) rfl ?_
            refine g_aload_n hC dX10_isWord_40 rfl 1 rfl ?_
            refine g_get hC 0 10 3 inX10 m1_104 dX10_isWord_41 rfl rfl (by decide) rfl ?_
            refine g_iload_n hC dX10_isWord_44 rfl 0 rfl ?_
            refine g_iaddN hC dX10_isWord_45 ?_
            refine g_baldN hC 1 dX10_isWord_46 rfl (by decide) (by omega) ?_
            refine g_val (v' := .int (nI (T ((tA T L p) + k)))) rfl ?_
            refine g_aload_n hC dX10_isWord_47 rfl 2 rfl ?_
            refine g_iload_n hC dX10_isWord_48 rfl 0 rfl ?_
            refine g_callVS hC (hi) (f_J0_charAt_5068e (kl K) E i k (hi) (h_33)) wJ0_charAt_5068e rfl m2_77 dX10_isWord_49 [] [(x 4, .inr (10, oT x (nI L) (nI (tY T L p)) (nI (tA T L p)) (nI (tE T L p)) vl)), (x 5, .inl (E.2.1 1, 150, .inl (nf T)))] (by decide) rfl (Nat.le_of_ble_eq_true rfl) rfl rfl rfl rfl rfl ?_
            refine g_icmp_eqN (tgt := 57) hC dX10_isWord_52 (by decide) (by omega) (by omega) (fun h_52 => ?_) (fun h_52 => ?_)
            · refine g_iincN hC (q := 0) 1 [(2, .int (nI (k + 1))), (0, .ref (x 4)), (1, .ref (E.2.2.1 i))] dX10_isWord_57 rfl rfl (by decide) rfl ?_
              refine g_goto (tgt := 28) hC dX10_isWord_60 (by decide) ?_
              refine g_lv (lv' := [(2, .int (nI (k + 1))), (0, .ref (x 4)), (1, .ref (E.2.2.1 i))]) [0, 1, 2] rfl ?_
              exact ih_28 (k + 1) (by omega) (by rw [spF, hf, h_52]; simp) (by omega)
            · refine g_iconst (v := (nI 0)) hC dX10_isWord_55 (by decide) ?_
              exact g_val (bI_0e (by unfold cspl; rw [isw_no hf h_52 h_33]; simp)) (g_ws (rfl) (hR _ _ dX10_isWord_56))
      refine g_lv (lv' := [(2, .int (nI 0)), (0, .ref (x 4)), (1, .ref (E.2.2.1 i))]) [0, 1, 2] rfl ?_
      exact L_28 ((kL.getD i 0 - 0) + 1) 0 (by omega) (rfl) (Nat.lt_succ_self _)
    · refine g_iconst (v := (nI 0)) hC dX10_isWord_24 (by decide) ?_
      exact g_val (bI_0e (by unfold cspl; rw [decide_eq_false h_21, Bool.and_false]; rfl)) (g_ws (rfl) (hR _ _ dX10_isWord_25))
set_option maxHeartbeats 4000000 in
set_option maxRecDepth 100000 in
theorem f_X10_isNumberNext (l : Launch) (E : Ew) (x : Nat → Nat) (sr : Int32) (sa : Int32) (vl : Int32) (T : Nat → Nat) (L : Nat) (p : Nat) (B : Nat) (hL : L ≤ 150) (hT : ∀ j, j < L → T j < 128) (hp : p ≤ L) (hB : B < 2147483648) : Fn l E 2 yX10_isNumberNext cX10_isNumberNext 3 (some .boolean) [.ref (x 4), .int (nI B)] [(x 4, .inr (10, oT x (nI L) sr sa (nI p) vl)), (x 5, .inl (E.2.1 1, 150, .inl (nf T)))] (some (.int (bI (nmO T L p B)))) [(x 4, .inr (10, oT x (nI L) (nI (tY T L p)) (nI (tA T L p)) (nI (tE T L p)) (if tK T L p = 2 then nI (tV T L p) else vl))), (x 5, .inl (E.2.1 1, 150, .inl (nf T)))] := by
  refine fn_Z (by decide) (Nat.le_of_ble_eq_true rfl) rfl (nar_bI _) ?_
  intro K hC hR
  show G K E 3 [(x 4, .inr (10, oT x (nI L) sr sa (nI p) vl)), (x 5, .inl (E.2.1 1, 150, .inl (nf T)))] [(0, .ref (x 4)), (1, .int (nI B))] 0 []
  have hel := tE_le (T := T) hp
  have hge := tE_ge T L p
  have hyl := tY_le T L p
  refine g_aload_n hC dX10_isNumberNext_0 rfl 0 rfl ?_
  refine g_callV hC (f_X10_advance (kl K) E x sr sa vl T L p (by omega) (hT) (by omega)) wX10_advance m2_55 dX10_isNumberNext_1 [0, 1] [(x 4, .inr (10, oT x (nI L) (nI (tY T L p)) (nI (tA T L p)) (nI (tE T L p)) vl)), (x 5, .inl (E.2.1 1, 150, .inl (nf T)))] 0 10 rfl rfl (by decide) rfl (Nat.le_of_ble_eq_true rfl) rfl rfl rfl rfl rfl ?_
  refine g_aload_n hC dX10_isNumberNext_4 rfl 0 rfl ?_
  refine g_get hC 0 10 2 inX10 m1_102 dX10_isNumberNext_5 rfl rfl (by decide) rfl ?_
  refine g_iconst (v := (nI 2)) hC dX10_isNumberNext_8 (by decide) ?_
  refine g_icmp_neN (tgt := 25) hC dX10_isNumberNext_9 (by decide) (by omega) (by omega) (fun h_9 => ?_) (fun h_9 => ?_)
  · refine g_iconst (v := (nI 0)) hC dX10_isNumberNext_25 (by decide) ?_
    exact g_val (bI_0e (by unfold nmO; rw [decide_eq_false (mt tK_2.mp (by omega))]; rfl)) (g_ws (by rw [if_neg (mt tK_2.mp (by omega))]) (hR _ _ dX10_isNumberNext_26))
  · refine g_aload_n hC dX10_isNumberNext_12 rfl 0 rfl ?_
    refine g_get hC 0 10 4 inX10 m1_105 dX10_isNumberNext_13 rfl rfl (by decide) rfl ?_
    refine g_aload_n hC dX10_isNumberNext_16 rfl 0 rfl ?_
    refine g_get hC 0 10 3 inX10 m1_104 dX10_isNumberNext_17 rfl rfl (by decide) rfl ?_
    refine g_isubN hC dX10_isNumberNext_20 (by omega) ?_
    refine g_iconst (v := (nI 2)) hC dX10_isNumberNext_21 (by decide) ?_
    refine g_icmp_leN (tgt := 27) hC dX10_isNumberNext_22 (by decide) (by omega) (by omega) (fun h_22 => ?_) (fun h_22 => ?_)
    · have hlt := (tY_lt (T := T) (L := L) (i := p) (by omega)).1
      have hy2 := (tY_lt (T := T) (L := L) (i := p) (by omega)).2
      have hgt := tE_gt hlt
      have hrun : ∀ j, j < tE T L p - tA T L p → 48 ≤ T (tA T L p + j) ∧ T (tA T L p + j) ≤ 57 := fun j hj => so_2 ((tok_run hlt hj).trans (hy2.symm.trans h_9))
      have hk2 : tK T L p = 2 := tK_2.mpr ⟨h_9, h_22⟩
      refine g_aload_n hC dX10_isNumberNext_27 rfl 0 rfl ?_
      refine g_iconst (v := (nI 0)) hC dX10_isNumberNext_28 (by decide) ?_
      refine g_put hC 0 10 5 [(x 4, .inr (10, oT x (nI L) (nI (tY T L p)) (nI (tA T L p)) (nI (tE T L p)) (nI 0))), (x 5, .inl (E.2.1 1, 150, .inl (nf T)))] .int inX10 tyX10_ok nmX10 m1_106 dX10_isNumberNext_29 rfl rfl (by decide) rfl (by decide +kernel) rfl rfl (Nat.le_of_ble_eq_true rfl) rfl ?_
      refine g_aload_n hC dX10_isNumberNext_32 rfl 0 rfl ?_
      refine g_get hC 0 10 3 inX10 m1_104 dX10_isNumberNext_33 rfl rfl (by decide) rfl ?_
      refine g_istore_n hC [(2, .int (nI (tA T L p))), (0, .ref (x 4)), (1, .int (nI B))] dX10_isNumberNext_36 rfl (by decide) rfl ?_
      have L_37 : ∀ (fu : Nat) (k : Nat) (hk : tA T L p + k ≤ tE T L p), tE T L p - (tA T L p + k) < fu → G K E 3 [(x 4, .inr (10, oT x (nI L) (nI (tY T L p)) (nI (tA T L p)) (nI (tE T L p)) (nI (dv T (tA T L p) k)))), (x 5, .inl (E.2.1 1, 150, .inl (nf T)))] [(2, .int (nI ((tA T L p) + k))), (0, .ref (x 4)), (1, .int (nI B))] 37 [] := by
        intro fu
        induction fu with
        | zero => intro k hk hm_37; exact absurd hm_37 (Nat.not_lt_zero _)
        | succ fu ih_37 =>
          intro k hk hm_37
          refine g_iload_n hC dX10_isNumberNext_37 rfl 0 rfl ?_
          refine g_aload_n hC dX10_isNumberNext_38 rfl 1 rfl ?_
          refine g_get hC 0 10 4 inX10 m1_105 dX10_isNumberNext_39 rfl rfl (by decide) rfl ?_
          refine g_icmp_geN (tgt := 72) hC dX10_isNumberNext_42 (by decide) (by omega) (by omega) (fun h_42 => ?_) (fun h_42 => ?_)
          · have hnv := nn_val hlt h_9 h_22 (k := k) (by omega)
            have hv1 : tV T L p < 100 := tV_lt'
            refine g_aload_n hC dX10_isNumberNext_72 rfl 1 rfl ?_
            refine g_get hC 0 10 5 inX10 m1_106 dX10_isNumberNext_73 rfl rfl (by decide) rfl ?_
            refine g_val (v' := .int (nI (dv T (tA T L p) k))) (rfl) ?_
            refine g_iload_n hC dX10_isNumberNext_76 rfl 2 rfl ?_
            refine g_icmp_geN (tgt := 84) hC dX10_isNumberNext_77 (by decide) (by omega) (by omega) (fun h_77 => ?_) (fun h_77 => ?_)
            · refine g_iconst (v := (nI 0)) hC dX10_isNumberNext_84 (by decide) ?_
              exact g_val (by rw [nn_val hlt h_9 h_22 (k := k) (by omega)] at h_77; exact bI_0e (by unfold nmO; rw [decide_eq_false (show ¬ tV T L p < B by omega), Bool.and_false])) (g_ws (by rw [if_pos hk2, nn_val hlt h_9 h_22 (k := k) (by omega)]) (hR _ _ dX10_isNumberNext_85))
            · refine g_iconst (v := (nI 1)) hC dX10_isNumberNext_80 (by decide) ?_
              refine g_goto (tgt := 85) hC dX10_isNumberNext_81 (by decide) ?_
              exact g_val (by rw [nn_val hlt h_9 h_22 (k := k) (by omega)] at h_77; exact bI_1e (by unfold nmO; rw [decide_eq_true hk2, decide_eq_true (show tV T L p < B by omega)]; rfl)) (g_ws (by rw [if_pos hk2, nn_val hlt h_9 h_22 (k := k) (by omega)]) (hR _ _ dX10_isNumberNext_85))
          · have hrk := hrun k (by omega)
            refine g_aload_n hC dX10_isNumberNext_45 rfl 1 rfl ?_
            refine g_bipush (v := (nI 10)) hC dX10_isNumberNext_46 (by decide) ?_
            refine g_aload_n hC dX10_isNumberNext_48 rfl 1 rfl ?_
            refine g_get hC 0 10 5 inX10 m1_106 dX10_isNumberNext_49 rfl rfl (by decide) rfl ?_
            refine g_val (v' := .int (nI (dv T (tA T L p) k))) (rfl) ?_
            refine g_imulN hC dX10_isNumberNext_52 ?_
            refine g_aload_n hC dX10_isNumberNext_53 rfl 1 rfl ?_
            refine g_get hC 0 10 0 inX10 m1_99 dX10_isNumberNext_54 rfl rfl (by decide) rfl ?_
            refine g_iload_n hC dX10_isNumberNext_57 rfl 0 rfl ?_
            refine g_baldN hC 1 dX10_isNumberNext_58 rfl (by decide) (by omega) ?_
            refine g_val (v' := .int (nI (T ((tA T L p) + k)))) rfl ?_
            refine g_bipush (v := (nI 48)) hC dX10_isNumberNext_59 (by decide) ?_
            refine g_isubN hC dX10_isNumberNext_61 (by omega) ?_
            refine g_iaddN hC dX10_isNumberNext_62 ?_
            refine g_put hC 0 10 5 [(x 4, .inr (10, oT x (nI L) (nI (tY T L p)) (nI (tA T L p)) (nI (tE T L p)) (nI ((10 * dv T (tA T L p) k) + (T ((tA T L p) + k) - 48))))), (x 5, .inl (E.2.1 1, 150, .inl (nf T)))] .int inX10 tyX10_ok nmX10 m1_106 dX10_isNumberNext_63 rfl rfl (by decide) rfl (by decide +kernel) rfl rfl (Nat.le_of_ble_eq_true rfl) rfl ?_
            refine g_iincN hC (q := 0) 1 [(2, .int (nI (((tA T L p) + k) + 1))), (0, .ref (x 4)), (1, .int (nI B))] dX10_isNumberNext_66 rfl rfl (by decide) rfl ?_
            refine g_goto (tgt := 37) hC dX10_isNumberNext_69 (by decide) ?_
            refine g_lv (lv' := [(2, .int (nI (((tA T L p) + k) + 1))), (0, .ref (x 4)), (1, .int (nI B))]) [0, 1, 2] rfl ?_
            refine g_lve (lv' := [(2, .int (nI ((tA T L p) + (k + 1)))), (0, .ref (x 4)), (1, .int (nI B))]) (rfl) ?_
            refine g_ws (ws' := [(x 4, .inr (10, oT x (nI L) (nI (tY T L p)) (nI (tA T L p)) (nI (tE T L p)) (nI (dv T (tA T L p) (k + 1))))), (x 5, .inl (E.2.1 1, 150, .inl (nf T)))]) (by rw [dvs_eq hrk]) ?_
            exact ih_37 (k + 1) (by omega) (by omega)
      refine g_lv (lv' := [(2, .int (nI (tA T L p))), (0, .ref (x 4)), (1, .int (nI B))]) [0, 1, 2] rfl ?_
      refine g_lve (lv' := [(2, .int (nI ((tA T L p) + 0))), (0, .ref (x 4)), (1, .int (nI B))]) (rfl) ?_
      refine g_ws (ws' := [(x 4, .inr (10, oT x (nI L) (nI (tY T L p)) (nI (tA T L p)) (nI (tE T L p)) (nI (dv T (tA T L p) 0)))), (x 5, .inl (E.2.1 1, 150, .inl (nf T)))]) (rfl) ?_
      exact L_37 ((tE T L p - (tA T L p + 0)) + 1) 0 (by omega) (Nat.lt_succ_self _)
    · refine g_iconst (v := (nI 0)) hC dX10_isNumberNext_25 (by decide) ?_
      exact g_val (bI_0e (by unfold nmO; rw [decide_eq_false (mt tK_2.mp (by omega))]; rfl)) (g_ws (by rw [if_neg (mt tK_2.mp (by omega))]) (hR _ _ dX10_isNumberNext_26))
