theorem nmO_K {T : Nat → Nat} {L p B : Nat} (h : nmO T L p B = true) : tK T L p = 2 ∧ tV T L p < B := by simpa [nmO] using h
def ciK (T : Nat → Nat) (L p : Nat) (kd : Nat → Nat) (n : Nat) : Nat → Nat := if isOnW T L p = true then (if (pO T L p zz n).1 = true then un kd n (tV T L (tE T L p)) else kd) else kd
def ciL (T : Nat → Nat) (L p : Nat) (pl : Nat → Nat) (n : Nat) : Nat → Nat := if isOnW T L p = true then (if (pO T L p zz n).1 = true then un pl n (tV T L (tE T L (tE T L p))) else pl) else pl
def ciN (T : Nat → Nat) (L p n : Nat) : Nat := if isOnW T L p = true then (if (pO T L p zz n).1 = true then n + 1 else n) else n
def gvY (bn : Nat → Nat) (p x n : Nat) : Nat → Nat := un (gvN bn p n) x (gvN bn p n x ||| 2 ^ p)
def ciB (T : Nat → Nat) (L p : Nat) (bn : Nat → Nat) (n : Nat) : Nat → Nat :=
  if isOnW T L p = true then (if (pO T L p zz n).1 = true then un bn n (2 ^ n) else bn)
  else if isBea T L p = true then (if (pR T L p zz n).1 = true then gvY bn (tV T L (tE T L p)) (tV T L (tE T L (tE T L p))) n else bn)
  else if isNon T L p = true then (if (pZ T L p zz n).1 = true then gvN bn (tV T L (tE T L p)) n else bn)
  else bn
theorem pO_f {T : Nat → Nat} {L p n : Nat} (hn : n ≠ 7) (h1 : nmO T L (tE T L p) 6 = false) : pO T L p zz n = (false, tE T L p, zz) := by unfold pO; rw [if_neg hn, if_pos h1]
theorem pO_g {T : Nat → Nat} {L p n : Nat} (hn : n ≠ 7) (h1 : nmO T L (tE T L p) 6 = true) (h2 : nmO T L (tE T L (tE T L p)) 10 = false) : pO T L p zz n = (false, tE T L (tE T L p), zz) := by unfold pO; rw [if_neg hn, if_neg (by rw [h1]; decide), if_pos h2]
theorem pO_t {T : Nat → Nat} {L p n : Nat} (hn : n ≠ 7) (h1 : nmO T L (tE T L p) 6 = true) (h2 : nmO T L (tE T L (tE T L p)) 10 = true) : (pO T L p zz n).1 = true ∧ (pO T L p zz n).2.1 = tE T L (tE T L (tE T L p)) := by unfold pO; rw [if_neg hn, if_neg (by rw [h1]; decide), if_neg (by rw [h2]; decide)]; exact ⟨rfl, rfl⟩
theorem pO_7 {T : Nat → Nat} {L p n : Nat} (hn : n = 7) : pO T L p zz n = (false, p, zz) := by unfold pO; rw [if_pos hn]
theorem pR_f {T : Nat → Nat} {L p n : Nat} (h1 : nmO T L (tE T L p) n = false) : pR T L p zz n = (false, tE T L p, zz) := by unfold pR; rw [if_pos h1]
theorem pR_g {T : Nat → Nat} {L p n : Nat} (h1 : nmO T L (tE T L p) n = true) (h2 : nmO T L (tE T L (tE T L p)) n = false) : pR T L p zz n = (false, tE T L (tE T L p), zz) := by unfold pR; rw [if_neg (by rw [h1]; decide), if_pos h2]
theorem pR_t {T : Nat → Nat} {L p n : Nat} (h1 : nmO T L (tE T L p) n = true) (h2 : nmO T L (tE T L (tE T L p)) n = true) : (pR T L p zz n).1 = true ∧ (pR T L p zz n).2.1 = tE T L (tE T L (tE T L p)) := by unfold pR; rw [if_neg (by rw [h1]; decide), if_neg (by rw [h2]; decide)]; exact ⟨rfl, rfl⟩
theorem pZ_f {T : Nat → Nat} {L p n : Nat} (h1 : nmO T L (tE T L p) n = false) : pZ T L p zz n = (false, tE T L p, zz) := by unfold pZ; rw [if_pos h1]
theorem pZ_t {T : Nat → Nat} {L p n : Nat} (h1 : nmO T L (tE T L p) n = true) : (pZ T L p zz n).1 = true ∧ (pZ T L p zz n).2.1 = tE T L (tE T L p) := by unfold pZ; rw [if_neg (by rw [h1]; decide)]; exact ⟨rfl, rfl⟩
/-- where the class's text stands behind an item -/
def ciQ (T : Nat → Nat) (L p n : Nat) : Nat :=
  if isOnW T L p = true then (if (pO T L p zz n).1 = true then tE T L (tE T L p) else (pO T L p zz n).2.1)
  else if isBea T L p = true then (if (pR T L p zz n).1 = true then tE T L (tE T L p) else (pR T L p zz n).2.1)
  else if isNon T L p = true then (if (pZ T L p zz n).1 = true then tE T L p else (pZ T L p zz n).2.1)
  else p
theorem ciQ_f {T : Nat → Nat} {L p n : Nat} (h : (pI T L p zz n).1 = false) : ciQ T L p n = (pI T L p zz n).2.1 := by
  unfold pI at h
  unfold ciQ pI
  split
  · rename_i q; rw [if_pos q] at h; rw [if_neg (by rw [h]; decide)]
  · rename_i q; rw [if_neg q] at h
    split
    · rename_i q2; rw [if_pos q2] at h; rw [if_neg (by rw [h]; decide)]
    · rename_i q2; rw [if_neg q2] at h
      split
      · rename_i q3; rw [if_pos q3] at h; rw [if_neg (by rw [h]; decide)]
      · rfl
theorem pO_1 {T : Nat → Nat} {L p n : Nat} {w : Nat → Int32} (h : (pO T L p w n).1 = true) : (pO T L p w n).2.1 = tE T L (tE T L (tE T L p)) ∧ n ≠ 7 ∧ nmO T L (tE T L p) 6 = true ∧ nmO T L (tE T L (tE T L p)) 10 = true := by
  unfold pO at *
  by_cases q : n = 7
  · rw [if_pos q] at h; cases h
  · rw [if_neg q] at h ⊢
    by_cases q1 : nmO T L (tE T L p) 6 = false
    · rw [if_pos q1] at h; cases h
    · rw [if_neg q1] at h ⊢
      by_cases q2 : nmO T L (tE T L (tE T L p)) 10 = false
      · rw [if_pos q2] at h; cases h
      · rw [if_neg q2]; exact ⟨rfl, q, by simpa using q1, by simpa using q2⟩
theorem pR_1 {T : Nat → Nat} {L p n : Nat} {w : Nat → Int32} (h : (pR T L p w n).1 = true) : (pR T L p w n).2.1 = tE T L (tE T L (tE T L p)) ∧ nmO T L (tE T L p) n = true ∧ nmO T L (tE T L (tE T L p)) n = true := by
  unfold pR at *
  by_cases q1 : nmO T L (tE T L p) n = false
  · rw [if_pos q1] at h; cases h
  · rw [if_neg q1] at h ⊢
    by_cases q2 : nmO T L (tE T L (tE T L p)) n = false
    · rw [if_pos q2] at h; cases h
    · rw [if_neg q2]; exact ⟨rfl, by simpa using q1, by simpa using q2⟩
theorem pZ_1 {T : Nat → Nat} {L p n : Nat} {w : Nat → Int32} (h : (pZ T L p w n).1 = true) : (pZ T L p w n).2.1 = tE T L (tE T L p) ∧ nmO T L (tE T L p) n = true := by
  unfold pZ at *
  by_cases q1 : nmO T L (tE T L p) n = false
  · rw [if_pos q1] at h; cases h
  · rw [if_neg q1]; exact ⟨rfl, by simpa using q1⟩
theorem ciQ_t {T : Nat → Nat} {L p n : Nat} (h : (pI T L p zz n).1 = true) : tE T L (ciQ T L p n) = (pI T L p zz n).2.1 := by
  unfold pI at h
  unfold ciQ pI
  split
  · rename_i q; rw [if_pos q] at h; rw [if_pos h, (pO_1 h).1]
  · rename_i q; rw [if_neg q] at h
    split
    · rename_i q2; rw [if_pos q2] at h; rw [if_pos h, (pR_1 h).1]
    · rename_i q2; rw [if_neg q2] at h
      split
      · rename_i q3; rw [if_pos q3] at h; rw [if_pos h, (pZ_1 h).1]
      · rename_i q3; rw [if_neg q3] at h; cases h

set_option maxHeartbeats 4000000 in
set_option maxRecDepth 100000 in
theorem f_X10_isOne (l : Launch) (E : Ew) (x : Nat → Nat) (vl : Int32) (T : Nat → Nat) (L : Nat) (p : Nat) (h : Nat → Nat) (da : Int32) (kd : Nat → Nat) (pl : Nat → Nat) (bn : Nat → Nat) (n : Nat) (hL : L ≤ 150) (hT : ∀ j, j < L → T j < 128) (hp : p ≤ L) (hn7 : n < 7) : Fe l E 3 yX10_isOne cX10_isOne 3 (some .boolean) [.ref (x 4), .ref (h 0)] [(x 4, .inr (10, oT x (nI L) (nI (tY T L p)) (nI (tA T L p)) (nI (tE T L p)) vl)), (x 5, .inl (E.2.1 1, 150, .inl (nf T))), (h 0, .inr (5, oH h da (nI n) (nI 0) (nI 0) (nI 0))), (h 1, .inl (E.2.1 0, 7, .inl (nf kd))), (h 2, .inl (E.2.1 0, 7, .inl (nf pl))), (h 3, .inl (E.2.1 0, 7, .inl (nf bn)))] (some (.int (bI ((pO T L p zz n).1)))) (fun jj => [(x 4, .inr (10, oT x (nI L) (nI (tY T L (if (pO T L p zz n).1 = true then (tE T L (tE T L p)) else (pO T L p zz n).2.1))) (nI (tA T L (if (pO T L p zz n).1 = true then (tE T L (tE T L p)) else (pO T L p zz n).2.1))) (nI (tE T L (if (pO T L p zz n).1 = true then (tE T L (tE T L p)) else (pO T L p zz n).2.1))) (jj 0 0))), (x 5, .inl (E.2.1 1, 150, .inl (nf T))), (h 0, .inr (5, oH h da (nI (if (pO T L p zz n).1 = true then n + 1 else n)) (nI 0) (nI 0) (nI 0))), (h 1, .inl (E.2.1 0, 7, .inl (nf (if (pO T L p zz n).1 = true then un kd n (tV T L (tE T L p)) else kd)))), (h 2, .inl (E.2.1 0, 7, .inl (nf (if (pO T L p zz n).1 = true then un pl n (tV T L (tE T L (tE T L p))) else pl)))), (h 3, .inl (E.2.1 0, 7, .inl (nf (if (pO T L p zz n).1 = true then un bn n (2 ^ n) else bn))))]) := by
  refine fe_Z (by decide) (Nat.le_of_ble_eq_true rfl) (fun _ => rfl) (nar_bI _) ?_
  intro K hC hR
  show G K E 3 [(x 4, .inr (10, oT x (nI L) (nI (tY T L p)) (nI (tA T L p)) (nI (tE T L p)) vl)), (x 5, .inl (E.2.1 1, 150, .inl (nf T))), (h 0, .inr (5, oH h da (nI n) (nI 0) (nI 0) (nI 0))), (h 1, .inl (E.2.1 0, 7, .inl (nf kd))), (h 2, .inl (E.2.1 0, 7, .inl (nf pl))), (h 3, .inl (E.2.1 0, 7, .inl (nf bn)))] [(0, .ref (x 4)), (1, .ref (h 0))] 0 []
  have hv1 : tV T L (tE T L p) < 100 := tV_lt'
  have hv2 : tV T L (tE T L (tE T L p)) < 100 := tV_lt'
  refine g_aload_n hC dX10_isOne_0 rfl 0 rfl ?_
  refine g_bipush (v := (nI 6)) hC dX10_isOne_1 (by decide) ?_
  refine g_callV hC (f_X10_isNumberNext (kl K) E x (nI (tY T L p)) (nI (tA T L p)) vl T L (tE T L p) 6 (by omega) (hT) (tE_le hp) (by omega)) wX10_isNumberNext m2_115 dX10_isOne_3 [0, 1] [(x 4, .inr (10, oT x (nI L) (nI (tY T L (tE T L p))) (nI (tA T L (tE T L p))) (nI (tE T L (tE T L p))) (if tK T L (tE T L p) = 2 then nI (tV T L (tE T L p)) else vl))), (x 5, .inl (E.2.1 1, 150, .inl (nf T))), (h 0, .inr (5, oH h da (nI n) (nI 0) (nI 0) (nI 0))), (h 1, .inl (E.2.1 0, 7, .inl (nf kd))), (h 2, .inl (E.2.1 0, 7, .inl (nf pl))), (h 3, .inl (E.2.1 0, 7, .inl (nf bn)))] 0 10 rfl rfl (by decide) rfl (Nat.le_of_ble_eq_true rfl) rfl rfl rfl rfl rfl ?_
  refine g_if_neB (tgt := 11) hC dX10_isOne_6 (by decide) (fun h_6 => ?_) (fun h_6 => ?_)
  · refine g_aload_n hC dX10_isOne_11 rfl 0 rfl ?_
    refine g_get hC 0 10 5 inX10 m1_106 dX10_isOne_12 rfl rfl (by decide) rfl ?_
    refine g_val (v' := .int (nI (tV T L (tE T L p)))) (by rw [if_pos (nmO_K h_6).1]) ?_
    refine g_istore_n hC [(2, .int (nI (tV T L (tE T L p)))), (0, .ref (x 4)), (1, .ref (h 0))] dX10_isOne_15 rfl (by decide) rfl ?_
    refine g_aload_n hC dX10_isOne_16 rfl 1 rfl ?_
    refine g_bipush (v := (nI 10)) hC dX10_isOne_17 (by decide) ?_
    refine g_callV hC (f_X10_isNumberNext (kl K) E x (nI (tY T L (tE T L p))) (nI (tA T L (tE T L p))) (if tK T L (tE T L p) = 2 then nI (tV T L (tE T L p)) else vl) T L (tE T L (tE T L p)) 10 (by omega) (hT) (tE_le (tE_le hp)) (by omega)) wX10_isNumberNext m2_115 dX10_isOne_19 [0, 1] [(x 4, .inr (10, oT x (nI L) (nI (tY T L (tE T L (tE T L p)))) (nI (tA T L (tE T L (tE T L p)))) (nI (tE T L (tE T L (tE T L p)))) (if tK T L (tE T L (tE T L p)) = 2 then nI (tV T L (tE T L (tE T L p))) else (if tK T L (tE T L p) = 2 then nI (tV T L (tE T L p)) else vl)))), (x 5, .inl (E.2.1 1, 150, .inl (nf T))), (h 0, .inr (5, oH h da (nI n) (nI 0) (nI 0) (nI 0))), (h 1, .inl (E.2.1 0, 7, .inl (nf kd))), (h 2, .inl (E.2.1 0, 7, .inl (nf pl))), (h 3, .inl (E.2.1 0, 7, .inl (nf bn)))] 0 10 rfl rfl (by decide) rfl (Nat.le_of_ble_eq_true rfl) rfl rfl rfl rfl rfl ?_
    refine g_if_neB (tgt := 27) hC dX10_isOne_22 (by decide) (fun h_22 => ?_) (fun h_22 => ?_)
    · refine g_aload_n hC dX10_isOne_27 rfl 2 rfl ?_
      refine g_iload_n hC dX10_isOne_28 rfl 0 rfl ?_
      refine g_aload_n hC dX10_isOne_29 rfl 1 rfl ?_
      refine g_get hC 0 10 5 inX10 m1_106 dX10_isOne_30 rfl rfl (by decide) rfl ?_
      refine g_val (v' := .int (nI (tV T L (tE T L (tE T L p))))) (by rw [if_pos (nmO_K h_22).1]) ?_
      refine g_callV hC (f_X5_join (kl K) E h da (nI 0) (nI 0) (nI 0) kd pl bn n (tV T L (tE T L p)) (tV T L (tE T L (tE T L p))) (by omega)) wX5_join m2_129 dX10_isOne_33 [2, 3, 4, 5] [(x 4, .inr (10, oT x (nI L) (nI (tY T L (tE T L (tE T L p)))) (nI (tA T L (tE T L (tE T L p)))) (nI (tE T L (tE T L (tE T L p)))) (if tK T L (tE T L (tE T L p)) = 2 then nI (tV T L (tE T L (tE T L p))) else (if tK T L (tE T L p) = 2 then nI (tV T L (tE T L p)) else vl)))), (x 5, .inl (E.2.1 1, 150, .inl (nf T))), (h 0, .inr (5, oH h da (nI (n + 1)) (nI 0) (nI 0) (nI 0))), (h 1, .inl (E.2.1 0, 7, .inl (nf (un kd n (tV T L (tE T L p)))))), (h 2, .inl (E.2.1 0, 7, .inl (nf (un pl n (tV T L (tE T L (tE T L p))))))), (h 3, .inl (E.2.1 0, 7, .inl (nf (un bn n (2 ^ n)))))] 2 5 rfl rfl (by decide) rfl (Nat.le_of_ble_eq_true rfl) rfl rfl rfl rfl rfl ?_
      refine g_iconst (v := (nI 1)) hC dX10_isOne_36 (by decide) ?_
      exact g_val (by rw [(pO_t (by omega) h_6 h_22).1] <;> rfl) (g_ws (by rw [(pO_t (by omega) h_6 h_22).1] <;> rfl) (hR (fun jx => (fun _ => (if tK T L (tE T L (tE T L p)) = 2 then nI (tV T L (tE T L (tE T L p))) else (if tK T L (tE T L p) = 2 then nI (tV T L (tE T L p)) else vl)))) _ _ dX10_isOne_37))
    · refine g_iconst (v := (nI 0)) hC dX10_isOne_25 (by decide) ?_
      exact g_val (by rw [pO_g (by omega) h_6 h_22] <;> rfl) (g_ws (by rw [pO_g (by omega) h_6 h_22] <;> rfl) (hR (fun jx => (fun _ => (if tK T L (tE T L (tE T L p)) = 2 then nI (tV T L (tE T L (tE T L p))) else (if tK T L (tE T L p) = 2 then nI (tV T L (tE T L p)) else vl)))) _ _ dX10_isOne_26))
  · refine g_iconst (v := (nI 0)) hC dX10_isOne_9 (by decide) ?_
    exact g_val (by rw [pO_f (by omega) h_6] <;> rfl) (g_ws (by rw [pO_f (by omega) h_6] <;> rfl) (hR (fun jx => (fun _ => (if tK T L (tE T L p) = 2 then nI (tV T L (tE T L p)) else vl))) _ _ dX10_isOne_10))
set_option maxHeartbeats 4000000 in
set_option maxRecDepth 100000 in
theorem f_X10_isBears (l : Launch) (E : Ew) (x : Nat → Nat) (vl : Int32) (T : Nat → Nat) (L : Nat) (p : Nat) (h : Nat → Nat) (da : Int32) (kd : Nat → Nat) (pl : Nat → Nat) (bn : Nat → Nat) (n : Nat) (hL : L ≤ 150) (hT : ∀ j, j < L → T j < 128) (hp : p ≤ L) (hn7 : n ≤ 7) (hb : ∀ j, j < 7 → bn j < 2147483648) : Fe l E 3 yX10_isBears cX10_isBears 3 (some .boolean) [.ref (x 4), .ref (h 0)] [(x 4, .inr (10, oT x (nI L) (nI (tY T L p)) (nI (tA T L p)) (nI (tE T L p)) vl)), (x 5, .inl (E.2.1 1, 150, .inl (nf T))), (h 0, .inr (5, oH h da (nI n) (nI 0) (nI 0) (nI 0))), (h 1, .inl (E.2.1 0, 7, .inl (nf kd))), (h 2, .inl (E.2.1 0, 7, .inl (nf pl))), (h 3, .inl (E.2.1 0, 7, .inl (nf bn)))] (some (.int (bI ((pR T L p zz n).1)))) (fun jj => [(x 4, .inr (10, oT x (nI L) (nI (tY T L (if (pR T L p zz n).1 = true then (tE T L (tE T L p)) else (pR T L p zz n).2.1))) (nI (tA T L (if (pR T L p zz n).1 = true then (tE T L (tE T L p)) else (pR T L p zz n).2.1))) (nI (tE T L (if (pR T L p zz n).1 = true then (tE T L (tE T L p)) else (pR T L p zz n).2.1))) (jj 0 0))), (x 5, .inl (E.2.1 1, 150, .inl (nf T))), (h 0, .inr (5, oH h da (nI n) (nI 0) (nI 0) (nI 0))), (h 1, .inl (E.2.1 0, 7, .inl (nf (kd)))), (h 2, .inl (E.2.1 0, 7, .inl (nf (pl)))), (h 3, .inl (E.2.1 0, 7, .inl (nf (if (pR T L p zz n).1 = true then gvY bn (tV T L (tE T L p)) (tV T L (tE T L (tE T L p))) n else bn))))]) := by
  refine fe_Z (by decide) (Nat.le_of_ble_eq_true rfl) (fun _ => rfl) (nar_bI _) ?_
  intro K hC hR
  show G K E 3 [(x 4, .inr (10, oT x (nI L) (nI (tY T L p)) (nI (tA T L p)) (nI (tE T L p)) vl)), (x 5, .inl (E.2.1 1, 150, .inl (nf T))), (h 0, .inr (5, oH h da (nI n) (nI 0) (nI 0) (nI 0))), (h 1, .inl (E.2.1 0, 7, .inl (nf kd))), (h 2, .inl (E.2.1 0, 7, .inl (nf pl))), (h 3, .inl (E.2.1 0, 7, .inl (nf bn)))] [(0, .ref (x 4)), (1, .ref (h 0))] 0 []
  refine g_aload_n hC dX10_isBears_0 rfl 0 rfl ?_
  refine g_aload_n hC dX10_isBears_1 rfl 1 rfl ?_
  refine g_get hC 2 5 1 inX5 m1_42 dX10_isBears_2 rfl rfl (by decide) rfl ?_
  refine g_callV hC (f_X10_isNumberNext (kl K) E x (nI (tY T L p)) (nI (tA T L p)) vl T L (tE T L p) n (by omega) (hT) (tE_le hp) (by omega)) wX10_isNumberNext m2_115 dX10_isBears_5 [0, 1] [(x 4, .inr (10, oT x (nI L) (nI (tY T L (tE T L p))) (nI (tA T L (tE T L p))) (nI (tE T L (tE T L p))) (if tK T L (tE T L p) = 2 then nI (tV T L (tE T L p)) else vl))), (x 5, .inl (E.2.1 1, 150, .inl (nf T))), (h 0, .inr (5, oH h da (nI n) (nI 0) (nI 0) (nI 0))), (h 1, .inl (E.2.1 0, 7, .inl (nf kd))), (h 2, .inl (E.2.1 0, 7, .inl (nf pl))), (h 3, .inl (E.2.1 0, 7, .inl (nf bn)))] 0 10 rfl rfl (by decide) rfl (Nat.le_of_ble_eq_true rfl) rfl rfl rfl rfl rfl ?_
  refine g_if_neB (tgt := 13) hC dX10_isBears_8 (by decide) (fun h_8 => ?_) (fun h_8 => ?_)
  · have hq1 := (nmO_K h_8).2
    refine g_aload_n hC dX10_isBears_13 rfl 0 rfl ?_
    refine g_get hC 0 10 5 inX10 m1_106 dX10_isBears_14 rfl rfl (by decide) rfl ?_
    refine g_val (v' := .int (nI (tV T L (tE T L p)))) (by rw [if_pos (nmO_K h_8).1]) ?_
    refine g_istore_n hC [(2, .int (nI (tV T L (tE T L p)))), (0, .ref (x 4)), (1, .ref (h 0))] dX10_isBears_17 rfl (by decide) rfl ?_
    refine g_aload_n hC dX10_isBears_18 rfl 1 rfl ?_
    refine g_aload_n hC dX10_isBears_19 rfl 2 rfl ?_
    refine g_get hC 2 5 1 inX5 m1_42 dX10_isBears_20 rfl rfl (by decide) rfl ?_
    refine g_callV hC (f_X10_isNumberNext (kl K) E x (nI (tY T L (tE T L p))) (nI (tA T L (tE T L p))) (if tK T L (tE T L p) = 2 then nI (tV T L (tE T L p)) else vl) T L (tE T L (tE T L p)) n (by omega) (hT) (tE_le (tE_le hp)) (by omega)) wX10_isNumberNext m2_115 dX10_isBears_23 [0, 1] [(x 4, .inr (10, oT x (nI L) (nI (tY T L (tE T L (tE T L p)))) (nI (tA T L (tE T L (tE T L p)))) (nI (tE T L (tE T L (tE T L p)))) (if tK T L (tE T L (tE T L p)) = 2 then nI (tV T L (tE T L (tE T L p))) else (if tK T L (tE T L p) = 2 then nI (tV T L (tE T L p)) else vl)))), (x 5, .inl (E.2.1 1, 150, .inl (nf T))), (h 0, .inr (5, oH h da (nI n) (nI 0) (nI 0) (nI 0))), (h 1, .inl (E.2.1 0, 7, .inl (nf kd))), (h 2, .inl (E.2.1 0, 7, .inl (nf pl))), (h 3, .inl (E.2.1 0, 7, .inl (nf bn)))] 0 10 rfl rfl (by decide) rfl (Nat.le_of_ble_eq_true rfl) rfl rfl rfl rfl rfl ?_
    refine g_if_neB (tgt := 31) hC dX10_isBears_26 (by decide) (fun h_26 => ?_) (fun h_26 => ?_)
    · have hq2 := (nmO_K h_26).2
      refine g_aload_n hC dX10_isBears_31 rfl 2 rfl ?_
      refine g_iload_n hC dX10_isBears_32 rfl 0 rfl ?_
      refine g_aload_n hC dX10_isBears_33 rfl 1 rfl ?_
      refine g_get hC 0 10 5 inX10 m1_106 dX10_isBears_34 rfl rfl (by decide) rfl ?_
      refine g_val (v' := .int (nI (tV T L (tE T L (tE T L p))))) (by rw [if_pos (nmO_K h_26).1]) ?_
      refine g_callV hC (f_X5_give_y (kl K) E h da (nI 0) (nI 0) (nI 0) bn n (tV T L (tE T L p)) (tV T L (tE T L (tE T L p))) (by omega) (hb) (by omega) (by omega)) wX5_give m2_135 dX10_isBears_37 [2, 5] [(x 4, .inr (10, oT x (nI L) (nI (tY T L (tE T L (tE T L p)))) (nI (tA T L (tE T L (tE T L p)))) (nI (tE T L (tE T L (tE T L p)))) (if tK T L (tE T L (tE T L p)) = 2 then nI (tV T L (tE T L (tE T L p))) else (if tK T L (tE T L p) = 2 then nI (tV T L (tE T L p)) else vl)))), (x 5, .inl (E.2.1 1, 150, .inl (nf T))), (h 0, .inr (5, oH h da (nI n) (nI 0) (nI 0) (nI 0))), (h 1, .inl (E.2.1 0, 7, .inl (nf kd))), (h 2, .inl (E.2.1 0, 7, .inl (nf pl))), (h 3, .inl (E.2.1 0, 7, .inl (nf (un (gvN bn (tV T L (tE T L p)) n) (tV T L (tE T L (tE T L p))) (gvN bn (tV T L (tE T L p)) n (tV T L (tE T L (tE T L p))) ||| 2 ^ (tV T L (tE T L p)))))))] 2 5 rfl rfl (by decide) rfl (Nat.le_of_ble_eq_true rfl) rfl rfl rfl rfl rfl ?_
      refine g_iconst (v := (nI 1)) hC dX10_isBears_40 (by decide) ?_
      exact g_val (by rw [(pR_t h_8 h_26).1] <;> rfl) (g_ws (by rw [(pR_t h_8 h_26).1] <;> rfl) (hR (fun jx => (fun _ => (if tK T L (tE T L (tE T L p)) = 2 then nI (tV T L (tE T L (tE T L p))) else (if tK T L (tE T L p) = 2 then nI (tV T L (tE T L p)) else vl)))) _ _ dX10_isBears_41))
    · refine g_iconst (v := (nI 0)) hC dX10_isBears_29 (by decide) ?_
      exact g_val (by rw [pR_g h_8 h_26] <;> rfl) (g_ws (by rw [pR_g h_8 h_26] <;> rfl) (hR (fun jx => (fun _ => (if tK T L (tE T L (tE T L p)) = 2 then nI (tV T L (tE T L (tE T L p))) else (if tK T L (tE T L p) = 2 then nI (tV T L (tE T L p)) else vl)))) _ _ dX10_isBears_30))
  · refine g_iconst (v := (nI 0)) hC dX10_isBears_11 (by decide) ?_
    exact g_val (by rw [pR_f h_8] <;> rfl) (g_ws (by rw [pR_f h_8] <;> rfl) (hR (fun jx => (fun _ => (if tK T L (tE T L p) = 2 then nI (tV T L (tE T L p)) else vl))) _ _ dX10_isBears_12))
set_option maxHeartbeats 4000000 in
set_option maxRecDepth 100000 in
theorem f_X10_isNone (l : Launch) (E : Ew) (x : Nat → Nat) (vl : Int32) (T : Nat → Nat) (L : Nat) (p : Nat) (h : Nat → Nat) (da : Int32) (kd : Nat → Nat) (pl : Nat → Nat) (bn : Nat → Nat) (n : Nat) (hL : L ≤ 150) (hT : ∀ j, j < L → T j < 128) (hp : p ≤ L) (hn7 : n ≤ 7) (hb : ∀ j, j < 7 → bn j < 2147483648) : Fe l E 3 yX10_isNone cX10_isNone 2 (some .boolean) [.ref (x 4), .ref (h 0)] [(x 4, .inr (10, oT x (nI L) (nI (tY T L p)) (nI (tA T L p)) (nI (tE T L p)) vl)), (x 5, .inl (E.2.1 1, 150, .inl (nf T))), (h 0, .inr (5, oH h da (nI n) (nI 0) (nI 0) (nI 0))), (h 1, .inl (E.2.1 0, 7, .inl (nf kd))), (h 2, .inl (E.2.1 0, 7, .inl (nf pl))), (h 3, .inl (E.2.1 0, 7, .inl (nf bn)))] (some (.int (bI ((pZ T L p zz n).1)))) (fun jj => [(x 4, .inr (10, oT x (nI L) (nI (tY T L (if (pZ T L p zz n).1 = true then (tE T L p) else (pZ T L p zz n).2.1))) (nI (tA T L (if (pZ T L p zz n).1 = true then (tE T L p) else (pZ T L p zz n).2.1))) (nI (tE T L (if (pZ T L p zz n).1 = true then (tE T L p) else (pZ T L p zz n).2.1))) (jj 0 0))), (x 5, .inl (E.2.1 1, 150, .inl (nf T))), (h 0, .inr (5, oH h da (nI n) (nI 0) (nI 0) (nI 0))), (h 1, .inl (E.2.1 0, 7, .inl (nf (kd)))), (h 2, .inl (E.2.1 0, 7, .inl (nf (pl)))), (h 3, .inl (E.2.1 0, 7, .inl (nf (if (pZ T L p zz n).1 = true then gvN bn (tV T L (tE T L p)) n else bn))))]) := by
  refine fe_Z (by decide) (Nat.le_of_ble_eq_true rfl) (fun _ => rfl) (nar_bI _) ?_
  intro K hC hR
  show G K E 2 [(x 4, .inr (10, oT x (nI L) (nI (tY T L p)) (nI (tA T L p)) (nI (tE T L p)) vl)), (x 5, .inl (E.2.1 1, 150, .inl (nf T))), (h 0, .inr (5, oH h da (nI n) (nI 0) (nI 0) (nI 0))), (h 1, .inl (E.2.1 0, 7, .inl (nf kd))), (h 2, .inl (E.2.1 0, 7, .inl (nf pl))), (h 3, .inl (E.2.1 0, 7, .inl (nf bn)))] [(0, .ref (x 4)), (1, .ref (h 0))] 0 []
  refine g_aload_n hC dX10_isNone_0 rfl 0 rfl ?_
  refine g_aload_n hC dX10_isNone_1 rfl 1 rfl ?_
  refine g_get hC 2 5 1 inX5 m1_42 dX10_isNone_2 rfl rfl (by decide) rfl ?_
  refine g_callV hC (f_X10_isNumberNext (kl K) E x (nI (tY T L p)) (nI (tA T L p)) vl T L (tE T L p) n (by omega) (hT) (tE_le hp) (by omega)) wX10_isNumberNext m2_115 dX10_isNone_5 [0, 1] [(x 4, .inr (10, oT x (nI L) (nI (tY T L (tE T L p))) (nI (tA T L (tE T L p))) (nI (tE T L (tE T L p))) (if tK T L (tE T L p) = 2 then nI (tV T L (tE T L p)) else vl))), (x 5, .inl (E.2.1 1, 150, .inl (nf T))), (h 0, .inr (5, oH h da (nI n) (nI 0) (nI 0) (nI 0))), (h 1, .inl (E.2.1 0, 7, .inl (nf kd))), (h 2, .inl (E.2.1 0, 7, .inl (nf pl))), (h 3, .inl (E.2.1 0, 7, .inl (nf bn)))] 0 10 rfl rfl (by decide) rfl (Nat.le_of_ble_eq_true rfl) rfl rfl rfl rfl rfl ?_
  refine g_if_neB (tgt := 13) hC dX10_isNone_8 (by decide) (fun h_8 => ?_) (fun h_8 => ?_)
  · have hq1 := (nmO_K h_8).2
    refine g_aload_n hC dX10_isNone_13 rfl 1 rfl ?_
    refine g_aload_n hC dX10_isNone_14 rfl 0 rfl ?_
    refine g_get hC 0 10 5 inX10 m1_106 dX10_isNone_15 rfl rfl (by decide) rfl ?_
    refine g_val (v' := .int (nI (tV T L (tE T L p)))) (by rw [if_pos (nmO_K h_8).1]) ?_
    refine g_iconst (v := (-1)) hC dX10_isNone_18 (by decide) ?_
    refine g_callV hC (f_X5_give_n (kl K) E h da (nI 0) (nI 0) (nI 0) bn n (tV T L (tE T L p)) (by omega) (hb) (by omega)) wX5_give m2_135 dX10_isNone_19 [2, 5] [(x 4, .inr (10, oT x (nI L) (nI (tY T L (tE T L p))) (nI (tA T L (tE T L p))) (nI (tE T L (tE T L p))) (if tK T L (tE T L p) = 2 then nI (tV T L (tE T L p)) else vl))), (x 5, .inl (E.2.1 1, 150, .inl (nf T))), (h 0, .inr (5, oH h da (nI n) (nI 0) (nI 0) (nI 0))), (h 1, .inl (E.2.1 0, 7, .inl (nf kd))), (h 2, .inl (E.2.1 0, 7, .inl (nf pl))), (h 3, .inl (E.2.1 0, 7, .inl (nf (gvN bn (tV T L (tE T L p)) n))))] 2 5 rfl rfl (by decide) rfl (Nat.le_of_ble_eq_true rfl) rfl rfl rfl rfl rfl ?_
    refine g_iconst (v := (nI 1)) hC dX10_isNone_22 (by decide) ?_
    exact g_val (by rw [(pZ_t h_8).1] <;> rfl) (g_ws (by rw [(pZ_t h_8).1] <;> rfl) (hR (fun jx => (fun _ => (if tK T L (tE T L p) = 2 then nI (tV T L (tE T L p)) else vl))) _ _ dX10_isNone_23))
  · refine g_iconst (v := (nI 0)) hC dX10_isNone_11 (by decide) ?_
    exact g_val (by rw [pZ_f h_8] <;> rfl) (g_ws (by rw [pZ_f h_8] <;> rfl) (hR (fun jx => (fun _ => (if tK T L (tE T L p) = 2 then nI (tV T L (tE T L p)) else vl))) _ _ dX10_isNone_12))
set_option maxHeartbeats 4000000 in
set_option maxRecDepth 100000 in
theorem f_X10_isItem (l : Launch) (E : Ew) (x : Nat → Nat) (vl : Int32) (T : Nat → Nat) (L : Nat) (p : Nat) (h : Nat → Nat) (da : Int32) (kd : Nat → Nat) (pl : Nat → Nat) (bn : Nat → Nat) (n : Nat) (hL : L ≤ 150) (hT : ∀ j, j < L → T j < 128) (hp : p ≤ L) (hn7 : n ≤ 7) (hb : ∀ j, j < 7 → bn j < 2147483648) : Fe l E 5 yX10_isItem cX10_isItem 2 (some .boolean) [.ref (x 4), .ref (h 0)] [(x 4, .inr (10, oT x (nI L) (nI (tY T L p)) (nI (tA T L p)) (nI (tE T L p)) vl)), (x 5, .inl (E.2.1 1, 150, .inl (nf T))), (h 0, .inr (5, oH h da (nI n) (nI 0) (nI 0) (nI 0))), (h 1, .inl (E.2.1 0, 7, .inl (nf kd))), (h 2, .inl (E.2.1 0, 7, .inl (nf pl))), (h 3, .inl (E.2.1 0, 7, .inl (nf bn)))] (some (.int (bI ((pI T L p zz n).1)))) (fun jj => [(x 4, .inr (10, oT x (nI L) (nI (tY T L (ciQ T L p n))) (nI (tA T L (ciQ T L p n))) (nI (tE T L (ciQ T L p n))) (jj 0 0))), (x 5, .inl (E.2.1 1, 150, .inl (nf T))), (h 0, .inr (5, oH h da (nI (ciN T L p n)) (nI 0) (nI 0) (nI 0))), (h 1, .inl (E.2.1 0, 7, .inl (nf (ciK T L p kd n)))), (h 2, .inl (E.2.1 0, 7, .inl (nf (ciL T L p pl n)))), (h 3, .inl (E.2.1 0, 7, .inl (nf (ciB T L p bn n))))]) := by
  refine fe_Z (by decide) (Nat.le_of_ble_eq_true rfl) (fun _ => rfl) (nar_bI _) ?_
  intro K hC hR
  show G K E 2 [(x 4, .inr (10, oT x (nI L) (nI (tY T L p)) (nI (tA T L p)) (nI (tE T L p)) vl)), (x 5, .inl (E.2.1 1, 150, .inl (nf T))), (h 0, .inr (5, oH h da (nI n) (nI 0) (nI 0) (nI 0))), (h 1, .inl (E.2.1 0, 7, .inl (nf kd))), (h 2, .inl (E.2.1 0, 7, .inl (nf pl))), (h 3, .inl (E.2.1 0, 7, .inl (nf bn)))] [(0, .ref (x 4)), (1, .ref (h 0))] 0 []
  refine g_aload_n hC dX10_isItem_0 rfl 0 rfl ?_
  refine g_ldcS1 hC dX10_isItem_1 ?_
  refine g_callV hC (f_X10_isWord (kl K) E x vl T L p 1 (by omega) (hT) (by omega) (by decide)) wX10_isWord m2_63 dX10_isItem_3 [0, 1] [(x 4, .inr (10, oT x (nI L) (nI (tY T L p)) (nI (tA T L p)) (nI (tE T L p)) vl)), (x 5, .inl (E.2.1 1, 150, .inl (nf T))), (h 0, .inr (5, oH h da (nI n) (nI 0) (nI 0) (nI 0))), (h 1, .inl (E.2.1 0, 7, .inl (nf kd))), (h 2, .inl (E.2.1 0, 7, .inl (nf pl))), (h 3, .inl (E.2.1 0, 7, .inl (nf bn)))] 0 10 rfl rfl (by decide) rfl (Nat.le_of_ble_eq_true rfl) rfl rfl rfl rfl rfl ?_
  refine g_val (v' := .int (bI (isOnW T L p))) (by rw [cspl_1]) ?_
  refine g_if_eqB (tgt := 32) hC dX10_isItem_6 (by decide) (fun h_6 => ?_) (fun h_6 => ?_)
  · refine g_aload_n hC dX10_isItem_32 rfl 0 rfl ?_
    refine g_ldcS2 hC dX10_isItem_33 ?_
    refine g_callV hC (f_X10_isWord (kl K) E x vl T L p 2 (by omega) (hT) (by omega) (by decide)) wX10_isWord m2_63 dX10_isItem_35 [0, 1] [(x 4, .inr (10, oT x (nI L) (nI (tY T L p)) (nI (tA T L p)) (nI (tE T L p)) vl)), (x 5, .inl (E.2.1 1, 150, .inl (nf T))), (h 0, .inr (5, oH h da (nI n) (nI 0) (nI 0) (nI 0))), (h 1, .inl (E.2.1 0, 7, .inl (nf kd))), (h 2, .inl (E.2.1 0, 7, .inl (nf pl))), (h 3, .inl (E.2.1 0, 7, .inl (nf bn)))] 0 10 rfl rfl (by decide) rfl (Nat.le_of_ble_eq_true rfl) rfl rfl rfl rfl rfl ?_
    refine g_val (v' := .int (bI (isBea T L p))) (by rw [cspl_2]) ?_
    refine g_if_eqB (tgt := 47) hC dX10_isItem_38 (by decide) (fun h_38 => ?_) (fun h_38 => ?_)
    · refine g_aload_n hC dX10_isItem_47 rfl 0 rfl ?_
      refine g_ldcS3 hC dX10_isItem_48 ?_
      refine g_callV hC (f_X10_isWord (kl K) E x vl T L p 3 (by omega) (hT) (by omega) (by decide)) wX10_isWord m2_63 dX10_isItem_50 [0, 1] [(x 4, .inr (10, oT x (nI L) (nI (tY T L p)) (nI (tA T L p)) (nI (tE T L p)) vl)), (x 5, .inl (E.2.1 1, 150, .inl (nf T))), (h 0, .inr (5, oH h da (nI n) (nI 0) (nI 0) (nI 0))), (h 1, .inl (E.2.1 0, 7, .inl (nf kd))), (h 2, .inl (E.2.1 0, 7, .inl (nf pl))), (h 3, .inl (E.2.1 0, 7, .inl (nf bn)))] 0 10 rfl rfl (by decide) rfl (Nat.le_of_ble_eq_true rfl) rfl rfl rfl rfl rfl ?_
      refine g_val (v' := .int (bI (isNon T L p))) (by rw [cspl_3]) ?_
      refine g_if_eqB (tgt := 68) hC dX10_isItem_53 (by decide) (fun h_53 => ?_) (fun h_53 => ?_)
      · refine g_iconst (v := (nI 0)) hC dX10_isItem_68 (by decide) ?_
        exact g_val (by unfold pI; simp only [if_neg (show ¬ isOnW T L p = true by rw [h_6]; decide), if_neg (show ¬ isBea T L p = true by rw [h_38]; decide), if_neg (show ¬ isNon T L p = true by rw [h_53]; decide)] <;> rfl) (g_ws (by unfold ciQ ciK ciL ciB ciN; simp only [if_neg (show ¬ isOnW T L p = true by rw [h_6]; decide), if_neg (show ¬ isBea T L p = true by rw [h_38]; decide), if_neg (show ¬ isNon T L p = true by rw [h_53]; decide)] <;> rfl) (hR (fun jx => (fun _ => vl)) _ _ dX10_isItem_69))
      · refine g_aload_n hC dX10_isItem_56 rfl 0 rfl ?_
        refine g_aload_n hC dX10_isItem_57 rfl 1 rfl ?_
        refine g_callVE hC (f_X10_isNone (kl K) E x vl T L p h da kd pl bn n (by omega) (hT) (by omega) (by omega) (hb)) wX10_isNone m2_141 dX10_isItem_58 [0, 1, 2, 3, 4, 5] (fun jj => [(x 4, .inr (10, oT x (nI L) (nI (tY T L (if (pZ T L p zz n).1 = true then (tE T L p) else (pZ T L p zz n).2.1))) (nI (tA T L (if (pZ T L p zz n).1 = true then (tE T L p) else (pZ T L p zz n).2.1))) (nI (tE T L (if (pZ T L p zz n).1 = true then (tE T L p) else (pZ T L p zz n).2.1))) (jj 0 0))), (x 5, .inl (E.2.1 1, 150, .inl (nf T))), (h 0, .inr (5, oH h da (nI n) (nI 0) (nI 0) (nI 0))), (h 1, .inl (E.2.1 0, 7, .inl (nf (kd)))), (h 2, .inl (E.2.1 0, 7, .inl (nf (pl)))), (h 3, .inl (E.2.1 0, 7, .inl (nf (if (pZ T L p zz n).1 = true then gvN bn (tV T L (tE T L p)) n else bn))))]) 0 10 rfl rfl (by decide) rfl (Nat.le_of_ble_eq_true rfl) rfl rfl rfl (fun _ => rfl) (fun _ => rfl) (fun jj_58 => ?_)
        refine g_if_eqB (tgt := 68) hC dX10_isItem_61 (by decide) (fun h_61 => ?_) (fun h_61 => ?_)
        · refine g_iconst (v := (nI 0)) hC dX10_isItem_68 (by decide) ?_
          exact g_val (by unfold pI; simp only [if_neg (show ¬ isOnW T L p = true by rw [h_6]; decide), if_neg (show ¬ isBea T L p = true by rw [h_38]; decide), if_pos h_53]; exact bI_0e h_61) (g_ws (by unfold ciQ ciK ciL ciB ciN; simp only [if_neg (show ¬ isOnW T L p = true by rw [h_6]; decide), if_neg (show ¬ isBea T L p = true by rw [h_38]; decide), if_pos h_53]) (hR (fun jx => (fun _ => (jj_58 0 0))) _ _ dX10_isItem_69))
        · refine g_iconst (v := (nI 1)) hC dX10_isItem_64 (by decide) ?_
          refine g_goto (tgt := 69) hC dX10_isItem_65 (by decide) ?_
          exact g_val (by unfold pI; simp only [if_neg (show ¬ isOnW T L p = true by rw [h_6]; decide), if_neg (show ¬ isBea T L p = true by rw [h_38]; decide), if_pos h_53]; exact bI_1e h_61) (g_ws (by unfold ciQ ciK ciL ciB ciN; simp only [if_neg (show ¬ isOnW T L p = true by rw [h_6]; decide), if_neg (show ¬ isBea T L p = true by rw [h_38]; decide), if_pos h_53]) (hR (fun jx => (fun _ => (jj_58 0 0))) _ _ dX10_isItem_69))
    · refine g_aload_n hC dX10_isItem_41 rfl 0 rfl ?_
      refine g_aload_n hC dX10_isItem_42 rfl 1 rfl ?_
      refine g_callVE hC (f_X10_isBears (kl K) E x vl T L p h da kd pl bn n (by omega) (hT) (by omega) (by omega) (hb)) wX10_isBears m2_131 dX10_isItem_43 [0, 1, 2, 3, 4, 5] (fun jj => [(x 4, .inr (10, oT x (nI L) (nI (tY T L (if (pR T L p zz n).1 = true then (tE T L (tE T L p)) else (pR T L p zz n).2.1))) (nI (tA T L (if (pR T L p zz n).1 = true then (tE T L (tE T L p)) else (pR T L p zz n).2.1))) (nI (tE T L (if (pR T L p zz n).1 = true then (tE T L (tE T L p)) else (pR T L p zz n).2.1))) (jj 0 0))), (x 5, .inl (E.2.1 1, 150, .inl (nf T))), (h 0, .inr (5, oH h da (nI n) (nI 0) (nI 0) (nI 0))), (h 1, .inl (E.2.1 0, 7, .inl (nf (kd)))), (h 2, .inl (E.2.1 0, 7, .inl (nf (pl)))), (h 3, .inl (E.2.1 0, 7, .inl (nf (if (pR T L p zz n).1 = true then gvY bn (tV T L (tE T L p)) (tV T L (tE T L (tE T L p))) n else bn))))]) 0 10 rfl rfl (by decide) rfl (Nat.le_of_ble_eq_true rfl) rfl rfl rfl (fun _ => rfl) (fun _ => rfl) (fun jj_43 => ?_)
      exact g_val (by unfold pI; simp only [if_neg (show ¬ isOnW T L p = true by rw [h_6]; decide), if_pos h_38]) (g_ws (by unfold ciQ ciK ciL ciB ciN; simp only [if_neg (show ¬ isOnW T L p = true by rw [h_6]; decide), if_pos h_38]) (hR (fun jx => (fun _ => (jj_43 0 0))) _ _ dX10_isItem_46))
  · refine g_aload_n hC dX10_isItem_9 rfl 1 rfl ?_
    refine g_get hC 2 5 1 inX5 m1_42 dX10_isItem_10 rfl rfl (by decide) rfl ?_
    refine g_bipush (v := (nI 7)) hC dX10_isItem_13 (by decide) ?_
    refine g_icmp_geN (tgt := 30) hC dX10_isItem_15 (by decide) (by omega) (by omega) (fun h_15 => ?_) (fun h_15 => ?_)
    · refine g_iconst (v := (nI 0)) hC dX10_isItem_30 (by decide) ?_
      exact g_val (by unfold pI; simp only [if_pos h_6]; rw [pO_7 (show n = 7 by omega)] <;> rfl) (g_ws (by unfold ciQ ciK ciL ciB ciN; simp only [if_pos h_6]; rw [pO_7 (show n = 7 by omega)] <;> rfl) (hR (fun jx => (fun _ => vl)) _ _ dX10_isItem_31))
    · refine g_aload_n hC dX10_isItem_18 rfl 0 rfl ?_
      refine g_aload_n hC dX10_isItem_19 rfl 1 rfl ?_
      refine g_callVE hC (f_X10_isOne (kl K) E x vl T L p h da kd pl bn n (by omega) (hT) (by omega) (by omega)) wX10_isOne m2_125 dX10_isItem_20 [0, 1, 2, 3, 4, 5] (fun jj => [(x 4, .inr (10, oT x (nI L) (nI (tY T L (if (pO T L p zz n).1 = true then (tE T L (tE T L p)) else (pO T L p zz n).2.1))) (nI (tA T L (if (pO T L p zz n).1 = true then (tE T L (tE T L p)) else (pO T L p zz n).2.1))) (nI (tE T L (if (pO T L p zz n).1 = true then (tE T L (tE T L p)) else (pO T L p zz n).2.1))) (jj 0 0))), (x 5, .inl (E.2.1 1, 150, .inl (nf T))), (h 0, .inr (5, oH h da (nI (if (pO T L p zz n).1 = true then n + 1 else n)) (nI 0) (nI 0) (nI 0))), (h 1, .inl (E.2.1 0, 7, .inl (nf (if (pO T L p zz n).1 = true then un kd n (tV T L (tE T L p)) else kd)))), (h 2, .inl (E.2.1 0, 7, .inl (nf (if (pO T L p zz n).1 = true then un pl n (tV T L (tE T L (tE T L p))) else pl)))), (h 3, .inl (E.2.1 0, 7, .inl (nf (if (pO T L p zz n).1 = true then un bn n (2 ^ n) else bn))))]) 0 10 rfl rfl (by decide) rfl (Nat.le_of_ble_eq_true rfl) rfl rfl rfl (fun _ => rfl) (fun _ => rfl) (fun jj_20 => ?_)
      refine g_if_eqB (tgt := 30) hC dX10_isItem_23 (by decide) (fun h_23 => ?_) (fun h_23 => ?_)
      · refine g_iconst (v := (nI 0)) hC dX10_isItem_30 (by decide) ?_
        exact g_val (by unfold pI; simp only [if_pos h_6]; exact bI_0e h_23) (g_ws (by unfold ciQ ciK ciL ciB ciN; simp only [if_pos h_6]) (hR (fun jx => (fun _ => (jj_20 0 0))) _ _ dX10_isItem_31))
      · refine g_iconst (v := (nI 1)) hC dX10_isItem_26 (by decide) ?_
        refine g_goto (tgt := 31) hC dX10_isItem_27 (by decide) ?_
        exact g_val (by unfold pI; simp only [if_pos h_6]; exact bI_1e h_23) (g_ws (by unfold ciQ ciK ciL ciB ciN; simp only [if_pos h_6]) (hR (fun jx => (fun _ => (jj_20 0 0))) _ _ dX10_isItem_31))
