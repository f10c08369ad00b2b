/-- the items one behind another, over any state that has people -/
def gL {σ : Type} (nn : σ → Nat) (up : Nat → σ → σ) (T : Nat → Nat) (L : Nat) : Nat → Nat → σ → Nat → Bool × Nat × σ
  | 0, i, s, _ => (false, i, s)
  | f + 1, i, s, m => if tK T L i = 0 then (true, m, s)
    else if (pI T L i zz (nn s)).1 = false then (false, tA T L (pI T L i zz (nn s)).2.1, s)
    else if tK T L (pI T L i zz (nn s)).2.1 = 3 then gL nn up T L f (tE T L (pI T L i zz (nn s)).2.1) (up i s) (m + 1)
    else (false, tA T L (pI T L i zz (nn s)).2.1, s)
abbrev Cs : Type := (Nat → Nat) × (Nat → Nat) × (Nat → Nat) × Nat
def cnn (s : Cs) : Nat := s.2.2.2
def cup (T : Nat → Nat) (L i : Nat) (s : Cs) : Cs := (ciK T L i s.1 s.2.2.2, ciL T L i s.2.1 s.2.2.2, ciB T L i s.2.2.1 s.2.2.2, ciN T L i s.2.2.2)
def rdC (T : Nat → Nat) (L : Nat) (kd pl : Nat → Nat) : Bool × Nat × Cs :=
  if (hmP T L 0 zz).1 = true then gL cnn (cup T L) T L (L + 1) (tE T L (hmP T L 0 zz).2.1) (kd, pl, fun _ => 0, 0) 1
  else (false, tA T L (hmP T L 0 zz).2.1, (kd, pl, fun _ => 0, 0))
theorem ciN_7 {T : Nat → Nat} {L p n : Nat} (h : n ≤ 7) : ciN T L p n ≤ 7 := by
  unfold ciN
  split
  · split
    · rename_i q; have := (pO_1 q).2.1; omega
    · exact h
  · exact h
theorem ciB_31 {T : Nat → Nat} {L p n : Nat} {bn : Nat → Nat} (hn : n ≤ 7) (h : ∀ j, j < 7 → bn j < 128) : ∀ j, j < 7 → ciB T L p bn n j < 128 := by
  intro j hj
  have h2 : ∀ k, k < 7 → 2 ^ k < 128 := fun k hk => Nat.pow_lt_pow_right (a := 2) (by decide) hk
  have hg : ∀ v j, j < 7 → gvN bn v n j < 128 := fun v j hj => by
    unfold gvN; split
    · exact andn_128 (h j hj)
    · exact h j hj
  unfold ciB
  split
  · split
    · rename_i q
      have := (pO_1 q).2.1
      by_cases e : j = n
      · rw [e, un_s]; exact h2 n (by omega)
      · rw [un_n e]; exact h j hj
    · exact h j hj
  · split
    · split
      · rename_i q
        have q1 := (nmO_K (pR_1 q).2.1).2
        have q2 := (nmO_K (pR_1 q).2.2).2
        unfold gvY
        by_cases e : j = tV T L (tE T L (tE T L p))
        · rw [e, un_s]; exact or_128 (hg _ _ (by omega)) (h2 _ (by omega))
        · rw [un_n e]; exact hg _ j hj
      · exact h j hj
    · split
      · split
        · exact hg _ j hj
        · exact h j hj
      · exact h j hj
theorem tK_Y3 {T : Nat → Nat} {L i : Nat} : tK T L i = 3 ↔ tY T L i = 3 := by
  unfold tK
  by_cases h : tY T L i = 2 ∧ 2 < tE T L i - tA T L i
  · rw [if_pos h]; omega
  · rw [if_neg h]
theorem tK_Y0 {T : Nat → Nat} {L i : Nat} : tK T L i = 0 ↔ tY T L i = 0 := by
  unfold tK
  by_cases h : tY T L i = 2 ∧ 2 < tE T L i - tA T L i
  · rw [if_pos h]; omega
  · rw [if_neg h]
theorem ciQ_le {T : Nat → Nat} {L p n : Nat} (h : p ≤ L) : ciQ T L p n ≤ L := by
  have l1 := tE_le (T := T) h
  have l2 := tE_le (T := T) l1
  cases q : (pI T L p zz n).1
  · rw [ciQ_f q]; exact (pI_in h).2
  · unfold ciQ
    unfold pI at q
    split
    · rename_i q1; rw [if_pos q1] at q; rw [if_pos q]; exact l2
    · rename_i q1; rw [if_neg q1] at q
      split
      · rename_i q2; rw [if_pos q2] at q; rw [if_pos q]; exact l2
      · rename_i q2; rw [if_neg q2] at q
        split
        · rename_i q3; rw [if_pos q3] at q; rw [if_pos q]; exact l1
        · exact h
/-- what stands at the head of the class's loop: at q the last number, the state s, m items -/
def tellH (T : Nat → Nat) (L f q : Nat) (s : Cs) (m : Nat) (R : Bool × Nat × Cs) : Prop := (tK T L (tE T L q) = 3 → gL cnn (cup T L) T L f (tE T L (tE T L q)) s m = R) ∧ (tK T L (tE T L q) ≠ 3 → R.1 = false ∧ R.2.1 = tA T L (tE T L q))
theorem tellH_0 {T : Nat → Nat} {L : Nat} {kd pl : Nat → Nat} (h1 : isHam T L 0 = true) (h2 : nmO T L (tE T L 0) 100 = true) : tellH T L (L + 1) (tE T L 0) (kd, pl, fun _ => 0, 0) 1 (rdC T L kd pl) := by
  have e : hmP T L 0 zz = (decide (tK T L (tE T L (tE T L 0)) = 3), tE T L (tE T L 0), beg zz (nI (tV T L (tE T L 0)))) := by
    unfold hmP; rw [if_neg (by rw [h1]; decide), if_neg (by rw [h2]; decide)]
  refine ⟨fun h => ?_, fun h => ?_⟩
  · unfold rdC; rw [e, if_pos (decide_eq_true h)]
  · unfold rdC; rw [e, if_neg (by simp [h])]; exact ⟨rfl, rfl⟩
theorem tell_bad {T : Nat → Nat} {L : Nat} {kd pl : Nat → Nat} (h : isHam T L 0 = false ∨ isHam T L 0 = true ∧ nmO T L (tE T L 0) 100 = false) : (rdC T L kd pl).1 = false ∧ (rdC T L kd pl).2.1 = tA T L (if isHam T L 0 = true then tE T L 0 else 0) := by
  rcases h with h | ⟨h, h2⟩
  · have e : hmP T L 0 zz = (false, 0, zz) := by unfold hmP; rw [if_pos h]
    unfold rdC; rw [e, h]; exact ⟨rfl, rfl⟩
  · have e : hmP T L 0 zz = (false, tE T L 0, zz) := by unfold hmP; rw [if_neg (by rw [h]; decide), if_pos h2]
    unfold rdC; rw [e, h]; exact ⟨rfl, rfl⟩
theorem tellH_end {T : Nat → Nat} {L f q m : Nat} {s : Cs} {R : Bool × Nat × Cs} (h : tellH T L f q s m R) (hf : 0 < f) (h3 : tK T L (tE T L q) = 3) (h0 : tK T L (tE T L (tE T L q)) = 0) : R = (true, m, s) := by
  rw [← h.1 h3, show f = (f - 1) + 1 by omega, gL, if_pos h0]
theorem tellH_no {T : Nat → Nat} {L f q m : Nat} {s : Cs} {R : Bool × Nat × Cs} (h : tellH T L f q s m R) (hf : 0 < f) (h3 : tK T L (tE T L q) = 3) (h0 : tK T L (tE T L (tE T L q)) ≠ 0) (hp : (pI T L (tE T L (tE T L q)) zz s.2.2.2).1 = false) : R.1 = false ∧ R.2.1 = tA T L (ciQ T L (tE T L (tE T L q)) s.2.2.2) := by
  have e := h.1 h3
  rw [show f = (f - 1) + 1 by omega, gL, if_neg h0, if_pos (show (pI T L (tE T L (tE T L q)) zz (cnn s)).1 = false from hp)] at e
  rw [← e, ciQ_f hp]; exact ⟨rfl, rfl⟩
theorem tellH_s {T : Nat → Nat} {L f q m : Nat} {s : Cs} {R : Bool × Nat × Cs} (h : tellH T L f q s m R) (hf : 0 < f) (h3 : tK T L (tE T L q) = 3) (h0 : tK T L (tE T L (tE T L q)) ≠ 0) (hp : (pI T L (tE T L (tE T L q)) zz s.2.2.2).1 = true) : tellH T L (f - 1) (ciQ T L (tE T L (tE T L q)) s.2.2.2) (cup T L (tE T L (tE T L q)) s) (m + 1) R := by
  have e := h.1 h3
  rw [show f = (f - 1) + 1 by omega, gL, if_neg h0, if_neg (show ¬ (pI T L (tE T L (tE T L q)) zz (cnn s)).1 = false by show ¬ (pI T L (tE T L (tE T L q)) zz s.2.2.2).1 = false; rw [hp]; decide)] at e
  have e2 := ciQ_t hp
  refine ⟨fun q3 => ?_, fun q3 => ?_⟩
  · rw [e2] at q3 ⊢
    rw [if_pos (show tK T L (pI T L (tE T L (tE T L q)) zz (cnn s)).2.1 = 3 from q3)] at e
    exact e
  · rw [e2] at q3 ⊢
    rw [if_neg (show ¬ tK T L (pI T L (tE T L (tE T L q)) zz (cnn s)).2.1 = 3 from q3)] at e
    rw [← e]; exact ⟨rfl, rfl⟩
theorem tellH_go {T : Nat → Nat} {L q n : Nat} (hq : q ≤ L) (h3 : tK T L (tE T L q) = 3) (hp : (pI T L (tE T L (tE T L q)) zz n).1 = true) : tE T L q + 1 ≤ tE T L (ciQ T L (tE T L (tE T L q)) n) ∧ tE T L (tE T L q) + 1 ≤ tE T L (tE T L (ciQ T L (tE T L (tE T L q)) n)) + 1 := by
  have a1 := tK_3 h3
  have a2 := tA_ge T L (tE T L q)
  rw [ciQ_t hp]
  have a3 := (pI_in (T := T) (n := n) (w := zz) (tE_le (T := T) (tE_le (T := T) hq))).1
  have a4 := tA_ge T L (pI T L (tE T L (tE T L q)) zz n).2.1
  have a5 := tE_ge T L (pI T L (tE T L (tE T L q)) zz n).2.1
  omega
theorem tellH_g2 {T : Nat → Nat} {L q n : Nat} (hq : q ≤ L) (h3 : tK T L (tE T L q) = 3) (hp : (pI T L (tE T L (tE T L q)) zz n).1 = true) : tE T L (tE T L q) + 1 ≤ tE T L (tE T L (ciQ T L (tE T L (tE T L q)) n)) ∨ tK T L (tE T L (ciQ T L (tE T L (tE T L q)) n)) ≠ 3 := by
  by_cases k3 : tK T L (tE T L (ciQ T L (tE T L (tE T L q)) n)) = 3
  · left
    have a1 := tK_3 k3
    rw [ciQ_t hp] at *
    have a3 := (pI_in (T := T) (n := n) (w := zz) (tE_le (T := T) (tE_le (T := T) hq))).1
    have a4 := tA_ge T L (pI T L (tE T L (tE T L q)) zz n).2.1
    omega
  · right; exact k3
theorem tell_m1 {T : Nat → Nat} {L : Nat} (h1 : isHam T L 0 = true) (h2 : nmO T L (tE T L 0) 100 = true) : 1 ≤ tE T L (tE T L 0) := by
  have h : tY T L (tE T L 0) = 2 := (tK_2.mp (nmO_K h2).1).1
  have hl := (tY_lt (T := T) (L := L) (i := tE T L 0) (by omega)).1
  have := tE_gt hl
  omega
theorem tellH_end' {T : Nat → Nat} {L f q m : Nat} {k1 l1 b1 : Nat → Nat} {n1 : Nat} {R : Bool × Nat × Cs} (h : tellH T L f q (k1, l1, b1, n1) m R) (hf : 0 < f) (h3 : tY T L (tE T L q) = 3) (h0 : tY T L (tE T L (tE T L q)) = 0) : R = (true, m, k1, l1, b1, n1) := tellH_end h hf (tK_Y3.mpr h3) (tK_Y0.mpr h0)
theorem tellH_no' {T : Nat → Nat} {L f q m : Nat} {k1 l1 b1 : Nat → Nat} {n1 : Nat} {R : Bool × Nat × Cs} (h : tellH T L f q (k1, l1, b1, n1) m R) (hf : 0 < f) (h3 : tY T L (tE T L q) = 3) (h0 : tY T L (tE T L (tE T L q)) ≠ 0) (hp : (pI T L (tE T L (tE T L q)) zz n1).1 = false) : R.1 = false ∧ R.2.1 = tA T L (ciQ T L (tE T L (tE T L q)) n1) := tellH_no h hf (tK_Y3.mpr h3) (mt tK_Y0.mp h0) hp
theorem tellH_s' {T : Nat → Nat} {L f q m : Nat} {k1 l1 b1 : Nat → Nat} {n1 : Nat} {R : Bool × Nat × Cs} (h : tellH T L f q (k1, l1, b1, n1) m R) (hf : 0 < f) (h3 : tY T L (tE T L q) = 3) (h0 : tY T L (tE T L (tE T L q)) ≠ 0) (hp : (pI T L (tE T L (tE T L q)) zz n1).1 = true) : tellH T L (f - 1) (ciQ T L (tE T L (tE T L q)) n1) (ciK T L (tE T L (tE T L q)) k1 n1, ciL T L (tE T L (tE T L q)) l1 n1, ciB T L (tE T L (tE T L q)) b1 n1, ciN T L (tE T L (tE T L q)) n1) (m + 1) R := by
  have e := tellH_s h hf (tK_Y3.mpr h3) (mt tK_Y0.mp h0) hp
  simp only [cup] at e
  exact e

set_option maxHeartbeats 600000 in
set_option maxRecDepth 100000 in
theorem f_X10_tell_ok (l : Launch) (E : Ew) (x : Nat → Nat) (sr : Int32) (sa : Int32) (en : Int32) (vl : Int32) (T : Nat → Nat) (L : Nat) (h : Nat → Nat) (da : Int32) (pe : Int32) (de : Int32) (no : Int32) (pa : Int32) (kd : Nat → Nat) (pl : Nat → Nat) (bn : Nat → Nat) (hL : L ≤ 150) (hT : ∀ j, j < L → T j < 128) (hk : (rdC T L kd pl).1 = true) : Fe l E 6 yX10_tell cX10_tell 3 (some .int) [.ref (x 4), .ref (h 0)] [(x 4, .inr (10, oT x (nI L) sr sa en vl)), (x 5, .inl (E.2.1 1, 150, .inl (nf T))), (h 0, .inr (5, oH h da pe de no pa)), (h 1, .inl (E.2.1 0, 7, .inl (nf kd))), (h 2, .inl (E.2.1 0, 7, .inl (nf pl))), (h 3, .inl (E.2.1 0, 7, .inl (nf bn)))] (some (.int (nI ((rdC T L kd pl).2.1)))) (fun jj => [(x 4, .inr (10, oT x (nI L) (jj 0 0) (jj 1 0) (jj 2 0) (jj 3 0))), (x 5, .inl (E.2.1 1, 150, .inl (nf T))), (h 0, .inr (5, oH h (nI (tV T L (tE T L 0))) (nI (rdC T L kd pl).2.2.2.2.2) (nI 0) (nI 0) (nI 0))), (h 1, .inl (E.2.1 0, 7, .inl (nf (rdC T L kd pl).2.2.1))), (h 2, .inl (E.2.1 0, 7, .inl (nf (rdC T L kd pl).2.2.2.1))), (h 3, .inl (E.2.1 0, 7, .inl (nf (rdC T L kd pl).2.2.2.2.1)))]) := by
  refine fe_I (by decide) (Nat.le_of_ble_eq_true rfl) (fun _ => rfl) ?_
  intro K hC hR
  show G K E 3 [(x 4, .inr (10, oT x (nI L) sr sa en vl)), (x 5, .inl (E.2.1 1, 150, .inl (nf T))), (h 0, .inr (5, oH h da pe de no pa)), (h 1, .inl (E.2.1 0, 7, .inl (nf kd))), (h 2, .inl (E.2.1 0, 7, .inl (nf pl))), (h 3, .inl (E.2.1 0, 7, .inl (nf bn)))] [(0, .ref (x 4)), (1, .ref (h 0))] 0 []
  refine g_aload_n hC dX10_tell_0 rfl 0 rfl ?_
  refine g_iconst (v := (nI 0)) hC dX10_tell_1 (by decide) ?_
  refine g_put hC 0 10 4 [(x 4, .inr (10, oT x (nI L) sr sa (nI 0) vl)), (x 5, .inl (E.2.1 1, 150, .inl (nf T))), (h 0, .inr (5, oH h da pe de no pa)), (h 1, .inl (E.2.1 0, 7, .inl (nf kd))), (h 2, .inl (E.2.1 0, 7, .inl (nf pl))), (h 3, .inl (E.2.1 0, 7, .inl (nf bn)))] .int inX10 tyX10_ok nmX10 m1_105 dX10_tell_2 rfl rfl (by decide) rfl (by decide +kernel) rfl rfl (Nat.le_of_ble_eq_true rfl) rfl ?_
  refine g_aload_n hC dX10_tell_5 rfl 0 rfl ?_
  refine g_callV hC (f_X10_advance (kl K) E x sr sa vl T L 0 (by omega) (hT) (Nat.zero_le _)) wX10_advance m2_55 dX10_tell_6 [0, 1] [(x 4, .inr (10, oT x (nI L) (nI (tY T L 0)) (nI (tA T L 0)) (nI (tE T L 0)) vl)), (x 5, .inl (E.2.1 1, 150, .inl (nf T))), (h 0, .inr (5, oH h da pe de no pa)), (h 1, .inl (E.2.1 0, 7, .inl (nf kd))), (h 2, .inl (E.2.1 0, 7, .inl (nf pl))), (h 3, .inl (E.2.1 0, 7, .inl (nf bn)))] 0 10 rfl rfl (by decide) rfl (Nat.le_of_ble_eq_true rfl) rfl rfl rfl rfl rfl ?_
  refine g_aload_n hC dX10_tell_9 rfl 0 rfl ?_
  refine g_ldcS0 hC dX10_tell_10 ?_
  refine g_callV hC (f_X10_isWord (kl K) E x vl T L 0 0 (by omega) (hT) (Nat.zero_le _) (by decide)) wX10_isWord m2_63 dX10_tell_12 [0, 1] [(x 4, .inr (10, oT x (nI L) (nI (tY T L 0)) (nI (tA T L 0)) (nI (tE T L 0)) vl)), (x 5, .inl (E.2.1 1, 150, .inl (nf T))), (h 0, .inr (5, oH h da pe de no pa)), (h 1, .inl (E.2.1 0, 7, .inl (nf kd))), (h 2, .inl (E.2.1 0, 7, .inl (nf pl))), (h 3, .inl (E.2.1 0, 7, .inl (nf bn)))] 0 10 rfl rfl (by decide) rfl (Nat.le_of_ble_eq_true rfl) rfl rfl rfl rfl rfl ?_
  refine g_val (v' := .int (bI (isHam T L 0))) (by rw [cspl_0]) ?_
  refine g_if_eqB (tgt := 27) hC dX10_tell_15 (by decide) (fun h_15 => ?_) (fun h_15 => ?_)
  · exact absurd hk (by rw [(tell_bad (Or.inl h_15)).1]; decide)
  · refine g_aload_n hC dX10_tell_18 rfl 0 rfl ?_
    refine g_bipush (v := (nI 100)) hC dX10_tell_19 (by decide) ?_
    refine g_callV hC (f_X10_isNumberNext (kl K) E x (nI (tY T L 0)) (nI (tA T L 0)) vl T L (tE T L 0) 100 (by omega) (hT) (tE_le (Nat.zero_le _)) (by omega)) wX10_isNumberNext m2_115 dX10_tell_21 [0, 1] [(x 4, .inr (10, oT x (nI L) (nI (tY T L (tE T L 0))) (nI (tA T L (tE T L 0))) (nI (tE T L (tE T L 0))) (if tK T L (tE T L 0) = 2 then nI (tV T L (tE T L 0)) else vl))), (x 5, .inl (E.2.1 1, 150, .inl (nf T))), (h 0, .inr (5, oH h da pe de no pa)), (h 1, .inl (E.2.1 0, 7, .inl (nf kd))), (h 2, .inl (E.2.1 0, 7, .inl (nf pl))), (h 3, .inl (E.2.1 0, 7, .inl (nf bn)))] 0 10 rfl rfl (by decide) rfl (Nat.le_of_ble_eq_true rfl) rfl rfl rfl rfl rfl ?_
    refine g_if_neB (tgt := 29) hC dX10_tell_24 (by decide) (fun h_24 => ?_) (fun h_24 => ?_)
    · refine g_aload_n hC dX10_tell_29 rfl 1 rfl ?_
      refine g_aload_n hC dX10_tell_30 rfl 0 rfl ?_
      refine g_get hC 0 10 5 inX10 m1_106 dX10_tell_31 rfl rfl (by decide) rfl ?_
      refine g_val (v' := .int (nI (tV T L (tE T L 0)))) (by rw [if_pos (nmO_K h_24).1]) ?_
      refine g_callV hC (f_X5_begin (kl K) E h da pe de no pa bn (nI (tV T L (tE T L 0)))) wX5_begin m2_119 dX10_tell_34 [2, 5] [(x 4, .inr (10, oT x (nI L) (nI (tY T L (tE T L 0))) (nI (tA T L (tE T L 0))) (nI (tE T L (tE T L 0))) (if tK T L (tE T L 0) = 2 then nI (tV T L (tE T L 0)) else vl))), (x 5, .inl (E.2.1 1, 150, .inl (nf T))), (h 0, .inr (5, oH h (nI (tV T L (tE T L 0))) (nI 0) (nI 0) (nI 0) (nI 0))), (h 1, .inl (E.2.1 0, 7, .inl (nf kd))), (h 2, .inl (E.2.1 0, 7, .inl (nf pl))), (h 3, .inl (E.2.1 0, 7, .inl (nf (fun _ => 0))))] 2 5 rfl rfl (by decide) rfl (Nat.le_of_ble_eq_true rfl) rfl rfl rfl rfl rfl ?_
      refine g_iconst (v := (nI 1)) hC dX10_tell_37 (by decide) ?_
      refine g_istore_n hC [(2, .int (nI 1)), (0, .ref (x 4)), (1, .ref (h 0))] dX10_tell_38 rfl (by decide) rfl ?_
      have L_39 : ∀ (fu : Nat) (m : Nat) (u : Nat) (k1 : Nat → Nat) (l1 : Nat → Nat) (b1 : Nat → Nat) (n1 : Nat) (f : Nat) (vv : Int32) (hq : u ≤ L) (hn1 : n1 ≤ 7) (hb1 : ∀ j, j < 7 → b1 j < 128) (hf : tK T L (tE T L u) = 3 → L + 1 ≤ f + tE T L (tE T L u)) (hmm : m ≤ tE T L u) (hH : tellH T L f u (k1, l1, b1, n1) m (rdC T L kd pl)), f < fu → G K E 3 [(x 4, .inr (10, oT x (nI L) (nI (tY T L u)) (nI (tA T L u)) (nI (tE T L u)) vv)), (x 5, .inl (E.2.1 1, 150, .inl (nf T))), (h 0, .inr (5, oH h (nI (tV T L (tE T L 0))) (nI n1) (nI 0) (nI 0) (nI 0))), (h 1, .inl (E.2.1 0, 7, .inl (nf k1))), (h 2, .inl (E.2.1 0, 7, .inl (nf l1))), (h 3, .inl (E.2.1 0, 7, .inl (nf b1)))] [(2, .int (nI m)), (0, .ref (x 4)), (1, .ref (h 0))] 39 [] := by
        intro fu
        induction fu with
        | zero => intro m u k1 l1 b1 n1 f vv hq hn1 hb1 hf hmm hH hm_39; exact absurd hm_39 (Nat.not_lt_zero _)
        | succ fu ih_39 =>
          intro m u k1 l1 b1 n1 f vv hq hn1 hb1 hf hmm hH hm_39
          have hyl := tY_le T L (tE T L u)
          have hyl2 := tY_le T L (tE T L (tE T L u))
          have htl := tE_le (T := T) hq
          refine g_iload_n hC dX10_tell_39 rfl 0 rfl ?_
          refine g_sipush (v := (nI 150)) hC dX10_tell_40 (by decide) ?_
          refine g_icmp_gtN (tgt := 89) hC dX10_tell_43 (by decide) (by omega) (by omega) (fun h_43 => ?_) (fun h_43 => ?_)
          · exfalso; omega
          · refine g_aload_n hC dX10_tell_46 rfl 1 rfl ?_
            refine g_callV hC (f_X10_advance (kl K) E x (nI (tY T L u)) (nI (tA T L u)) vv T L (tE T L u) (by omega) (hT) (tE_le hq)) wX10_advance m2_55 dX10_tell_47 [0, 1] [(x 4, .inr (10, oT x (nI L) (nI (tY T L (tE T L u))) (nI (tA T L (tE T L u))) (nI (tE T L (tE T L u))) vv)), (x 5, .inl (E.2.1 1, 150, .inl (nf T))), (h 0, .inr (5, oH h (nI (tV T L (tE T L 0))) (nI n1) (nI 0) (nI 0) (nI 0))), (h 1, .inl (E.2.1 0, 7, .inl (nf k1))), (h 2, .inl (E.2.1 0, 7, .inl (nf l1))), (h 3, .inl (E.2.1 0, 7, .inl (nf b1)))] 0 10 rfl rfl (by decide) rfl (Nat.le_of_ble_eq_true rfl) rfl rfl rfl rfl rfl ?_
            refine g_aload_n hC dX10_tell_50 rfl 1 rfl ?_
            refine g_get hC 0 10 2 inX10 m1_102 dX10_tell_51 rfl rfl (by decide) rfl ?_
            refine g_iconst (v := (nI 3)) hC dX10_tell_54 (by decide) ?_
            refine g_icmp_eqN (tgt := 60) hC dX10_tell_55 (by decide) (by omega) (by omega) (fun h_55 => ?_) (fun h_55 => ?_)
            · have hK3 := tK_Y3.mpr h_55
              have hf2 := hf hK3
              have htl2 := tE_le (T := T) htl
              refine g_aload_n hC dX10_tell_60 rfl 1 rfl ?_
              refine g_callV hC (f_X10_advance (kl K) E x (nI (tY T L (tE T L u))) (nI (tA T L (tE T L u))) vv T L (tE T L (tE T L u)) (by omega) (hT) (tE_le (tE_le hq))) wX10_advance m2_55 dX10_tell_61 [0, 1] [(x 4, .inr (10, oT x (nI L) (nI (tY T L (tE T L (tE T L u)))) (nI (tA T L (tE T L (tE T L u)))) (nI (tE T L (tE T L (tE T L u)))) vv)), (x 5, .inl (E.2.1 1, 150, .inl (nf T))), (h 0, .inr (5, oH h (nI (tV T L (tE T L 0))) (nI n1) (nI 0) (nI 0) (nI 0))), (h 1, .inl (E.2.1 0, 7, .inl (nf k1))), (h 2, .inl (E.2.1 0, 7, .inl (nf l1))), (h 3, .inl (E.2.1 0, 7, .inl (nf b1)))] 0 10 rfl rfl (by decide) rfl (Nat.le_of_ble_eq_true rfl) rfl rfl rfl rfl rfl ?_
              refine g_aload_n hC dX10_tell_64 rfl 1 rfl ?_
              refine g_get hC 0 10 2 inX10 m1_102 dX10_tell_65 rfl rfl (by decide) rfl ?_
              refine g_if_neN (tgt := 73) hC dX10_tell_68 (by decide) (by omega) (fun h_68 => ?_) (fun h_68 => ?_)
              · refine g_aload_n hC dX10_tell_73 rfl 1 rfl ?_
                refine g_aload_n hC dX10_tell_74 rfl 2 rfl ?_
                refine g_callVE hC (f_X10_isItem (kl K) E x vv T L (tE T L (tE T L u)) h (nI (tV T L (tE T L 0))) k1 l1 b1 n1 (by omega) (hT) (tE_le (tE_le hq)) (hn1) (fun j hj => Nat.lt_trans (hb1 j hj) (by decide))) wX10_isItem m2_120 dX10_tell_75 [0, 1, 2, 3, 4, 5] (fun jj => [(x 4, .inr (10, oT x (nI L) (nI (tY T L (ciQ T L (tE T L (tE T L u)) n1))) (nI (tA T L (ciQ T L (tE T L (tE T L u)) n1))) (nI (tE T L (ciQ T L (tE T L (tE T L u)) n1))) (jj 0 0))), (x 5, .inl (E.2.1 1, 150, .inl (nf T))), (h 0, .inr (5, oH h (nI (tV T L (tE T L 0))) (nI (ciN T L (tE T L (tE T L u)) n1)) (nI 0) (nI 0) (nI 0))), (h 1, .inl (E.2.1 0, 7, .inl (nf (ciK T L (tE T L (tE T L u)) k1 n1)))), (h 2, .inl (E.2.1 0, 7, .inl (nf (ciL T L (tE T L (tE T L u)) l1 n1)))), (h 3, .inl (E.2.1 0, 7, .inl (nf (ciB T L (tE T L (tE T L u)) b1 n1))))]) 0 10 rfl rfl (by decide) rfl (Nat.le_of_ble_eq_true rfl) rfl rfl rfl (fun _ => rfl) (fun _ => rfl) (fun jj_75 => ?_)
                refine g_if_neB (tgt := 83) hC dX10_tell_78 (by decide) (fun h_78 => ?_) (fun h_78 => ?_)
                · refine g_iincN hC (q := 0) 1 [(2, .int (nI (m + 1))), (0, .ref (x 4)), (1, .ref (h 0))] dX10_tell_83 rfl rfl (by decide) rfl ?_
                  refine g_goto (tgt := 39) hC dX10_tell_86 (by decide) ?_
                  refine g_lv (lv' := [(2, .int (nI (m + 1))), (0, .ref (x 4)), (1, .ref (h 0))]) [0, 1, 2] rfl ?_
                  exact ih_39 (m + 1) (ciQ T L (tE T L (tE T L u)) n1) (ciK T L (tE T L (tE T L u)) k1 n1) (ciL T L (tE T L (tE T L u)) l1 n1) (ciB T L (tE T L (tE T L u)) b1 n1) (ciN T L (tE T L (tE T L u)) n1) (f - 1) (jj_75 0 0) (ciQ_le (tE_le (tE_le hq))) (ciN_7 hn1) (ciB_31 hn1 hb1) (fun k3 => by have h7 := (tellH_g2 hq hK3 h_78).resolve_right (fun e => e k3); omega) (by have h1 := (tellH_go hq (tK_Y3.mpr h_55) h_78).1; omega) (tellH_s' hH (by omega) h_55 h_68 h_78) (by omega)
                · exact absurd hk (by rw [(tellH_no' hH (by omega) h_55 h_68 h_78).1]; decide)
              · refine g_iload_n hC dX10_tell_71 rfl 0 rfl ?_
                exact g_val (by rw [tellH_end' hH (by omega) h_55 h_68]) (g_ws (by rw [tellH_end' hH (by omega) h_55 h_68] <;> rfl) (hR (fun jx => if jx = 0 then (fun _ => (nI (tY T L (tE T L (tE T L u))))) else if jx = 1 then (fun _ => (nI (tA T L (tE T L (tE T L u))))) else if jx = 2 then (fun _ => (nI (tE T L (tE T L (tE T L u))))) else (fun _ => vv)) _ _ dX10_tell_72))
            · exact absurd hk (by rw [(hH.2 (mt tK_Y3.mp h_55)).1]; decide)
      refine g_lv (lv' := [(2, .int (nI 1)), (0, .ref (x 4)), (1, .ref (h 0))]) [0, 1, 2] rfl ?_
      exact L_39 ((L + 1) + 1) 1 (tE T L 0) kd pl (fun _ => 0) 0 (L + 1) (if tK T L (tE T L 0) = 2 then nI (tV T L (tE T L 0)) else vl) (tE_le (Nat.zero_le _)) (by omega) (fun _ _ => by decide) (fun _ => by omega) (tell_m1 h_15 h_24) (tellH_0 h_15 h_24) (Nat.lt_succ_self _)
    · exact absurd hk (by rw [(tell_bad (Or.inr ⟨h_15, h_24⟩)).1]; decide)
set_option maxHeartbeats 600000 in
set_option maxRecDepth 100000 in
theorem f_X10_tell_no (l : Launch) (E : Ew) (x : Nat → Nat) (sr : Int32) (sa : Int32) (en : Int32) (vl : Int32) (T : Nat → Nat) (L : Nat) (h : Nat → Nat) (da : Int32) (pe : Int32) (de : Int32) (no : Int32) (pa : Int32) (kd : Nat → Nat) (pl : Nat → Nat) (bn : Nat → Nat) (hL : L ≤ 150) (hT : ∀ j, j < L → T j < 128) (hk : (rdC T L kd pl).1 = false) : Fe l E 6 yX10_tell cX10_tell 3 (some .int) [.ref (x 4), .ref (h 0)] [(x 4, .inr (10, oT x (nI L) sr sa en vl)), (x 5, .inl (E.2.1 1, 150, .inl (nf T))), (h 0, .inr (5, oH h da pe de no pa)), (h 1, .inl (E.2.1 0, 7, .inl (nf kd))), (h 2, .inl (E.2.1 0, 7, .inl (nf pl))), (h 3, .inl (E.2.1 0, 7, .inl (nf bn)))] (some (.int (-1))) (fun jj => [(x 4, .inr (10, oT x (nI L) (jj 0 0) (nI (rdC T L kd pl).2.1) (jj 1 0) (jj 2 0))), (x 5, .inl (E.2.1 1, 150, .inl (nf T))), (h 0, .inr (5, oH h (jj 3 0) (jj 4 0) (jj 5 0) (jj 6 0) (jj 7 0))), (h 1, .inl (E.2.1 0, 7, .inl (jj 8))), (h 2, .inl (E.2.1 0, 7, .inl (jj 9))), (h 3, .inl (E.2.1 0, 7, .inl (jj 10)))]) := by
  refine fe_I (by decide) (Nat.le_of_ble_eq_true rfl) (fun _ => rfl) ?_
  intro K hC hR
  show G K E 3 [(x 4, .inr (10, oT x (nI L) sr sa en vl)), (x 5, .inl (E.2.1 1, 150, .inl (nf T))), (h 0, .inr (5, oH h da pe de no pa)), (h 1, .inl (E.2.1 0, 7, .inl (nf kd))), (h 2, .inl (E.2.1 0, 7, .inl (nf pl))), (h 3, .inl (E.2.1 0, 7, .inl (nf bn)))] [(0, .ref (x 4)), (1, .ref (h 0))] 0 []
  refine g_aload_n hC dX10_tell_0 rfl 0 rfl ?_
  refine g_iconst (v := (nI 0)) hC dX10_tell_1 (by decide) ?_
  refine g_put hC 0 10 4 [(x 4, .inr (10, oT x (nI L) sr sa (nI 0) vl)), (x 5, .inl (E.2.1 1, 150, .inl (nf T))), (h 0, .inr (5, oH h da pe de no pa)), (h 1, .inl (E.2.1 0, 7, .inl (nf kd))), (h 2, .inl (E.2.1 0, 7, .inl (nf pl))), (h 3, .inl (E.2.1 0, 7, .inl (nf bn)))] .int inX10 tyX10_ok nmX10 m1_105 dX10_tell_2 rfl rfl (by decide) rfl (by decide +kernel) rfl rfl (Nat.le_of_ble_eq_true rfl) rfl ?_
  refine g_aload_n hC dX10_tell_5 rfl 0 rfl ?_
  refine g_callV hC (f_X10_advance (kl K) E x sr sa vl T L 0 (by omega) (hT) (Nat.zero_le _)) wX10_advance m2_55 dX10_tell_6 [0, 1] [(x 4, .inr (10, oT x (nI L) (nI (tY T L 0)) (nI (tA T L 0)) (nI (tE T L 0)) vl)), (x 5, .inl (E.2.1 1, 150, .inl (nf T))), (h 0, .inr (5, oH h da pe de no pa)), (h 1, .inl (E.2.1 0, 7, .inl (nf kd))), (h 2, .inl (E.2.1 0, 7, .inl (nf pl))), (h 3, .inl (E.2.1 0, 7, .inl (nf bn)))] 0 10 rfl rfl (by decide) rfl (Nat.le_of_ble_eq_true rfl) rfl rfl rfl rfl rfl ?_
  refine g_aload_n hC dX10_tell_9 rfl 0 rfl ?_
  refine g_ldcS0 hC dX10_tell_10 ?_
  refine g_callV hC (f_X10_isWord (kl K) E x vl T L 0 0 (by omega) (hT) (Nat.zero_le _) (by decide)) wX10_isWord m2_63 dX10_tell_12 [0, 1] [(x 4, .inr (10, oT x (nI L) (nI (tY T L 0)) (nI (tA T L 0)) (nI (tE T L 0)) vl)), (x 5, .inl (E.2.1 1, 150, .inl (nf T))), (h 0, .inr (5, oH h da pe de no pa)), (h 1, .inl (E.2.1 0, 7, .inl (nf kd))), (h 2, .inl (E.2.1 0, 7, .inl (nf pl))), (h 3, .inl (E.2.1 0, 7, .inl (nf bn)))] 0 10 rfl rfl (by decide) rfl (Nat.le_of_ble_eq_true rfl) rfl rfl rfl rfl rfl ?_
  refine g_val (v' := .int (bI (isHam T L 0))) (by rw [cspl_0]) ?_
  refine g_if_eqB (tgt := 27) hC dX10_tell_15 (by decide) (fun h_15 => ?_) (fun h_15 => ?_)
  · refine g_iconst (v := (-1)) hC dX10_tell_27 (by decide) ?_
    exact g_val (rfl) (g_ws (by rw [(tell_bad (kd := kd) (pl := pl) (Or.inl h_15)).2, if_neg (show ¬ isHam T L 0 = true by rw [h_15]; decide)] <;> rfl) (hR (fun jx => if jx = 0 then (fun _ => (nI (tY T L 0))) else if jx = 1 then (fun _ => (nI (tE T L 0))) else if jx = 2 then (fun _ => vl) else if jx = 3 then (fun _ => da) else if jx = 4 then (fun _ => pe) else if jx = 5 then (fun _ => de) else if jx = 6 then (fun _ => no) else if jx = 7 then (fun _ => pa) else if jx = 8 then (nf kd) else if jx = 9 then (nf pl) else (nf bn)) _ _ dX10_tell_28))
  · refine g_aload_n hC dX10_tell_18 rfl 0 rfl ?_
    refine g_bipush (v := (nI 100)) hC dX10_tell_19 (by decide) ?_
    refine g_callV hC (f_X10_isNumberNext (kl K) E x (nI (tY T L 0)) (nI (tA T L 0)) vl T L (tE T L 0) 100 (by omega) (hT) (tE_le (Nat.zero_le _)) (by omega)) wX10_isNumberNext m2_115 dX10_tell_21 [0, 1] [(x 4, .inr (10, oT x (nI L) (nI (tY T L (tE T L 0))) (nI (tA T L (tE T L 0))) (nI (tE T L (tE T L 0))) (if tK T L (tE T L 0) = 2 then nI (tV T L (tE T L 0)) else vl))), (x 5, .inl (E.2.1 1, 150, .inl (nf T))), (h 0, .inr (5, oH h da pe de no pa)), (h 1, .inl (E.2.1 0, 7, .inl (nf kd))), (h 2, .inl (E.2.1 0, 7, .inl (nf pl))), (h 3, .inl (E.2.1 0, 7, .inl (nf bn)))] 0 10 rfl rfl (by decide) rfl (Nat.le_of_ble_eq_true rfl) rfl rfl rfl rfl rfl ?_
    refine g_if_neB (tgt := 29) hC dX10_tell_24 (by decide) (fun h_24 => ?_) (fun h_24 => ?_)
    · refine g_aload_n hC dX10_tell_29 rfl 1 rfl ?_
      refine g_aload_n hC dX10_tell_30 rfl 0 rfl ?_
      refine g_get hC 0 10 5 inX10 m1_106 dX10_tell_31 rfl rfl (by decide) rfl ?_
      refine g_val (v' := .int (nI (tV T L (tE T L 0)))) (by rw [if_pos (nmO_K h_24).1]) ?_
      refine g_callV hC (f_X5_begin (kl K) E h da pe de no pa bn (nI (tV T L (tE T L 0)))) wX5_begin m2_119 dX10_tell_34 [2, 5] [(x 4, .inr (10, oT x (nI L) (nI (tY T L (tE T L 0))) (nI (tA T L (tE T L 0))) (nI (tE T L (tE T L 0))) (if tK T L (tE T L 0) = 2 then nI (tV T L (tE T L 0)) else vl))), (x 5, .inl (E.2.1 1, 150, .inl (nf T))), (h 0, .inr (5, oH h (nI (tV T L (tE T L 0))) (nI 0) (nI 0) (nI 0) (nI 0))), (h 1, .inl (E.2.1 0, 7, .inl (nf kd))), (h 2, .inl (E.2.1 0, 7, .inl (nf pl))), (h 3, .inl (E.2.1 0, 7, .inl (nf (fun _ => 0))))] 2 5 rfl rfl (by decide) rfl (Nat.le_of_ble_eq_true rfl) rfl rfl rfl rfl rfl ?_
      refine g_iconst (v := (nI 1)) hC dX10_tell_37 (by decide) ?_
      refine g_istore_n hC [(2, .int (nI 1)), (0, .ref (x 4)), (1, .ref (h 0))] dX10_tell_38 rfl (by decide) rfl ?_
      have L_39 : ∀ (fu : Nat) (m : Nat) (u : Nat) (k1 : Nat → Nat) (l1 : Nat → Nat) (b1 : Nat → Nat) (n1 : Nat) (f : Nat) (vv : Int32) (hq : u ≤ L) (hn1 : n1 ≤ 7) (hb1 : ∀ j, j < 7 → b1 j < 128) (hf : tK T L (tE T L u) = 3 → L + 1 ≤ f + tE T L (tE T L u)) (hmm : m ≤ tE T L u) (hH : tellH T L f u (k1, l1, b1, n1) m (rdC T L kd pl)), f < fu → G K E 3 [(x 4, .inr (10, oT x (nI L) (nI (tY T L u)) (nI (tA T L u)) (nI (tE T L u)) vv)), (x 5, .inl (E.2.1 1, 150, .inl (nf T))), (h 0, .inr (5, oH h (nI (tV T L (tE T L 0))) (nI n1) (nI 0) (nI 0) (nI 0))), (h 1, .inl (E.2.1 0, 7, .inl (nf k1))), (h 2, .inl (E.2.1 0, 7, .inl (nf l1))), (h 3, .inl (E.2.1 0, 7, .inl (nf b1)))] [(2, .int (nI m)), (0, .ref (x 4)), (1, .ref (h 0))] 39 [] := by
        intro fu
        induction fu with
        | zero => intro m u k1 l1 b1 n1 f vv hq hn1 hb1 hf hmm hH hm_39; exact absurd hm_39 (Nat.not_lt_zero _)
        | succ fu ih_39 =>
          intro m u k1 l1 b1 n1 f vv hq hn1 hb1 hf hmm hH hm_39
          have hyl := tY_le T L (tE T L u)
          have hyl2 := tY_le T L (tE T L (tE T L u))
          have htl := tE_le (T := T) hq
          refine g_iload_n hC dX10_tell_39 rfl 0 rfl ?_
          refine g_sipush (v := (nI 150)) hC dX10_tell_40 (by decide) ?_
          refine g_icmp_gtN (tgt := 89) hC dX10_tell_43 (by decide) (by omega) (by omega) (fun h_43 => ?_) (fun h_43 => ?_)
          · exfalso; omega
          · refine g_aload_n hC dX10_tell_46 rfl 1 rfl ?_
            refine g_callV hC (f_X10_advance (kl K) E x (nI (tY T L u)) (nI (tA T L u)) vv T L (tE T L u) (by omega) (hT) (tE_le hq)) wX10_advance m2_55 dX10_tell_47 [0, 1] [(x 4, .inr (10, oT x (nI L) (nI (tY T L (tE T L u))) (nI (tA T L (tE T L u))) (nI (tE T L (tE T L u))) vv)), (x 5, .inl (E.2.1 1, 150, .inl (nf T))), (h 0, .inr (5, oH h (nI (tV T L (tE T L 0))) (nI n1) (nI 0) (nI 0) (nI 0))), (h 1, .inl (E.2.1 0, 7, .inl (nf k1))), (h 2, .inl (E.2.1 0, 7, .inl (nf l1))), (h 3, .inl (E.2.1 0, 7, .inl (nf b1)))] 0 10 rfl rfl (by decide) rfl (Nat.le_of_ble_eq_true rfl) rfl rfl rfl rfl rfl ?_
            refine g_aload_n hC dX10_tell_50 rfl 1 rfl ?_
            refine g_get hC 0 10 2 inX10 m1_102 dX10_tell_51 rfl rfl (by decide) rfl ?_
            refine g_iconst (v := (nI 3)) hC dX10_tell_54 (by decide) ?_
            refine g_icmp_eqN (tgt := 60) hC dX10_tell_55 (by decide) (by omega) (by omega) (fun h_55 => ?_) (fun h_55 => ?_)
            · have hK3 := tK_Y3.mpr h_55
              have hf2 := hf hK3
              have htl2 := tE_le (T := T) htl
              refine g_aload_n hC dX10_tell_60 rfl 1 rfl ?_
              refine g_callV hC (f_X10_advance (kl K) E x (nI (tY T L (tE T L u))) (nI (tA T L (tE T L u))) vv T L (tE T L (tE T L u)) (by omega) (hT) (tE_le (tE_le hq))) wX10_advance m2_55 dX10_tell_61 [0, 1] [(x 4, .inr (10, oT x (nI L) (nI (tY T L (tE T L (tE T L u)))) (nI (tA T L (tE T L (tE T L u)))) (nI (tE T L (tE T L (tE T L u)))) vv)), (x 5, .inl (E.2.1 1, 150, .inl (nf T))), (h 0, .inr (5, oH h (nI (tV T L (tE T L 0))) (nI n1) (nI 0) (nI 0) (nI 0))), (h 1, .inl (E.2.1 0, 7, .inl (nf k1))), (h 2, .inl (E.2.1 0, 7, .inl (nf l1))), (h 3, .inl (E.2.1 0, 7, .inl (nf b1)))] 0 10 rfl rfl (by decide) rfl (Nat.le_of_ble_eq_true rfl) rfl rfl rfl rfl rfl ?_
              refine g_aload_n hC dX10_tell_64 rfl 1 rfl ?_
              refine g_get hC 0 10 2 inX10 m1_102 dX10_tell_65 rfl rfl (by decide) rfl ?_
              refine g_if_neN (tgt := 73) hC dX10_tell_68 (by decide) (by omega) (fun h_68 => ?_) (fun h_68 => ?_)
              · refine g_aload_n hC dX10_tell_73 rfl 1 rfl ?_
                refine g_aload_n hC dX10_tell_74 rfl 2 rfl ?_
                refine g_callVE hC (f_X10_isItem (kl K) E x vv T L (tE T L (tE T L u)) h (nI (tV T L (tE T L 0))) k1 l1 b1 n1 (by omega) (hT) (tE_le (tE_le hq)) (hn1) (fun j hj => Nat.lt_trans (hb1 j hj) (by decide))) wX10_isItem m2_120 dX10_tell_75 [0, 1, 2, 3, 4, 5] (fun jj => [(x 4, .inr (10, oT x (nI L) (nI (tY T L (ciQ T L (tE T L (tE T L u)) n1))) (nI (tA T L (ciQ T L (tE T L (tE T L u)) n1))) (nI (tE T L (ciQ T L (tE T L (tE T L u)) n1))) (jj 0 0))), (x 5, .inl (E.2.1 1, 150, .inl (nf T))), (h 0, .inr (5, oH h (nI (tV T L (tE T L 0))) (nI (ciN T L (tE T L (tE T L u)) n1)) (nI 0) (nI 0) (nI 0))), (h 1, .inl (E.2.1 0, 7, .inl (nf (ciK T L (tE T L (tE T L u)) k1 n1)))), (h 2, .inl (E.2.1 0, 7, .inl (nf (ciL T L (tE T L (tE T L u)) l1 n1)))), (h 3, .inl (E.2.1 0, 7, .inl (nf (ciB T L (tE T L (tE T L u)) b1 n1))))]) 0 10 rfl rfl (by decide) rfl (Nat.le_of_ble_eq_true rfl) rfl rfl rfl (fun _ => rfl) (fun _ => rfl) (fun jj_75 => ?_)
                refine g_if_neB (tgt := 83) hC dX10_tell_78 (by decide) (fun h_78 => ?_) (fun h_78 => ?_)
                · refine g_iincN hC (q := 0) 1 [(2, .int (nI (m + 1))), (0, .ref (x 4)), (1, .ref (h 0))] dX10_tell_83 rfl rfl (by decide) rfl ?_
                  refine g_goto (tgt := 39) hC dX10_tell_86 (by decide) ?_
                  refine g_lv (lv' := [(2, .int (nI (m + 1))), (0, .ref (x 4)), (1, .ref (h 0))]) [0, 1, 2] rfl ?_
                  exact ih_39 (m + 1) (ciQ T L (tE T L (tE T L u)) n1) (ciK T L (tE T L (tE T L u)) k1 n1) (ciL T L (tE T L (tE T L u)) l1 n1) (ciB T L (tE T L (tE T L u)) b1 n1) (ciN T L (tE T L (tE T L u)) n1) (f - 1) (jj_75 0 0) (ciQ_le (tE_le (tE_le hq))) (ciN_7 hn1) (ciB_31 hn1 hb1) (fun k3 => by have h7 := (tellH_g2 hq hK3 h_78).resolve_right (fun e => e k3); omega) (by have h1 := (tellH_go hq (tK_Y3.mpr h_55) h_78).1; omega) (tellH_s' hH (by omega) h_55 h_68 h_78) (by omega)
                · refine g_iconst (v := (-1)) hC dX10_tell_81 (by decide) ?_
                  exact g_val (rfl) (g_ws (by rw [(tellH_no' hH (by omega) h_55 h_68 h_78).2] <;> rfl) (hR (fun jx => if jx = 0 then (fun _ => (nI (tY T L (ciQ T L (tE T L (tE T L u)) n1)))) else if jx = 1 then (fun _ => (nI (tE T L (ciQ T L (tE T L (tE T L u)) n1)))) else if jx = 2 then (fun _ => (jj_75 0 0)) else if jx = 3 then (fun _ => (nI (tV T L (tE T L 0)))) else if jx = 4 then (fun _ => (nI (ciN T L (tE T L (tE T L u)) n1))) else if jx = 5 then (fun _ => (nI 0)) else if jx = 6 then (fun _ => (nI 0)) else if jx = 7 then (fun _ => (nI 0)) else if jx = 8 then (nf (ciK T L (tE T L (tE T L u)) k1 n1)) else if jx = 9 then (nf (ciL T L (tE T L (tE T L u)) l1 n1)) else (nf (ciB T L (tE T L (tE T L u)) b1 n1))) _ _ dX10_tell_82))
              · exact absurd hk (by rw [tellH_end' hH (by omega) h_55 h_68]; exact fun e => by cases e)
            · refine g_iconst (v := (-1)) hC dX10_tell_58 (by decide) ?_
              exact g_val (rfl) (g_ws (by rw [(hH.2 (mt tK_Y3.mp h_55)).2] <;> rfl) (hR (fun jx => if jx = 0 then (fun _ => (nI (tY T L (tE T L u)))) else if jx = 1 then (fun _ => (nI (tE T L (tE T L u)))) else if jx = 2 then (fun _ => vv) else if jx = 3 then (fun _ => (nI (tV T L (tE T L 0)))) else if jx = 4 then (fun _ => (nI n1)) else if jx = 5 then (fun _ => (nI 0)) else if jx = 6 then (fun _ => (nI 0)) else if jx = 7 then (fun _ => (nI 0)) else if jx = 8 then (nf k1) else if jx = 9 then (nf l1) else (nf b1)) _ _ dX10_tell_59))
      refine g_lv (lv' := [(2, .int (nI 1)), (0, .ref (x 4)), (1, .ref (h 0))]) [0, 1, 2] rfl ?_
      exact L_39 ((L + 1) + 1) 1 (tE T L 0) kd pl (fun _ => 0) 0 (L + 1) (if tK T L (tE T L 0) = 2 then nI (tV T L (tE T L 0)) else vl) (tE_le (Nat.zero_le _)) (by omega) (fun _ _ => by decide) (fun _ => by omega) (tell_m1 h_15 h_24) (tellH_0 h_15 h_24) (Nat.lt_succ_self _)
    · refine g_iconst (v := (-1)) hC dX10_tell_27 (by decide) ?_
      exact g_val (rfl) (g_ws (by rw [(tell_bad (kd := kd) (pl := pl) (Or.inr ⟨h_15, h_24⟩)).2, if_pos h_15] <;> rfl) (hR (fun jx => if jx = 0 then (fun _ => (nI (tY T L (tE T L 0)))) else if jx = 1 then (fun _ => (nI (tE T L (tE T L 0)))) else if jx = 2 then (fun _ => (if tK T L (tE T L 0) = 2 then nI (tV T L (tE T L 0)) else vl)) else if jx = 3 then (fun _ => da) else if jx = 4 then (fun _ => pe) else if jx = 5 then (fun _ => de) else if jx = 6 then (fun _ => no) else if jx = 7 then (fun _ => pa) else if jx = 8 then (nf kd) else if jx = 9 then (nf pl) else (nf bn)) _ _ dX10_tell_28))
