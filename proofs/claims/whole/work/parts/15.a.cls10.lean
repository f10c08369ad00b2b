theorem gL_le {σ : Type} {nn : σ → Nat} {up : Nat → σ → σ} {T : Nat → Nat} {L : Nat} : ∀ (f i : Nat) (s : σ) (m : Nat), (gL nn up T L f i s m).1 = true → (gL nn up T L f i s m).2.1 ≤ m + f
  | 0, i, s, m, h => by cases h
  | f + 1, i, s, m, h => by
    rw [gL] at h ⊢
    by_cases q0 : tK T L i = 0
    · rw [if_pos q0]; show m ≤ _; omega
    · rw [if_neg q0] at h ⊢
      by_cases q1 : (pI T L i zz (nn s)).1 = false
      · rw [if_pos q1] at h; cases h
      · rw [if_neg q1] at h ⊢
        by_cases q2 : tK T L (pI T L i zz (nn s)).2.1 = 3
        · rw [if_pos q2] at h ⊢
          have := gL_le f _ _ _ h
          omega
        · rw [if_neg q2] at h; cases h
theorem rdC_le {T : Nat → Nat} {L : Nat} {kd pl : Nat → Nat} (h : (rdC T L kd pl).1 = true) : (rdC T L kd pl).2.1 ≤ L + 2 := by
  unfold rdC at h ⊢
  by_cases q : (hmP T L 0 zz).1 = true
  · rw [if_pos q] at h ⊢
    have := gL_le _ _ _ _ h
    omega
  · rw [if_neg q] at h; cases h
def rgC (bn : Nat → Nat) (n p : Nat) : Nat → Nat → Nat → Nat
  | 0, _, _ => 0
  | f + 1, at', k => if nmF bn n at' = nI p then k else if nmF bn n at' = -1 then 0 else rgC bn n p f (tn (nmF bn n at')) (k + 1)
theorem nmF_in {bn : Nat → Nat} {p : Nat} : ∀ n, nmF bn n p = -1 ∨ ∃ m, m < n ∧ nmF bn n p = nI m ∧ (bn m).testBit p = true
  | 0 => Or.inl rfl
  | n + 1 => by
    unfold nmF
    rw [fi]
    rcases nmF_in (bn := bn) (p := p) n with h | ⟨m, h1, h2, h3⟩
    · rw [if_pos (show fi (fun m => (bn m).testBit p) n = -1 from h)]
      by_cases hb : (bn n).testBit p = true
      · rw [if_pos hb]; exact Or.inr ⟨n, by omega, rfl, hb⟩
      · rw [if_neg hb]; exact Or.inl rfl
    · by_cases e : fi (fun m => (bn m).testBit p) n = -1
      · rw [if_pos e]
        by_cases hb : (bn n).testBit p = true
        · rw [if_pos hb]; exact Or.inr ⟨n, by omega, rfl, hb⟩
        · rw [if_neg hb]; exact Or.inl rfl
      · rw [if_neg e]; exact Or.inr ⟨m, by omega, h2, h3⟩
theorem nmF_N {bn : Nat → Nat} {p n : Nat} (hn : n ≤ 7) (h : ¬ nmF bn n p = -1) : nmF bn n p = nI (tn (nmF bn n p)) ∧ tn (nmF bn n p) < n := by
  rcases nmF_in (bn := bn) (p := p) n with q | ⟨m, h1, h2, _⟩
  · exact absurd q h
  · rw [h2, tn_nI (by omega)]; exact ⟨rfl, h1⟩
def nmC (bn : Nat → Nat) (wh : Nat) : Nat → Bool := fun m => if wh = 0 then decide (ct (bn m).testBit 31 = 0) else decide (2 ≤ ct (bn m).testBit 31)
def upC (bn dn dp : Nat → Nat) (u : Nat) : Nat → Nat
  | 0 => 0
  | k + 1 => upC bn dn dp u k + if bn k = 0 then pC dn dp k u else 0
theorem pC_le {dn dp : Nat → Nat} {x : Nat} : ∀ {u : Nat}, (∀ k, k < u → dp k ≤ 60) → pC dn dp x u ≤ 60 * u
  | 0, _ => Nat.le_refl _
  | u + 1, h => by
    have h1 := pC_le (dn := dn) (x := x) (u := u) (fun k hk => h k (by omega))
    have h2 := h u (by omega)
    rw [pC]; split <;> omega
theorem pB_raw {x : Int32} : pB x = (!decide (x < 1) && !decide (60 < x)) := by
  simp only [pB, fa_lt, show (1 : Int32).toInt = 1 by decide, show (60 : Int32).toInt = 60 by decide]
  by_cases h1 : 1 ≤ x.toInt <;> by_cases h2 : x.toInt ≤ 60 <;> simp [h1, h2] <;> omega

set_option maxHeartbeats 600000 in
set_option maxRecDepth 100000 in
theorem f_X11_hamlet_ok (l : Launch) (E : Ew) (x : Nat → Nat) (h : Nat → Nat) (dr : Nat → Nat) (da : Int32) (pe : Int32) (de : Int32) (no : Int32) (pa : Int32) (bn : Nat → Nat) (dy : Nat) (hdy : dy < 100) : Fn l E 2 yX11_hamlet cX11_hamlet 3 (some .int) [.ref (x 0), .int (nI dy)] [(x 0, .inr (11, oL x h dr)), (h 0, .inr (5, oH h da pe de no pa)), (h 3, .inl (E.2.1 0, 7, .inl (nf bn)))] (some (.int pe)) [(x 0, .inr (11, oL x h dr)), (h 0, .inr (5, oH h (nI dy) (nI 0) (nI 0) (nI 0) (nI 0))), (h 3, .inl (E.2.1 0, 7, .inl (nf (fun _ => 0))))] := by
  refine fn_I (by decide) (Nat.le_of_ble_eq_true rfl) rfl ?_
  intro K hC hR
  show G K E 3 [(x 0, .inr (11, oL x h dr)), (h 0, .inr (5, oH h da pe de no pa)), (h 3, .inl (E.2.1 0, 7, .inl (nf bn)))] [(0, .ref (x 0)), (1, .int (nI dy))] 0 []
  refine g_iload_n hC dX11_hamlet_0 rfl 1 rfl ?_
  refine g_bipush (v := (nI 100)) hC dX11_hamlet_1 (by decide) ?_
  refine g_callS hC (f_X11_within (kl K) E (nI dy) 100 (by omega)) wX11_within m2_13 dX11_hamlet_3 [] [(x 0, .inr (11, oL x h dr)), (h 0, .inr (5, oH h da pe de no pa)), (h 3, .inl (E.2.1 0, 7, .inl (nf bn)))] (by decide) rfl (Nat.le_of_ble_eq_true rfl) rfl rfl rfl rfl rfl ?_
  refine g_if_neB (tgt := 16) hC dX11_hamlet_6 (by decide) (fun h_6 => ?_) (fun h_6 => ?_)
  · refine g_aload_n hC dX11_hamlet_16 rfl 0 rfl ?_
    refine g_get hC 0 11 0 inX11 m1_221 dX11_hamlet_17 rfl rfl (by decide) rfl ?_
    refine g_get hC 1 5 1 inX5 m1_40 dX11_hamlet_20 rfl rfl (by decide) rfl ?_
    refine g_istore_n hC [(2, .int pe), (0, .ref (x 0)), (1, .int (nI dy))] dX11_hamlet_23 rfl (by decide) rfl ?_
    refine g_aload_n hC dX11_hamlet_24 rfl 1 rfl ?_
    refine g_get hC 0 11 0 inX11 m1_221 dX11_hamlet_25 rfl rfl (by decide) rfl ?_
    refine g_iload_n hC dX11_hamlet_28 rfl 2 rfl ?_
    refine g_callV hC (f_X5_begin (kl K) E h da pe de no pa bn (nI dy)) wX5_begin m2_20 dX11_hamlet_29 [1, 2] [(x 0, .inr (11, oL x h dr)), (h 0, .inr (5, oH h (nI dy) (nI 0) (nI 0) (nI 0) (nI 0))), (h 3, .inl (E.2.1 0, 7, .inl (nf (fun _ => 0))))] 1 5 rfl rfl (by decide) rfl (Nat.le_of_ble_eq_true rfl) rfl rfl rfl rfl rfl ?_
    refine g_iload_n hC dX11_hamlet_32 rfl 0 rfl ?_
    exact g_val (rfl) (g_ws (rfl) (hR _ _ dX11_hamlet_33))
  · exact Bool.noConfusion ((inB_ok (by omega) (by omega)).symm.trans h_6)
set_option maxHeartbeats 600000 in
set_option maxRecDepth 100000 in
theorem f_X11_hamlet_bad (l : Launch) (E : Ew) (x : Nat → Nat) (h : Nat → Nat) (dr : Nat → Nat) (r : Nat → Int32) (dy : Int32) (hb : inB dy 100 = false) : Fn l E 2 yX11_hamlet cX11_hamlet 3 (some .int) [.ref (x 0), .int dy] [(x 0, .inr (11, oL x h dr)), (x 3, .inl (E.2.1 0, 3, .inl r))] (some (.int (-2))) [(x 0, .inr (11, oL x h dr)), (x 3, .inl (E.2.1 0, 3, .inl (upd r 0 (r 0 + nI 1))))] := by
  refine fn_I (by decide) (Nat.le_of_ble_eq_true rfl) rfl ?_
  intro K hC hR
  show G K E 3 [(x 0, .inr (11, oL x h dr)), (x 3, .inl (E.2.1 0, 3, .inl r))] [(0, .ref (x 0)), (1, .int dy)] 0 []
  refine g_iload_n hC dX11_hamlet_0 rfl 1 rfl ?_
  refine g_bipush (v := (nI 100)) hC dX11_hamlet_1 (by decide) ?_
  refine g_callS hC (f_X11_within (kl K) E dy 100 (by omega)) wX11_within m2_13 dX11_hamlet_3 [] [(x 0, .inr (11, oL x h dr)), (x 3, .inl (E.2.1 0, 3, .inl r))] (by decide) rfl (Nat.le_of_ble_eq_true rfl) rfl rfl rfl rfl rfl ?_
  refine g_if_neB (tgt := 16) hC dX11_hamlet_6 (by decide) (fun h_6 => ?_) (fun h_6 => ?_)
  · exact absurd h_6 (by rw [hb]; decide)
  · refine g_aload_n hC dX11_hamlet_9 rfl 0 rfl ?_
    refine g_bipush (v := (-2)) hC dX11_hamlet_10 (by decide) ?_
    refine g_callV hC (f_X11_refuse_bad (kl K) E x h dr r) wX11_refuse m2_16 dX11_hamlet_12 [0, 1] [(x 0, .inr (11, oL x h dr)), (x 3, .inl (E.2.1 0, 3, .inl (upd r 0 (r 0 + nI 1))))] 0 11 rfl rfl (by decide) rfl (Nat.le_of_ble_eq_true rfl) rfl rfl rfl rfl rfl ?_
    exact g_val (rfl) (g_ws (rfl) (hR _ _ dX11_hamlet_15))
set_option maxHeartbeats 600000 in
set_option maxRecDepth 100000 in
theorem f_X11_one_ok (l : Launch) (E : Ew) (x : Nat → Nat) (h : Nat → Nat) (dr : Nat → Nat) (da : Int32) (de : Int32) (no : Int32) (pa : Int32) (n : Nat) (kd : Nat → Nat) (pl : Nat → Nat) (bn : Nat → Nat) (k0 : Nat) (p0 : Nat) (hn : n < 7) (hk : k0 < 6) (hp : p0 < 10) : Fn l E 2 yX11_one cX11_one 3 (some .int) [.ref (x 0), .int (nI k0), .int (nI p0)] [(x 0, .inr (11, oL x h dr)), (h 0, .inr (5, oH h da (nI n) de no pa)), (h 1, .inl (E.2.1 0, 7, .inl (nf kd))), (h 2, .inl (E.2.1 0, 7, .inl (nf pl))), (h 3, .inl (E.2.1 0, 7, .inl (nf bn)))] (some (.int (nI n))) [(x 0, .inr (11, oL x h dr)), (h 0, .inr (5, oH h da (nI (n + 1)) de no (nI 0))), (h 1, .inl (E.2.1 0, 7, .inl (nf (un kd n k0)))), (h 2, .inl (E.2.1 0, 7, .inl (nf (un pl n p0)))), (h 3, .inl (E.2.1 0, 7, .inl (nf (un bn n (2 ^ n)))))] := by
  refine fn_I (by decide) (Nat.le_of_ble_eq_true rfl) rfl ?_
  intro K hC hR
  show G K E 3 [(x 0, .inr (11, oL x h dr)), (h 0, .inr (5, oH h da (nI n) de no pa)), (h 1, .inl (E.2.1 0, 7, .inl (nf kd))), (h 2, .inl (E.2.1 0, 7, .inl (nf pl))), (h 3, .inl (E.2.1 0, 7, .inl (nf bn)))] [(0, .ref (x 0)), (1, .int (nI k0)), (2, .int (nI p0))] 0 []
  refine g_iload_n hC dX11_one_0 rfl 1 rfl ?_
  refine g_bipush (v := (nI 6)) hC dX11_one_1 (by decide) ?_
  refine g_callS hC (f_X11_within (kl K) E (nI k0) 6 (by omega)) wX11_within m2_13 dX11_one_3 [] [(x 0, .inr (11, oL x h dr)), (h 0, .inr (5, oH h da (nI n) de no pa)), (h 1, .inl (E.2.1 0, 7, .inl (nf kd))), (h 2, .inl (E.2.1 0, 7, .inl (nf pl))), (h 3, .inl (E.2.1 0, 7, .inl (nf bn)))] (by decide) rfl (Nat.le_of_ble_eq_true rfl) rfl rfl rfl rfl rfl ?_
  refine g_if_eqB (tgt := 18) hC dX11_one_6 (by decide) (fun h_6 => ?_) (fun h_6 => ?_)
  · exact Bool.noConfusion ((inB_ok (by omega) (by omega)).symm.trans h_6)
  · refine g_iload_n hC dX11_one_9 rfl 2 rfl ?_
    refine g_bipush (v := (nI 10)) hC dX11_one_10 (by decide) ?_
    refine g_callS hC (f_X11_within (kl K) E (nI p0) 10 (by omega)) wX11_within m2_13 dX11_one_12 [] [(x 0, .inr (11, oL x h dr)), (h 0, .inr (5, oH h da (nI n) de no pa)), (h 1, .inl (E.2.1 0, 7, .inl (nf kd))), (h 2, .inl (E.2.1 0, 7, .inl (nf pl))), (h 3, .inl (E.2.1 0, 7, .inl (nf bn)))] (by decide) rfl (Nat.le_of_ble_eq_true rfl) rfl rfl rfl rfl rfl ?_
    refine g_if_neB (tgt := 25) hC dX11_one_15 (by decide) (fun h_15 => ?_) (fun h_15 => ?_)
    · refine g_aload_n hC dX11_one_25 rfl 0 rfl ?_
      refine g_get hC 0 11 0 inX11 m1_221 dX11_one_26 rfl rfl (by decide) rfl ?_
      refine g_get hC 1 5 1 inX5 m1_40 dX11_one_29 rfl rfl (by decide) rfl ?_
      refine g_bipush (v := (nI 7)) hC dX11_one_32 (by decide) ?_
      refine g_icmp_ltN (tgt := 44) hC dX11_one_34 (by decide) (by omega) (by omega) (fun h_34 => ?_) (fun h_34 => ?_)
      · refine g_aload_n hC dX11_one_44 rfl 0 rfl ?_
        refine g_get hC 0 11 0 inX11 m1_221 dX11_one_45 rfl rfl (by decide) rfl ?_
        refine g_iload_n hC dX11_one_48 rfl 1 rfl ?_
        refine g_iload_n hC dX11_one_49 rfl 2 rfl ?_
        refine g_callV hC (f_X5_join (kl K) E h da de no pa kd pl bn n k0 p0 (by omega)) wX5_join m2_31 dX11_one_50 [1, 2, 3, 4] [(x 0, .inr (11, oL x h dr)), (h 0, .inr (5, oH h da (nI (n + 1)) de no (nI 0))), (h 1, .inl (E.2.1 0, 7, .inl (nf (un kd n k0)))), (h 2, .inl (E.2.1 0, 7, .inl (nf (un pl n p0)))), (h 3, .inl (E.2.1 0, 7, .inl (nf (un bn n (2 ^ n)))))] 1 5 rfl rfl (by decide) rfl (Nat.le_of_ble_eq_true rfl) rfl rfl rfl rfl rfl ?_
        refine g_aload_n hC dX11_one_53 rfl 0 rfl ?_
        refine g_get hC 0 11 0 inX11 m1_221 dX11_one_54 rfl rfl (by decide) rfl ?_
        refine g_get hC 1 5 1 inX5 m1_40 dX11_one_57 rfl rfl (by decide) rfl ?_
        refine g_iconst (v := (nI 1)) hC dX11_one_60 (by decide) ?_
        refine g_isubN hC dX11_one_61 (by omega) ?_
        exact g_val (rfl) (g_ws (rfl) (hR _ _ dX11_one_62))
      · omega
    · exact Bool.noConfusion ((inB_ok (by omega) (by omega)).symm.trans h_15)
set_option maxHeartbeats 600000 in
set_option maxRecDepth 100000 in
theorem f_X11_one_full (l : Launch) (E : Ew) (x : Nat → Nat) (h : Nat → Nat) (dr : Nat → Nat) (da : Int32) (de : Int32) (no : Int32) (pa : Int32) (r : Nat → Int32) (k0 : Nat) (p0 : Nat) (hk : k0 < 6) (hp : p0 < 10) : Fn l E 2 yX11_one cX11_one 3 (some .int) [.ref (x 0), .int (nI k0), .int (nI p0)] [(x 0, .inr (11, oL x h dr)), (h 0, .inr (5, oH h da (nI 7) de no pa)), (x 3, .inl (E.2.1 0, 3, .inl r))] (some (.int (-4))) [(x 0, .inr (11, oL x h dr)), (h 0, .inr (5, oH h da (nI 7) de no pa)), (x 3, .inl (E.2.1 0, 3, .inl (upd r 2 (r 2 + nI 1))))] := by
  refine fn_I (by decide) (Nat.le_of_ble_eq_true rfl) rfl ?_
  intro K hC hR
  show G K E 3 [(x 0, .inr (11, oL x h dr)), (h 0, .inr (5, oH h da (nI 7) de no pa)), (x 3, .inl (E.2.1 0, 3, .inl r))] [(0, .ref (x 0)), (1, .int (nI k0)), (2, .int (nI p0))] 0 []
  refine g_iload_n hC dX11_one_0 rfl 1 rfl ?_
  refine g_bipush (v := (nI 6)) hC dX11_one_1 (by decide) ?_
  refine g_callS hC (f_X11_within (kl K) E (nI k0) 6 (by omega)) wX11_within m2_13 dX11_one_3 [] [(x 0, .inr (11, oL x h dr)), (h 0, .inr (5, oH h da (nI 7) de no pa)), (x 3, .inl (E.2.1 0, 3, .inl r))] (by decide) rfl (Nat.le_of_ble_eq_true rfl) rfl rfl rfl rfl rfl ?_
  refine g_if_eqB (tgt := 18) hC dX11_one_6 (by decide) (fun h_6 => ?_) (fun h_6 => ?_)
  · exact Bool.noConfusion ((inB_ok (by omega) (by omega)).symm.trans h_6)
  · refine g_iload_n hC dX11_one_9 rfl 2 rfl ?_
    refine g_bipush (v := (nI 10)) hC dX11_one_10 (by decide) ?_
    refine g_callS hC (f_X11_within (kl K) E (nI p0) 10 (by omega)) wX11_within m2_13 dX11_one_12 [] [(x 0, .inr (11, oL x h dr)), (h 0, .inr (5, oH h da (nI 7) de no pa)), (x 3, .inl (E.2.1 0, 3, .inl r))] (by decide) rfl (Nat.le_of_ble_eq_true rfl) rfl rfl rfl rfl rfl ?_
    refine g_if_neB (tgt := 25) hC dX11_one_15 (by decide) (fun h_15 => ?_) (fun h_15 => ?_)
    · refine g_aload_n hC dX11_one_25 rfl 0 rfl ?_
      refine g_get hC 0 11 0 inX11 m1_221 dX11_one_26 rfl rfl (by decide) rfl ?_
      refine g_get hC 1 5 1 inX5 m1_40 dX11_one_29 rfl rfl (by decide) rfl ?_
      refine g_bipush (v := (nI 7)) hC dX11_one_32 (by decide) ?_
      refine g_icmp_ltN (tgt := 44) hC dX11_one_34 (by decide) (by omega) (by omega) (fun h_34 => ?_) (fun h_34 => ?_)
      · omega
      · refine g_aload_n hC dX11_one_37 rfl 0 rfl ?_
        refine g_bipush (v := (-4)) hC dX11_one_38 (by decide) ?_
        refine g_callV hC (f_X11_refuse_full (kl K) E x h dr r) wX11_refuse m2_16 dX11_one_40 [0, 2] [(x 0, .inr (11, oL x h dr)), (h 0, .inr (5, oH h da (nI 7) de no pa)), (x 3, .inl (E.2.1 0, 3, .inl (upd r 2 (r 2 + nI 1))))] 0 11 rfl rfl (by decide) rfl (Nat.le_of_ble_eq_true rfl) rfl rfl rfl rfl rfl ?_
        exact g_val (rfl) (g_ws (rfl) (hR _ _ dX11_one_43))
    · exact Bool.noConfusion ((inB_ok (by omega) (by omega)).symm.trans h_15)
set_option maxHeartbeats 600000 in
set_option maxRecDepth 100000 in
theorem f_X11_one_bad (l : Launch) (E : Ew) (x : Nat → Nat) (h : Nat → Nat) (dr : Nat → Nat) (r : Nat → Int32) (k0 : Int32) (p0 : Int32) (hb : (inB k0 6 && inB p0 10) = false) : Fn l E 2 yX11_one cX11_one 3 (some .int) [.ref (x 0), .int k0, .int p0] [(x 0, .inr (11, oL x h dr)), (x 3, .inl (E.2.1 0, 3, .inl r))] (some (.int (-2))) [(x 0, .inr (11, oL x h dr)), (x 3, .inl (E.2.1 0, 3, .inl (upd r 0 (r 0 + nI 1))))] := by
  refine fn_I (by decide) (Nat.le_of_ble_eq_true rfl) rfl ?_
  intro K hC hR
  show G K E 3 [(x 0, .inr (11, oL x h dr)), (x 3, .inl (E.2.1 0, 3, .inl r))] [(0, .ref (x 0)), (1, .int k0), (2, .int p0)] 0 []
  refine g_iload_n hC dX11_one_0 rfl 1 rfl ?_
  refine g_bipush (v := (nI 6)) hC dX11_one_1 (by decide) ?_
  refine g_callS hC (f_X11_within (kl K) E k0 6 (by omega)) wX11_within m2_13 dX11_one_3 [] [(x 0, .inr (11, oL x h dr)), (x 3, .inl (E.2.1 0, 3, .inl r))] (by decide) rfl (Nat.le_of_ble_eq_true rfl) rfl rfl rfl rfl rfl ?_
  refine g_if_eqB (tgt := 18) hC dX11_one_6 (by decide) (fun h_6 => ?_) (fun h_6 => ?_)
  · refine g_aload_n hC dX11_one_18 rfl 0 rfl ?_
    refine g_bipush (v := (-2)) hC dX11_one_19 (by decide) ?_
    refine g_callV hC (f_X11_refuse_bad (kl K) E x h dr r) wX11_refuse m2_16 dX11_one_21 [0, 1] [(x 0, .inr (11, oL x h dr)), (x 3, .inl (E.2.1 0, 3, .inl (upd r 0 (r 0 + nI 1))))] 0 11 rfl rfl (by decide) rfl (Nat.le_of_ble_eq_true rfl) rfl rfl rfl rfl rfl ?_
    exact g_val (rfl) (g_ws (rfl) (hR _ _ dX11_one_24))
  · refine g_iload_n hC dX11_one_9 rfl 2 rfl ?_
    refine g_bipush (v := (nI 10)) hC dX11_one_10 (by decide) ?_
    refine g_callS hC (f_X11_within (kl K) E p0 10 (by omega)) wX11_within m2_13 dX11_one_12 [] [(x 0, .inr (11, oL x h dr)), (x 3, .inl (E.2.1 0, 3, .inl r))] (by decide) rfl (Nat.le_of_ble_eq_true rfl) rfl rfl rfl rfl rfl ?_
    refine g_if_neB (tgt := 25) hC dX11_one_15 (by decide) (fun h_15 => ?_) (fun h_15 => ?_)
    · exact absurd hb (by simp [h_6, h_15])
    · refine g_aload_n hC dX11_one_18 rfl 0 rfl ?_
      refine g_bipush (v := (-2)) hC dX11_one_19 (by decide) ?_
      refine g_callV hC (f_X11_refuse_bad (kl K) E x h dr r) wX11_refuse m2_16 dX11_one_21 [0, 1] [(x 0, .inr (11, oL x h dr)), (x 3, .inl (E.2.1 0, 3, .inl (upd r 0 (r 0 + nI 1))))] 0 11 rfl rfl (by decide) rfl (Nat.le_of_ble_eq_true rfl) rfl rfl rfl rfl rfl ?_
      exact g_val (rfl) (g_ws (rfl) (hR _ _ dX11_one_24))
set_option maxHeartbeats 600000 in
set_option maxRecDepth 100000 in
theorem f_X11_type_ok (l : Launch) (E : Ew) (x : Nat → Nat) (h : Nat → Nat) (dr : Nat → Nat) (sr : Int32) (sa : Int32) (en : Int32) (vl : Int32) (T : Nat → Nat) (L : Nat) (c : Nat) (hL : L < 150) (hc : c < 128) : Fn l E 2 yX11_type cX11_type 2 (some .int) [.ref (x 0), .int (nI c)] [(x 0, .inr (11, oL x h dr)), (x 4, .inr (10, oT x (nI L) sr sa en vl)), (x 5, .inl (E.2.1 1, 150, .inl (nf T)))] (some (.int (nI (L + 1)))) [(x 0, .inr (11, oL x h dr)), (x 4, .inr (10, oT x (nI (L + 1)) sr sa en vl)), (x 5, .inl (E.2.1 1, 150, .inl (nf (un T L c))))] := by
  refine fn_I (by decide) (Nat.le_of_ble_eq_true rfl) rfl ?_
  intro K hC hR
  show G K E 2 [(x 0, .inr (11, oL x h dr)), (x 4, .inr (10, oT x (nI L) sr sa en vl)), (x 5, .inl (E.2.1 1, 150, .inl (nf T)))] [(0, .ref (x 0)), (1, .int (nI c))] 0 []
  refine g_iload_n hC dX11_type_0 rfl 1 rfl ?_
  refine g_sipush (v := (nI 128)) hC dX11_type_1 (by decide) ?_
  refine g_callS hC (f_X11_within (kl K) E (nI c) 128 (by omega)) wX11_within m2_13 dX11_type_4 [] [(x 0, .inr (11, oL x h dr)), (x 4, .inr (10, oT x (nI L) sr sa en vl)), (x 5, .inl (E.2.1 1, 150, .inl (nf T)))] (by decide) rfl (Nat.le_of_ble_eq_true rfl) rfl rfl rfl rfl rfl ?_
  refine g_if_neB (tgt := 17) hC dX11_type_7 (by decide) (fun h_7 => ?_) (fun h_7 => ?_)
  · refine g_aload_n hC dX11_type_17 rfl 0 rfl ?_
    refine g_get hC 0 11 4 inX11 m1_225 dX11_type_18 rfl rfl (by decide) rfl ?_
    refine g_get hC 1 10 1 inX10 m1_101 dX11_type_21 rfl rfl (by decide) rfl ?_
    refine g_sipush (v := (nI 150)) hC dX11_type_24 (by decide) ?_
    refine g_icmp_ltN (tgt := 37) hC dX11_type_27 (by decide) (by omega) (by omega) (fun h_27 => ?_) (fun h_27 => ?_)
    · refine g_aload_n hC dX11_type_37 rfl 0 rfl ?_
      refine g_get hC 0 11 4 inX11 m1_225 dX11_type_38 rfl rfl (by decide) rfl ?_
      refine g_iload_n hC dX11_type_41 rfl 1 rfl ?_
      refine g_callV hC (f_X10_append (kl K) E x sr sa en vl T L c (by omega) (by omega)) wX10_append m2_39 dX11_type_42 [1, 2] [(x 0, .inr (11, oL x h dr)), (x 4, .inr (10, oT x (nI (L + 1)) sr sa en vl)), (x 5, .inl (E.2.1 1, 150, .inl (nf (un T L c))))] 1 10 rfl rfl (by decide) rfl (Nat.le_of_ble_eq_true rfl) rfl rfl rfl rfl rfl ?_
      refine g_aload_n hC dX11_type_45 rfl 0 rfl ?_
      refine g_get hC 0 11 4 inX11 m1_225 dX11_type_46 rfl rfl (by decide) rfl ?_
      refine g_get hC 1 10 1 inX10 m1_101 dX11_type_49 rfl rfl (by decide) rfl ?_
      exact g_val (rfl) (g_ws (rfl) (hR _ _ dX11_type_52))
    · omega
  · exact Bool.noConfusion ((inB_ok (by omega) (by omega)).symm.trans h_7)
set_option maxHeartbeats 600000 in
set_option maxRecDepth 100000 in
theorem f_X11_type_full (l : Launch) (E : Ew) (x : Nat → Nat) (h : Nat → Nat) (dr : Nat → Nat) (sr : Int32) (sa : Int32) (en : Int32) (vl : Int32) (r : Nat → Int32) (c : Nat) (hc : c < 128) : Fn l E 2 yX11_type cX11_type 2 (some .int) [.ref (x 0), .int (nI c)] [(x 0, .inr (11, oL x h dr)), (x 4, .inr (10, oT x (nI 150) sr sa en vl)), (x 3, .inl (E.2.1 0, 3, .inl r))] (some (.int (-4))) [(x 0, .inr (11, oL x h dr)), (x 4, .inr (10, oT x (nI 150) sr sa en vl)), (x 3, .inl (E.2.1 0, 3, .inl (upd r 2 (r 2 + nI 1))))] := by
  refine fn_I (by decide) (Nat.le_of_ble_eq_true rfl) rfl ?_
  intro K hC hR
  show G K E 2 [(x 0, .inr (11, oL x h dr)), (x 4, .inr (10, oT x (nI 150) sr sa en vl)), (x 3, .inl (E.2.1 0, 3, .inl r))] [(0, .ref (x 0)), (1, .int (nI c))] 0 []
  refine g_iload_n hC dX11_type_0 rfl 1 rfl ?_
  refine g_sipush (v := (nI 128)) hC dX11_type_1 (by decide) ?_
  refine g_callS hC (f_X11_within (kl K) E (nI c) 128 (by omega)) wX11_within m2_13 dX11_type_4 [] [(x 0, .inr (11, oL x h dr)), (x 4, .inr (10, oT x (nI 150) sr sa en vl)), (x 3, .inl (E.2.1 0, 3, .inl r))] (by decide) rfl (Nat.le_of_ble_eq_true rfl) rfl rfl rfl rfl rfl ?_
  refine g_if_neB (tgt := 17) hC dX11_type_7 (by decide) (fun h_7 => ?_) (fun h_7 => ?_)
  · refine g_aload_n hC dX11_type_17 rfl 0 rfl ?_
    refine g_get hC 0 11 4 inX11 m1_225 dX11_type_18 rfl rfl (by decide) rfl ?_
    refine g_get hC 1 10 1 inX10 m1_101 dX11_type_21 rfl rfl (by decide) rfl ?_
    refine g_sipush (v := (nI 150)) hC dX11_type_24 (by decide) ?_
    refine g_icmp_ltN (tgt := 37) hC dX11_type_27 (by decide) (by omega) (by omega) (fun h_27 => ?_) (fun h_27 => ?_)
    · omega
    · refine g_aload_n hC dX11_type_30 rfl 0 rfl ?_
      refine g_bipush (v := (-4)) hC dX11_type_31 (by decide) ?_
      refine g_callV hC (f_X11_refuse_full (kl K) E x h dr r) wX11_refuse m2_16 dX11_type_33 [0, 2] [(x 0, .inr (11, oL x h dr)), (x 4, .inr (10, oT x (nI 150) sr sa en vl)), (x 3, .inl (E.2.1 0, 3, .inl (upd r 2 (r 2 + nI 1))))] 0 11 rfl rfl (by decide) rfl (Nat.le_of_ble_eq_true rfl) rfl rfl rfl rfl rfl ?_
      exact g_val (rfl) (g_ws (rfl) (hR _ _ dX11_type_36))
  · exact Bool.noConfusion ((inB_ok (by omega) (by omega)).symm.trans h_7)
set_option maxHeartbeats 600000 in
set_option maxRecDepth 100000 in
theorem f_X11_type_bad (l : Launch) (E : Ew) (x : Nat → Nat) (h : Nat → Nat) (dr : Nat → Nat) (r : Nat → Int32) (c : Int32) (hb : inB c 128 = false) : Fn l E 2 yX11_type cX11_type 2 (some .int) [.ref (x 0), .int c] [(x 0, .inr (11, oL x h dr)), (x 3, .inl (E.2.1 0, 3, .inl r))] (some (.int (-2))) [(x 0, .inr (11, oL x h dr)), (x 3, .inl (E.2.1 0, 3, .inl (upd r 0 (r 0 + nI 1))))] := by
  refine fn_I (by decide) (Nat.le_of_ble_eq_true rfl) rfl ?_
  intro K hC hR
  show G K E 2 [(x 0, .inr (11, oL x h dr)), (x 3, .inl (E.2.1 0, 3, .inl r))] [(0, .ref (x 0)), (1, .int c)] 0 []
  refine g_iload_n hC dX11_type_0 rfl 1 rfl ?_
  refine g_sipush (v := (nI 128)) hC dX11_type_1 (by decide) ?_
  refine g_callS hC (f_X11_within (kl K) E c 128 (by omega)) wX11_within m2_13 dX11_type_4 [] [(x 0, .inr (11, oL x h dr)), (x 3, .inl (E.2.1 0, 3, .inl r))] (by decide) rfl (Nat.le_of_ble_eq_true rfl) rfl rfl rfl rfl rfl ?_
  refine g_if_neB (tgt := 17) hC dX11_type_7 (by decide) (fun h_7 => ?_) (fun h_7 => ?_)
  · exact absurd h_7 (by rw [hb]; decide)
  · refine g_aload_n hC dX11_type_10 rfl 0 rfl ?_
    refine g_bipush (v := (-2)) hC dX11_type_11 (by decide) ?_
    refine g_callV hC (f_X11_refuse_bad (kl K) E x h dr r) wX11_refuse m2_16 dX11_type_13 [0, 1] [(x 0, .inr (11, oL x h dr)), (x 3, .inl (E.2.1 0, 3, .inl (upd r 0 (r 0 + nI 1))))] 0 11 rfl rfl (by decide) rfl (Nat.le_of_ble_eq_true rfl) rfl rfl rfl rfl rfl ?_
    exact g_val (rfl) (g_ws (rfl) (hR _ _ dX11_type_16))
set_option maxHeartbeats 600000 in
set_option maxRecDepth 100000 in
theorem f_X11_clear (l : Launch) (E : Ew) (x : Nat → Nat) (h : Nat → Nat) (dr : Nat → Nat) (sr : Int32) (sa : Int32) (en : Int32) (vl : Int32) (ln : Int32)  : Fn l E 0 yX11_clear cX11_clear 2 (some .int) [.ref (x 0)] [(x 0, .inr (11, oL x h dr)), (x 4, .inr (10, oT x ln sr sa en vl))] (some (.int ln)) [(x 0, .inr (11, oL x h dr)), (x 4, .inr (10, oT x (nI 0) sr sa en vl))] := by
  refine fn_I (by decide) (Nat.le_of_ble_eq_true rfl) rfl ?_
  intro K hC hR
  show G K E 2 [(x 0, .inr (11, oL x h dr)), (x 4, .inr (10, oT x ln sr sa en vl))] [(0, .ref (x 0))] 0 []
  refine g_aload_n hC dX11_clear_0 rfl 0 rfl ?_
  refine g_get hC 0 11 4 inX11 m1_225 dX11_clear_1 rfl rfl (by decide) rfl ?_
  refine g_get hC 1 10 1 inX10 m1_101 dX11_clear_4 rfl rfl (by decide) rfl ?_
  refine g_istore_n hC [(1, .int ln), (0, .ref (x 0))] dX11_clear_7 rfl (by decide) rfl ?_
  refine g_aload_n hC dX11_clear_8 rfl 1 rfl ?_
  refine g_get hC 0 11 4 inX11 m1_225 dX11_clear_9 rfl rfl (by decide) rfl ?_
  refine g_iconst (v := (nI 0)) hC dX11_clear_12 (by decide) ?_
  refine g_put hC 1 10 1 [(x 0, .inr (11, oL x h dr)), (x 4, .inr (10, oT x (nI 0) sr sa en vl))] .int inX10 tyX10_ok nmX10 m1_101 dX11_clear_13 rfl rfl (by decide) rfl (by decide +kernel) rfl rfl (Nat.le_of_ble_eq_true rfl) rfl ?_
  refine g_iload_n hC dX11_clear_16 rfl 0 rfl ?_
  exact g_val (rfl) (g_ws (rfl) (hR _ _ dX11_clear_17))
set_option maxHeartbeats 600000 in
set_option maxRecDepth 100000 in
theorem f_X11_read_ok (l : Launch) (E : Ew) (x : Nat → Nat) (h : Nat → Nat) (dr : Nat → Nat) (sr : Int32) (sa : Int32) (en : Int32) (vl : Int32) (T : Nat → Nat) (L : Nat) (da : Int32) (pe : Int32) (de : Int32) (no : Int32) (pa : Int32) (da2 : Int32) (pe2 : Int32) (de2 : Int32) (no2 : Int32) (pa2 : Int32) (kd : Nat → Nat) (pl : Nat → Nat) (bn : Nat → Nat) (dn : Nat → Nat) (dp : Nat → Nat) (nt : Nat → Nat) (ps : Nat → Int32) (kd2 : Nat → Nat) (pl2 : Nat → Nat) (bn2 : Nat → Nat) (dn2 : Nat → Nat) (dp2 : Nat → Nat) (nt2 : Nat → Nat) (ps2 : Nat → Int32) (hL : L ≤ 150) (hT : ∀ j, j < L → T j < 128) (hk : (rdC T L kd2 pl2).1 = true) : Fe l E 7 yX11_read cX11_read 2 (some .int) [.ref (x 0)] [(x 0, .inr (11, oL x h dr)), (x 4, .inr (10, oT x (nI L) sr sa en vl)), (x 5, .inl (E.2.1 1, 150, .inl (nf T))), (h 0, .inr (5, oH h da pe de no pa)), (h 1, .inl (E.2.1 0, 7, .inl (nf kd))), (h 2, .inl (E.2.1 0, 7, .inl (nf pl))), (h 3, .inl (E.2.1 0, 7, .inl (nf bn))), (h 4, .inl (E.2.1 0, 6, .inl (nf dn))), (h 5, .inl (E.2.1 0, 6, .inl (nf dp))), (h 6, .inl (E.2.1 0, 30, .inl (nf nt))), (h 7, .inl (E.2.1 0, 120, .inl ps)), (dr 0, .inr (5, oH dr da2 pe2 de2 no2 pa2)), (dr 1, .inl (E.2.1 0, 7, .inl (nf kd2))), (dr 2, .inl (E.2.1 0, 7, .inl (nf pl2))), (dr 3, .inl (E.2.1 0, 7, .inl (nf bn2))), (dr 4, .inl (E.2.1 0, 6, .inl (nf dn2))), (dr 5, .inl (E.2.1 0, 6, .inl (nf dp2))), (dr 6, .inl (E.2.1 0, 30, .inl (nf nt2))), (dr 7, .inl (E.2.1 0, 120, .inl ps2))] (some (.int (nI ((rdC T L kd2 pl2).2.1)))) (fun jj => [(x 0, .inr (11, oL x h dr)), (x 4, .inr (10, oT x (nI L) (jj 0 0) (jj 1 0) (jj 2 0) (jj 3 0))), (x 5, .inl (E.2.1 1, 150, .inl (nf T))), (h 0, .inr (5, oH h (nI (tV T L (tE T L 0))) (nI (rdC T L kd2 pl2).2.2.2.2.2) (nI 0) (nI 0) (nI 0))), (h 1, .inl (E.2.1 0, 7, .inl (nf (rdC T L kd2 pl2).2.2.1))), (h 2, .inl (E.2.1 0, 7, .inl (nf (rdC T L kd2 pl2).2.2.2.1))), (h 3, .inl (E.2.1 0, 7, .inl (nf (rdC T L kd2 pl2).2.2.2.2.1))), (h 4, .inl (E.2.1 0, 6, .inl (nf dn2))), (h 5, .inl (E.2.1 0, 6, .inl (nf dp2))), (h 6, .inl (E.2.1 0, 30, .inl (nf nt2))), (h 7, .inl (E.2.1 0, 120, .inl ps2)), (dr 0, .inr (5, oH dr (nI (tV T L (tE T L 0))) (nI (rdC T L kd2 pl2).2.2.2.2.2) (nI 0) (nI 0) (nI 0))), (dr 1, .inl (E.2.1 0, 7, .inl (nf (rdC T L kd2 pl2).2.2.1))), (dr 2, .inl (E.2.1 0, 7, .inl (nf (rdC T L kd2 pl2).2.2.2.1))), (dr 3, .inl (E.2.1 0, 7, .inl (nf (rdC T L kd2 pl2).2.2.2.2.1))), (dr 4, .inl (E.2.1 0, 6, .inl (nf dn2))), (dr 5, .inl (E.2.1 0, 6, .inl (nf dp2))), (dr 6, .inl (E.2.1 0, 30, .inl (nf nt2))), (dr 7, .inl (E.2.1 0, 120, .inl ps2))]) := by
  refine fe_I (by decide) (Nat.le_of_ble_eq_true rfl) (fun _ => rfl) ?_
  intro K hC hR
  show G K E 2 [(x 0, .inr (11, oL x h dr)), (x 4, .inr (10, oT x (nI L) sr sa en vl)), (x 5, .inl (E.2.1 1, 150, .inl (nf T))), (h 0, .inr (5, oH h da pe de no pa)), (h 1, .inl (E.2.1 0, 7, .inl (nf kd))), (h 2, .inl (E.2.1 0, 7, .inl (nf pl))), (h 3, .inl (E.2.1 0, 7, .inl (nf bn))), (h 4, .inl (E.2.1 0, 6, .inl (nf dn))), (h 5, .inl (E.2.1 0, 6, .inl (nf dp))), (h 6, .inl (E.2.1 0, 30, .inl (nf nt))), (h 7, .inl (E.2.1 0, 120, .inl ps)), (dr 0, .inr (5, oH dr da2 pe2 de2 no2 pa2)), (dr 1, .inl (E.2.1 0, 7, .inl (nf kd2))), (dr 2, .inl (E.2.1 0, 7, .inl (nf pl2))), (dr 3, .inl (E.2.1 0, 7, .inl (nf bn2))), (dr 4, .inl (E.2.1 0, 6, .inl (nf dn2))), (dr 5, .inl (E.2.1 0, 6, .inl (nf dp2))), (dr 6, .inl (E.2.1 0, 30, .inl (nf nt2))), (dr 7, .inl (E.2.1 0, 120, .inl ps2))] [(0, .ref (x 0))] 0 []
  have hle := rdC_le hk
  refine g_aload_n hC dX11_read_0 rfl 0 rfl ?_
  refine g_get hC 0 11 4 inX11 m1_225 dX11_read_1 rfl rfl (by decide) rfl ?_
  refine g_aload_n hC dX11_read_4 rfl 0 rfl ?_
  refine g_get hC 0 11 1 inX11 m1_222 dX11_read_5 rfl rfl (by decide) rfl ?_
  refine g_callVE hC (f_X10_tell_ok (kl K) E x sr sa en vl T L dr da2 pe2 de2 no2 pa2 kd2 pl2 bn2 (by omega) (hT) (hk)) wX10_tell m2_51 dX11_read_8 [1, 2, 11, 12, 13, 14] (fun jj => [(x 0, .inr (11, oL x h dr)), (x 4, .inr (10, oT x (nI L) (jj 0 0) (jj 1 0) (jj 2 0) (jj 3 0))), (x 5, .inl (E.2.1 1, 150, .inl (nf T))), (h 0, .inr (5, oH h da pe de no pa)), (h 1, .inl (E.2.1 0, 7, .inl (nf kd))), (h 2, .inl (E.2.1 0, 7, .inl (nf pl))), (h 3, .inl (E.2.1 0, 7, .inl (nf bn))), (h 4, .inl (E.2.1 0, 6, .inl (nf dn))), (h 5, .inl (E.2.1 0, 6, .inl (nf dp))), (h 6, .inl (E.2.1 0, 30, .inl (nf nt))), (h 7, .inl (E.2.1 0, 120, .inl ps)), (dr 0, .inr (5, oH dr (nI (tV T L (tE T L 0))) (nI (rdC T L kd2 pl2).2.2.2.2.2) (nI 0) (nI 0) (nI 0))), (dr 1, .inl (E.2.1 0, 7, .inl (nf (rdC T L kd2 pl2).2.2.1))), (dr 2, .inl (E.2.1 0, 7, .inl (nf (rdC T L kd2 pl2).2.2.2.1))), (dr 3, .inl (E.2.1 0, 7, .inl (nf (rdC T L kd2 pl2).2.2.2.2.1))), (dr 4, .inl (E.2.1 0, 6, .inl (nf dn2))), (dr 5, .inl (E.2.1 0, 6, .inl (nf dp2))), (dr 6, .inl (E.2.1 0, 30, .inl (nf nt2))), (dr 7, .inl (E.2.1 0, 120, .inl ps2))]) 1 10 rfl rfl (by decide) rfl (Nat.le_of_ble_eq_true rfl) rfl rfl rfl (fun _ => rfl) (fun _ => rfl) (fun jj_8 => ?_)
  refine g_istore_n hC [(1, .int (nI ((rdC T L kd2 pl2).2.1))), (0, .ref (x 0))] dX11_read_11 rfl (by decide) rfl ?_
  refine g_iload_n hC dX11_read_12 rfl 0 rfl ?_
  refine g_if_geN (tgt := 27) hC dX11_read_13 (by decide) (by omega) (fun h_13 => ?_) (fun h_13 => ?_)
  · refine g_aload_n hC dX11_read_27 rfl 1 rfl ?_
    refine g_get hC 0 11 0 inX11 m1_221 dX11_read_28 rfl rfl (by decide) rfl ?_
    refine g_aload_n hC dX11_read_31 rfl 1 rfl ?_
    refine g_get hC 0 11 1 inX11 m1_222 dX11_read_32 rfl rfl (by decide) rfl ?_
    refine g_callV hC (f_X5_copyFrom (kl K) E h dr da pe de no pa (nI (tV T L (tE T L 0))) (nI (rdC T L kd2 pl2).2.2.2.2.2) (nI 0) (nI 0) (nI 0) kd pl bn dn dp nt ps ((rdC T L kd2 pl2).2.2.1) ((rdC T L kd2 pl2).2.2.2.1) ((rdC T L kd2 pl2).2.2.2.2.1) dn2 dp2 nt2 ps2) wX5_copyFrom m2_145 dX11_read_35 [3, 4, 5, 6, 7, 8, 9, 10, 11, 12, 13, 14, 15, 16, 17, 18] [(x 0, .inr (11, oL x h dr)), (x 4, .inr (10, oT x (nI L) (jj_8 0 0) (jj_8 1 0) (jj_8 2 0) (jj_8 3 0))), (x 5, .inl (E.2.1 1, 150, .inl (nf T))), (h 0, .inr (5, oH h (nI (tV T L (tE T L 0))) (nI (rdC T L kd2 pl2).2.2.2.2.2) (nI 0) (nI 0) (nI 0))), (h 1, .inl (E.2.1 0, 7, .inl (nf ((rdC T L kd2 pl2).2.2.1)))), (h 2, .inl (E.2.1 0, 7, .inl (nf ((rdC T L kd2 pl2).2.2.2.1)))), (h 3, .inl (E.2.1 0, 7, .inl (nf ((rdC T L kd2 pl2).2.2.2.2.1)))), (h 4, .inl (E.2.1 0, 6, .inl (nf dn2))), (h 5, .inl (E.2.1 0, 6, .inl (nf dp2))), (h 6, .inl (E.2.1 0, 30, .inl (nf nt2))), (h 7, .inl (E.2.1 0, 120, .inl ps2)), (dr 0, .inr (5, oH dr (nI (tV T L (tE T L 0))) (nI (rdC T L kd2 pl2).2.2.2.2.2) (nI 0) (nI 0) (nI 0))), (dr 1, .inl (E.2.1 0, 7, .inl (nf ((rdC T L kd2 pl2).2.2.1)))), (dr 2, .inl (E.2.1 0, 7, .inl (nf ((rdC T L kd2 pl2).2.2.2.1)))), (dr 3, .inl (E.2.1 0, 7, .inl (nf ((rdC T L kd2 pl2).2.2.2.2.1)))), (dr 4, .inl (E.2.1 0, 6, .inl (nf dn2))), (dr 5, .inl (E.2.1 0, 6, .inl (nf dp2))), (dr 6, .inl (E.2.1 0, 30, .inl (nf nt2))), (dr 7, .inl (E.2.1 0, 120, .inl ps2))] 3 5 rfl rfl (by decide) rfl (Nat.le_of_ble_eq_true rfl) rfl rfl rfl rfl rfl ?_
    refine g_iload_n hC dX11_read_38 rfl 0 rfl ?_
    exact g_val (rfl) (g_ws (rfl) (hR (fun jx => if jx = 0 then (fun _ => (jj_8 0 0)) else if jx = 1 then (fun _ => (jj_8 1 0)) else if jx = 2 then (fun _ => (jj_8 2 0)) else (fun _ => (jj_8 3 0))) _ _ dX11_read_39))
  · omega
set_option maxHeartbeats 600000 in
set_option maxRecDepth 100000 in
theorem f_X11_read_no (l : Launch) (E : Ew) (x : Nat → Nat) (h : Nat → Nat) (dr : Nat → Nat) (sr : Int32) (sa : Int32) (en : Int32) (vl : Int32) (T : Nat → Nat) (L : Nat) (da : Int32) (pe : Int32) (de : Int32) (no : Int32) (pa : Int32) (da2 : Int32) (pe2 : Int32) (de2 : Int32) (no2 : Int32) (pa2 : Int32) (kd : Nat → Nat) (pl : Nat → Nat) (bn : Nat → Nat) (dn : Nat → Nat) (dp : Nat → Nat) (nt : Nat → Nat) (ps : Nat → Int32) (kd2 : Nat → Nat) (pl2 : Nat → Nat) (bn2 : Nat → Nat) (dn2 : Nat → Nat) (dp2 : Nat → Nat) (nt2 : Nat → Nat) (ps2 : Nat → Int32) (hL : L ≤ 150) (hT : ∀ j, j < L → T j < 128) (hk : (rdC T L kd2 pl2).1 = false) : Fe l E 7 yX11_read cX11_read 2 (some .int) [.ref (x 0)] [(x 0, .inr (11, oL x h dr)), (x 4, .inr (10, oT x (nI L) sr sa en vl)), (x 5, .inl (E.2.1 1, 150, .inl (nf T))), (h 0, .inr (5, oH h da pe de no pa)), (h 1, .inl (E.2.1 0, 7, .inl (nf kd))), (h 2, .inl (E.2.1 0, 7, .inl (nf pl))), (h 3, .inl (E.2.1 0, 7, .inl (nf bn))), (h 4, .inl (E.2.1 0, 6, .inl (nf dn))), (h 5, .inl (E.2.1 0, 6, .inl (nf dp))), (h 6, .inl (E.2.1 0, 30, .inl (nf nt))), (h 7, .inl (E.2.1 0, 120, .inl ps)), (dr 0, .inr (5, oH dr da2 pe2 de2 no2 pa2)), (dr 1, .inl (E.2.1 0, 7, .inl (nf kd2))), (dr 2, .inl (E.2.1 0, 7, .inl (nf pl2))), (dr 3, .inl (E.2.1 0, 7, .inl (nf bn2))), (dr 4, .inl (E.2.1 0, 6, .inl (nf dn2))), (dr 5, .inl (E.2.1 0, 6, .inl (nf dp2))), (dr 6, .inl (E.2.1 0, 30, .inl (nf nt2))), (dr 7, .inl (E.2.1 0, 120, .inl ps2))] (some (.int ((-10) - (nI (rdC T L kd2 pl2).2.1)))) (fun jj => [(x 0, .inr (11, oL x h dr)), (x 4, .inr (10, oT x (nI L) (jj 0 0) (nI (rdC T L kd2 pl2).2.1) (jj 1 0) (jj 2 0))), (x 5, .inl (E.2.1 1, 150, .inl (nf T))), (h 0, .inr (5, oH h da pe de no pa)), (h 1, .inl (E.2.1 0, 7, .inl (nf kd))), (h 2, .inl (E.2.1 0, 7, .inl (nf pl))), (h 3, .inl (E.2.1 0, 7, .inl (nf bn))), (h 4, .inl (E.2.1 0, 6, .inl (nf dn))), (h 5, .inl (E.2.1 0, 6, .inl (nf dp))), (h 6, .inl (E.2.1 0, 30, .inl (nf nt))), (h 7, .inl (E.2.1 0, 120, .inl ps)), (dr 0, .inr (5, oH dr (jj 3 0) (jj 4 0) (jj 5 0) (jj 6 0) (jj 7 0))), (dr 1, .inl (E.2.1 0, 7, .inl (jj 8))), (dr 2, .inl (E.2.1 0, 7, .inl (jj 9))), (dr 3, .inl (E.2.1 0, 7, .inl (jj 10))), (dr 4, .inl (E.2.1 0, 6, .inl (nf dn2))), (dr 5, .inl (E.2.1 0, 6, .inl (nf dp2))), (dr 6, .inl (E.2.1 0, 30, .inl (nf nt2))), (dr 7, .inl (E.2.1 0, 120, .inl ps2))]) := by
  refine fe_I (by decide) (Nat.le_of_ble_eq_true rfl) (fun _ => rfl) ?_
  intro K hC hR
  show G K E 2 [(x 0, .inr (11, oL x h dr)), (x 4, .inr (10, oT x (nI L) sr sa en vl)), (x 5, .inl (E.2.1 1, 150, .inl (nf T))), (h 0, .inr (5, oH h da pe de no pa)), (h 1, .inl (E.2.1 0, 7, .inl (nf kd))), (h 2, .inl (E.2.1 0, 7, .inl (nf pl))), (h 3, .inl (E.2.1 0, 7, .inl (nf bn))), (h 4, .inl (E.2.1 0, 6, .inl (nf dn))), (h 5, .inl (E.2.1 0, 6, .inl (nf dp))), (h 6, .inl (E.2.1 0, 30, .inl (nf nt))), (h 7, .inl (E.2.1 0, 120, .inl ps)), (dr 0, .inr (5, oH dr da2 pe2 de2 no2 pa2)), (dr 1, .inl (E.2.1 0, 7, .inl (nf kd2))), (dr 2, .inl (E.2.1 0, 7, .inl (nf pl2))), (dr 3, .inl (E.2.1 0, 7, .inl (nf bn2))), (dr 4, .inl (E.2.1 0, 6, .inl (nf dn2))), (dr 5, .inl (E.2.1 0, 6, .inl (nf dp2))), (dr 6, .inl (E.2.1 0, 30, .inl (nf nt2))), (dr 7, .inl (E.2.1 0, 120, .inl ps2))] [(0, .ref (x 0))] 0 []
  refine g_aload_n hC dX11_read_0 rfl 0 rfl ?_
  refine g_get hC 0 11 4 inX11 m1_225 dX11_read_1 rfl rfl (by decide) rfl ?_
  refine g_aload_n hC dX11_read_4 rfl 0 rfl ?_
  refine g_get hC 0 11 1 inX11 m1_222 dX11_read_5 rfl rfl (by decide) rfl ?_
  refine g_callVE hC (f_X10_tell_no (kl K) E x sr sa en vl T L dr da2 pe2 de2 no2 pa2 kd2 pl2 bn2 (by omega) (hT) (hk)) wX10_tell m2_51 dX11_read_8 [1, 2, 11, 12, 13, 14] (fun jj => [(x 0, .inr (11, oL x h dr)), (x 4, .inr (10, oT x (nI L) (jj 0 0) (nI (rdC T L kd2 pl2).2.1) (jj 1 0) (jj 2 0))), (x 5, .inl (E.2.1 1, 150, .inl (nf T))), (h 0, .inr (5, oH h da pe de no pa)), (h 1, .inl (E.2.1 0, 7, .inl (nf kd))), (h 2, .inl (E.2.1 0, 7, .inl (nf pl))), (h 3, .inl (E.2.1 0, 7, .inl (nf bn))), (h 4, .inl (E.2.1 0, 6, .inl (nf dn))), (h 5, .inl (E.2.1 0, 6, .inl (nf dp))), (h 6, .inl (E.2.1 0, 30, .inl (nf nt))), (h 7, .inl (E.2.1 0, 120, .inl ps)), (dr 0, .inr (5, oH dr (jj 3 0) (jj 4 0) (jj 5 0) (jj 6 0) (jj 7 0))), (dr 1, .inl (E.2.1 0, 7, .inl (jj 8))), (dr 2, .inl (E.2.1 0, 7, .inl (jj 9))), (dr 3, .inl (E.2.1 0, 7, .inl (jj 10))), (dr 4, .inl (E.2.1 0, 6, .inl (nf dn2))), (dr 5, .inl (E.2.1 0, 6, .inl (nf dp2))), (dr 6, .inl (E.2.1 0, 30, .inl (nf nt2))), (dr 7, .inl (E.2.1 0, 120, .inl ps2))]) 1 10 rfl rfl (by decide) rfl (Nat.le_of_ble_eq_true rfl) rfl rfl rfl (fun _ => rfl) (fun _ => rfl) (fun jj_8 => ?_)
  refine g_istore_n hC [(1, .int (-1)), (0, .ref (x 0))] dX11_read_11 rfl (by decide) rfl ?_
  refine g_iload_n hC dX11_read_12 rfl 0 rfl ?_
  refine g_if_ge (tgt := 27) hC dX11_read_13 (by decide) (fun h_13 => ?_) (fun h_13 => ?_)
  · exact absurd h_13 (by decide)
  · refine g_bipush (v := (-10)) hC dX11_read_16 (by decide) ?_
    refine g_aload_n hC dX11_read_18 rfl 1 rfl ?_
    refine g_get hC 0 11 4 inX11 m1_225 dX11_read_19 rfl rfl (by decide) rfl ?_
    refine g_get hC 1 10 3 inX10 m1_103 dX11_read_22 rfl rfl (by decide) rfl ?_
    refine g_isub hC dX11_read_25 ?_
    exact g_val (rfl) (g_ws (rfl) (hR (fun jx => if jx = 0 then (fun _ => (jj_8 0 0)) else if jx = 1 then (fun _ => (jj_8 1 0)) else if jx = 2 then (fun _ => (jj_8 2 0)) else if jx = 3 then (fun _ => (jj_8 3 0)) else if jx = 4 then (fun _ => (jj_8 4 0)) else if jx = 5 then (fun _ => (jj_8 5 0)) else if jx = 6 then (fun _ => (jj_8 6 0)) else if jx = 7 then (fun _ => (jj_8 7 0)) else if jx = 8 then (jj_8 8) else if jx = 9 then (jj_8 9) else (jj_8 10)) _ _ dX11_read_26))
set_option maxHeartbeats 600000 in
set_option maxRecDepth 100000 in
theorem f_X11_call_ok (l : Launch) (E : Ew) (x : Nat → Nat) (h : Nat → Nat) (dr : Nat → Nat) (da : Int32) (de : Int32) (no : Int32) (n : Nat) (kd : Nat → Nat) (pl : Nat → Nat) (bn : Nat → Nat) (ao : Nat → Nat) (at1 : Nat → Nat) (an : Nat → Nat) (ps : Nat → Int32) (u : Nat) (x0 : Nat) (pp : Nat) (hn7 : n ≤ 7) (hkd : ∀ p, p < n → kd p < 6) (hpl : ∀ p, p < n → pl p < 10) (hbn : ∀ j, j < 7 → bn j < 2 ^ n) (hx : x0 < n) (hpp : pp < 10) (hu : u ≤ 8) : Fn l E 6 yX11_call cX11_call 4 (some .int) [.ref (x 0), .int (nI x0), .int (nI pp)] [(x 0, .inr (11, oL x h dr)), (x 7, .inr (6, oG x)), (x 8, .inl (E.2.1 4, 6, .inr (.inr (.inr (.inr (fun j => some (x (14 + j)))))))), (x 14, .inr (7, [])), (x 15, .inr (0, [])), (x 16, .inr (3, [])), (x 17, .inr (1, [])), (x 18, .inr (9, [])), (x 19, .inr (2, [])), (x 9, .inl (E.2.1 0, 10, .inl (nf ao))), (x 10, .inl (E.2.1 0, 10, .inl (nf at1))), (x 11, .inl (E.2.1 0, 10, .inl (nf an))), (h 0, .inr (5, oH h da (nI n) de no (nI u))), (h 1, .inl (E.2.1 0, 7, .inl (nf kd))), (h 2, .inl (E.2.1 0, 7, .inl (nf pl))), (h 3, .inl (E.2.1 0, 7, .inl (nf bn))), (h 7, .inl (E.2.1 0, 120, .inl ps))] (some (.int (nI (HT kd pl bn da x0 pp n)))) [(x 0, .inr (11, oL x h dr)), (x 7, .inr (6, oG x)), (x 8, .inl (E.2.1 4, 6, .inr (.inr (.inr (.inr (fun j => some (x (14 + j)))))))), (x 14, .inr (7, [])), (x 15, .inr (0, [])), (x 16, .inr (3, [])), (x 17, .inr (1, [])), (x 18, .inr (9, [])), (x 19, .inr (2, [])), (x 9, .inl (E.2.1 0, 10, .inl (nf (un ao pp (hB kd pl pp da true false n))))), (x 10, .inl (E.2.1 0, 10, .inl (nf (un at1 pp (hB kd pl pp da false false n))))), (x 11, .inl (E.2.1 0, 10, .inl (nf (un an pp (hB kd pl pp da false true n))))), (h 0, .inr (5, oH h da (nI n) de no (nI (if u = 8 then 8 else u + 1)))), (h 1, .inl (E.2.1 0, 7, .inl (nf kd))), (h 2, .inl (E.2.1 0, 7, .inl (nf pl))), (h 3, .inl (E.2.1 0, 7, .inl (nf (stl bn x0 (HT kd pl bn da x0 pp n))))), (h 7, .inl (E.2.1 0, 120, .inl (rmF bn pl da ps u)))] := by
  refine fn_I (by decide) (Nat.le_of_ble_eq_true rfl) rfl ?_
  intro K hC hR
  show G K E 4 [(x 0, .inr (11, oL x h dr)), (x 7, .inr (6, oG x)), (x 8, .inl (E.2.1 4, 6, .inr (.inr (.inr (.inr (fun j => some (x (14 + j)))))))), (x 14, .inr (7, [])), (x 15, .inr (0, [])), (x 16, .inr (3, [])), (x 17, .inr (1, [])), (x 18, .inr (9, [])), (x 19, .inr (2, [])), (x 9, .inl (E.2.1 0, 10, .inl (nf ao))), (x 10, .inl (E.2.1 0, 10, .inl (nf at1))), (x 11, .inl (E.2.1 0, 10, .inl (nf an))), (h 0, .inr (5, oH h da (nI n) de no (nI u))), (h 1, .inl (E.2.1 0, 7, .inl (nf kd))), (h 2, .inl (E.2.1 0, 7, .inl (nf pl))), (h 3, .inl (E.2.1 0, 7, .inl (nf bn))), (h 7, .inl (E.2.1 0, 120, .inl ps))] [(0, .ref (x 0)), (1, .int (nI x0)), (2, .int (nI pp))] 0 []
  have h2n : 2 ^ n ≤ 2 ^ 7 := Nat.pow_le_pow_right (by decide) hn7
  have hbl : ∀ j, j < 7 → bn j < 2147483648 := fun j hj => Nat.lt_of_lt_of_le (hbn j hj) (by omega)
  have hHT := HT_lt kd pl bn da x0 pp hn7
  refine g_aload_n hC dX11_call_0 rfl 0 rfl ?_
  refine g_iload_n hC dX11_call_1 rfl 1 rfl ?_
  refine g_callV hC (f_X11_isThere (kl K) E x h dr da de no (nI u) n (nI x0) (by omega)) wX11_isThere m2_156 dX11_call_2 [0, 12] [(x 0, .inr (11, oL x h dr)), (x 7, .inr (6, oG x)), (x 8, .inl (E.2.1 4, 6, .inr (.inr (.inr (.inr (fun j => some (x (14 + j)))))))), (x 14, .inr (7, [])), (x 15, .inr (0, [])), (x 16, .inr (3, [])), (x 17, .inr (1, [])), (x 18, .inr (9, [])), (x 19, .inr (2, [])), (x 9, .inl (E.2.1 0, 10, .inl (nf ao))), (x 10, .inl (E.2.1 0, 10, .inl (nf at1))), (x 11, .inl (E.2.1 0, 10, .inl (nf an))), (h 0, .inr (5, oH h da (nI n) de no (nI u))), (h 1, .inl (E.2.1 0, 7, .inl (nf kd))), (h 2, .inl (E.2.1 0, 7, .inl (nf pl))), (h 3, .inl (E.2.1 0, 7, .inl (nf bn))), (h 7, .inl (E.2.1 0, 120, .inl ps))] 0 11 rfl rfl (by decide) rfl (Nat.le_of_ble_eq_true rfl) rfl rfl rfl rfl rfl ?_
  refine g_if_eqB (tgt := 17) hC dX11_call_5 (by decide) (fun h_5 => ?_) (fun h_5 => ?_)
  · exact Bool.noConfusion ((inB_ok (by omega) (by omega)).symm.trans h_5)
  · refine g_iload_n hC dX11_call_8 rfl 2 rfl ?_
    refine g_bipush (v := (nI 10)) hC dX11_call_9 (by decide) ?_
    refine g_callS hC (f_X11_within (kl K) E (nI pp) 10 (by omega)) wX11_within m2_13 dX11_call_11 [] [(x 0, .inr (11, oL x h dr)), (x 7, .inr (6, oG x)), (x 8, .inl (E.2.1 4, 6, .inr (.inr (.inr (.inr (fun j => some (x (14 + j)))))))), (x 14, .inr (7, [])), (x 15, .inr (0, [])), (x 16, .inr (3, [])), (x 17, .inr (1, [])), (x 18, .inr (9, [])), (x 19, .inr (2, [])), (x 9, .inl (E.2.1 0, 10, .inl (nf ao))), (x 10, .inl (E.2.1 0, 10, .inl (nf at1))), (x 11, .inl (E.2.1 0, 10, .inl (nf an))), (h 0, .inr (5, oH h da (nI n) de no (nI u))), (h 1, .inl (E.2.1 0, 7, .inl (nf kd))), (h 2, .inl (E.2.1 0, 7, .inl (nf pl))), (h 3, .inl (E.2.1 0, 7, .inl (nf bn))), (h 7, .inl (E.2.1 0, 120, .inl ps))] (by decide) rfl (Nat.le_of_ble_eq_true rfl) rfl rfl rfl rfl rfl ?_
    refine g_if_neB (tgt := 24) hC dX11_call_14 (by decide) (fun h_14 => ?_) (fun h_14 => ?_)
    · refine g_aload_n hC dX11_call_24 rfl 0 rfl ?_
      refine g_iload_n hC dX11_call_25 rfl 1 rfl ?_
      refine g_iload_n hC dX11_call_26 rfl 2 rfl ?_
      refine g_callV hC (f_X11_turnersAt (kl K) E x h dr da de no (nI u) n kd pl bn ao at1 an x0 pp (by omega) (hkd) (hpl) (hbn) (by omega) (by omega)) wX11_turnersAt m2_160 dX11_call_27 [0, 1, 2, 3, 4, 5, 6, 7, 8, 9, 10, 11, 12, 13, 14, 15] [(x 0, .inr (11, oL x h dr)), (x 7, .inr (6, oG x)), (x 8, .inl (E.2.1 4, 6, .inr (.inr (.inr (.inr (fun j => some (x (14 + j)))))))), (x 14, .inr (7, [])), (x 15, .inr (0, [])), (x 16, .inr (3, [])), (x 17, .inr (1, [])), (x 18, .inr (9, [])), (x 19, .inr (2, [])), (x 9, .inl (E.2.1 0, 10, .inl (nf (un ao pp (hB kd pl pp da true false n))))), (x 10, .inl (E.2.1 0, 10, .inl (nf (un at1 pp (hB kd pl pp da false false n))))), (x 11, .inl (E.2.1 0, 10, .inl (nf (un an pp (hB kd pl pp da false true n))))), (h 0, .inr (5, oH h da (nI n) de no (nI u))), (h 1, .inl (E.2.1 0, 7, .inl (nf kd))), (h 2, .inl (E.2.1 0, 7, .inl (nf pl))), (h 3, .inl (E.2.1 0, 7, .inl (nf bn))), (h 7, .inl (E.2.1 0, 120, .inl ps))] 0 11 rfl rfl (by decide) rfl (Nat.le_of_ble_eq_true rfl) rfl rfl rfl rfl rfl ?_
      refine g_istore_n hC [(3, .int (nI (HT kd pl bn da x0 pp n))), (0, .ref (x 0)), (1, .int (nI x0)), (2, .int (nI pp))] dX11_call_30 rfl (by decide) rfl ?_
      refine g_aload_n hC dX11_call_31 rfl 1 rfl ?_
      refine g_get hC 0 11 0 inX11 m1_221 dX11_call_32 rfl rfl (by decide) rfl ?_
      refine g_callV hC (f_X5_remember (kl K) E h da (nI n) de no pl bn ps u (by omega)) wX5_remember m2_205 dX11_call_35 [12, 14, 15, 16] [(x 0, .inr (11, oL x h dr)), (x 7, .inr (6, oG x)), (x 8, .inl (E.2.1 4, 6, .inr (.inr (.inr (.inr (fun j => some (x (14 + j)))))))), (x 14, .inr (7, [])), (x 15, .inr (0, [])), (x 16, .inr (3, [])), (x 17, .inr (1, [])), (x 18, .inr (9, [])), (x 19, .inr (2, [])), (x 9, .inl (E.2.1 0, 10, .inl (nf (un ao pp (hB kd pl pp da true false n))))), (x 10, .inl (E.2.1 0, 10, .inl (nf (un at1 pp (hB kd pl pp da false false n))))), (x 11, .inl (E.2.1 0, 10, .inl (nf (un an pp (hB kd pl pp da false true n))))), (h 0, .inr (5, oH h da (nI n) de no (nI (if u = 8 then 8 else u + 1)))), (h 1, .inl (E.2.1 0, 7, .inl (nf kd))), (h 2, .inl (E.2.1 0, 7, .inl (nf pl))), (h 3, .inl (E.2.1 0, 7, .inl (nf bn))), (h 7, .inl (E.2.1 0, 120, .inl (rmF bn pl da ps u)))] 12 5 rfl rfl (by decide) rfl (Nat.le_of_ble_eq_true rfl) rfl rfl rfl rfl rfl ?_
      refine g_aload_n hC dX11_call_38 rfl 1 rfl ?_
      refine g_get hC 0 11 0 inX11 m1_221 dX11_call_39 rfl rfl (by decide) rfl ?_
      refine g_get hC 12 5 4 inX5 m1_52 dX11_call_42 rfl rfl (by decide) rfl ?_
      refine g_iload_n hC dX11_call_45 rfl 2 rfl ?_
      refine g_iload_n hC dX11_call_46 rfl 0 rfl ?_
      refine g_callS hC (f_X11_settle (kl K) E (h 3) bn x0 (HT kd pl bn da x0 pp n) (by omega) (by omega) (hbl)) wX11_settle m2_209 dX11_call_47 [15] [(x 0, .inr (11, oL x h dr)), (x 7, .inr (6, oG x)), (x 8, .inl (E.2.1 4, 6, .inr (.inr (.inr (.inr (fun j => some (x (14 + j)))))))), (x 14, .inr (7, [])), (x 15, .inr (0, [])), (x 16, .inr (3, [])), (x 17, .inr (1, [])), (x 18, .inr (9, [])), (x 19, .inr (2, [])), (x 9, .inl (E.2.1 0, 10, .inl (nf (un ao pp (hB kd pl pp da true false n))))), (x 10, .inl (E.2.1 0, 10, .inl (nf (un at1 pp (hB kd pl pp da false false n))))), (x 11, .inl (E.2.1 0, 10, .inl (nf (un an pp (hB kd pl pp da false true n))))), (h 0, .inr (5, oH h da (nI n) de no (nI (if u = 8 then 8 else u + 1)))), (h 1, .inl (E.2.1 0, 7, .inl (nf kd))), (h 2, .inl (E.2.1 0, 7, .inl (nf pl))), (h 3, .inl (E.2.1 0, 7, .inl (nf (stl bn x0 (HT kd pl bn da x0 pp n))))), (h 7, .inl (E.2.1 0, 120, .inl (rmF bn pl da ps u)))] (by decide) rfl (Nat.le_of_ble_eq_true rfl) rfl rfl rfl rfl rfl ?_
      refine g_iload_n hC dX11_call_50 rfl 0 rfl ?_
      exact g_val (rfl) (g_ws (rfl) (hR _ _ dX11_call_51))
    · exact Bool.noConfusion ((inB_ok (by omega) (by omega)).symm.trans h_14)
set_option maxHeartbeats 600000 in
set_option maxRecDepth 100000 in
theorem f_X11_call_bad (l : Launch) (E : Ew) (x : Nat → Nat) (h : Nat → Nat) (dr : Nat → Nat) (da : Int32) (de : Int32) (no : Int32) (pa : Int32) (n : Nat) (r : Nat → Int32) (x0 : Int32) (pp : Int32) (hn7 : n ≤ 7) (hb : (inB x0 n && inB pp 10) = false) : Fn l E 2 yX11_call cX11_call 4 (some .int) [.ref (x 0), .int x0, .int pp] [(x 0, .inr (11, oL x h dr)), (h 0, .inr (5, oH h da (nI n) de no pa)), (x 3, .inl (E.2.1 0, 3, .inl r))] (some (.int (-2))) [(x 0, .inr (11, oL x h dr)), (h 0, .inr (5, oH h da (nI n) de no pa)), (x 3, .inl (E.2.1 0, 3, .inl (upd r 0 (r 0 + nI 1))))] := by
  refine fn_I (by decide) (Nat.le_of_ble_eq_true rfl) rfl ?_
  intro K hC hR
  show G K E 4 [(x 0, .inr (11, oL x h dr)), (h 0, .inr (5, oH h da (nI n) de no pa)), (x 3, .inl (E.2.1 0, 3, .inl r))] [(0, .ref (x 0)), (1, .int x0), (2, .int pp)] 0 []
  refine g_aload_n hC dX11_call_0 rfl 0 rfl ?_
  refine g_iload_n hC dX11_call_1 rfl 1 rfl ?_
  refine g_callV hC (f_X11_isThere (kl K) E x h dr da de no pa n x0 (by omega)) wX11_isThere m2_156 dX11_call_2 [0, 1] [(x 0, .inr (11, oL x h dr)), (h 0, .inr (5, oH h da (nI n) de no pa)), (x 3, .inl (E.2.1 0, 3, .inl r))] 0 11 rfl rfl (by decide) rfl (Nat.le_of_ble_eq_true rfl) rfl rfl rfl rfl rfl ?_
  refine g_if_eqB (tgt := 17) hC dX11_call_5 (by decide) (fun h_5 => ?_) (fun h_5 => ?_)
  · refine g_aload_n hC dX11_call_17 rfl 0 rfl ?_
    refine g_bipush (v := (-2)) hC dX11_call_18 (by decide) ?_
    refine g_callV hC (f_X11_refuse_bad (kl K) E x h dr r) wX11_refuse m2_16 dX11_call_20 [0, 2] [(x 0, .inr (11, oL x h dr)), (h 0, .inr (5, oH h da (nI n) de no pa)), (x 3, .inl (E.2.1 0, 3, .inl (upd r 0 (r 0 + nI 1))))] 0 11 rfl rfl (by decide) rfl (Nat.le_of_ble_eq_true rfl) rfl rfl rfl rfl rfl ?_
    exact g_val (rfl) (g_ws (rfl) (hR _ _ dX11_call_23))
  · refine g_iload_n hC dX11_call_8 rfl 2 rfl ?_
    refine g_bipush (v := (nI 10)) hC dX11_call_9 (by decide) ?_
    refine g_callS hC (f_X11_within (kl K) E pp 10 (by omega)) wX11_within m2_13 dX11_call_11 [] [(x 0, .inr (11, oL x h dr)), (h 0, .inr (5, oH h da (nI n) de no pa)), (x 3, .inl (E.2.1 0, 3, .inl r))] (by decide) rfl (Nat.le_of_ble_eq_true rfl) rfl rfl rfl rfl rfl ?_
    refine g_if_neB (tgt := 24) hC dX11_call_14 (by decide) (fun h_14 => ?_) (fun h_14 => ?_)
    · exact absurd hb (by simp [h_5, h_14])
    · refine g_aload_n hC dX11_call_17 rfl 0 rfl ?_
      refine g_bipush (v := (-2)) hC dX11_call_18 (by decide) ?_
      refine g_callV hC (f_X11_refuse_bad (kl K) E x h dr r) wX11_refuse m2_16 dX11_call_20 [0, 2] [(x 0, .inr (11, oL x h dr)), (h 0, .inr (5, oH h da (nI n) de no pa)), (x 3, .inl (E.2.1 0, 3, .inl (upd r 0 (r 0 + nI 1))))] 0 11 rfl rfl (by decide) rfl (Nat.le_of_ble_eq_true rfl) rfl rfl rfl rfl rfl ?_
      exact g_val (rfl) (g_ws (rfl) (hR _ _ dX11_call_23))
set_option maxHeartbeats 600000 in
set_option maxRecDepth 100000 in
theorem f_X11_goes_bad (l : Launch) (E : Ew) (x : Nat → Nat) (h : Nat → Nat) (dr : Nat → Nat) (da : Int32) (de : Int32) (no : Int32) (pa : Int32) (n : Nat) (r : Nat → Int32) (x0 : Int32) (pp : Int32) (hn7 : n ≤ 7) (hb : (inB x0 n && inB pp 10) = false) : Fn l E 2 yX11_goes cX11_goes 4 (some .int) [.ref (x 0), .int x0, .int pp] [(x 0, .inr (11, oL x h dr)), (h 0, .inr (5, oH h da (nI n) de no pa)), (x 3, .inl (E.2.1 0, 3, .inl r))] (some (.int (-2))) [(x 0, .inr (11, oL x h dr)), (h 0, .inr (5, oH h da (nI n) de no pa)), (x 3, .inl (E.2.1 0, 3, .inl (upd r 0 (r 0 + nI 1))))] := by
  refine fn_I (by decide) (Nat.le_of_ble_eq_true rfl) rfl ?_
  intro K hC hR
  show G K E 4 [(x 0, .inr (11, oL x h dr)), (h 0, .inr (5, oH h da (nI n) de no pa)), (x 3, .inl (E.2.1 0, 3, .inl r))] [(0, .ref (x 0)), (1, .int x0), (2, .int pp)] 0 []
  refine g_aload_n hC dX11_goes_0 rfl 0 rfl ?_
  refine g_iload_n hC dX11_goes_1 rfl 1 rfl ?_
  refine g_callV hC (f_X11_isThere (kl K) E x h dr da de no pa n x0 (by omega)) wX11_isThere m2_156 dX11_goes_2 [0, 1] [(x 0, .inr (11, oL x h dr)), (h 0, .inr (5, oH h da (nI n) de no pa)), (x 3, .inl (E.2.1 0, 3, .inl r))] 0 11 rfl rfl (by decide) rfl (Nat.le_of_ble_eq_true rfl) rfl rfl rfl rfl rfl ?_
  refine g_if_eqB (tgt := 17) hC dX11_goes_5 (by decide) (fun h_5 => ?_) (fun h_5 => ?_)
  · refine g_aload_n hC dX11_goes_17 rfl 0 rfl ?_
    refine g_bipush (v := (-2)) hC dX11_goes_18 (by decide) ?_
    refine g_callV hC (f_X11_refuse_bad (kl K) E x h dr r) wX11_refuse m2_16 dX11_goes_20 [0, 2] [(x 0, .inr (11, oL x h dr)), (h 0, .inr (5, oH h da (nI n) de no pa)), (x 3, .inl (E.2.1 0, 3, .inl (upd r 0 (r 0 + nI 1))))] 0 11 rfl rfl (by decide) rfl (Nat.le_of_ble_eq_true rfl) rfl rfl rfl rfl rfl ?_
    exact g_val (rfl) (g_ws (rfl) (hR _ _ dX11_goes_23))
  · refine g_iload_n hC dX11_goes_8 rfl 2 rfl ?_
    refine g_bipush (v := (nI 10)) hC dX11_goes_9 (by decide) ?_
    refine g_callS hC (f_X11_within (kl K) E pp 10 (by omega)) wX11_within m2_13 dX11_goes_11 [] [(x 0, .inr (11, oL x h dr)), (h 0, .inr (5, oH h da (nI n) de no pa)), (x 3, .inl (E.2.1 0, 3, .inl r))] (by decide) rfl (Nat.le_of_ble_eq_true rfl) rfl rfl rfl rfl rfl ?_
    refine g_if_neB (tgt := 24) hC dX11_goes_14 (by decide) (fun h_14 => ?_) (fun h_14 => ?_)
    · exact absurd hb (by simp [h_5, h_14])
    · refine g_aload_n hC dX11_goes_17 rfl 0 rfl ?_
      refine g_bipush (v := (-2)) hC dX11_goes_18 (by decide) ?_
      refine g_callV hC (f_X11_refuse_bad (kl K) E x h dr r) wX11_refuse m2_16 dX11_goes_20 [0, 2] [(x 0, .inr (11, oL x h dr)), (h 0, .inr (5, oH h da (nI n) de no pa)), (x 3, .inl (E.2.1 0, 3, .inl (upd r 0 (r 0 + nI 1))))] 0 11 rfl rfl (by decide) rfl (Nat.le_of_ble_eq_true rfl) rfl rfl rfl rfl rfl ?_
      exact g_val (rfl) (g_ws (rfl) (hR _ _ dX11_goes_23))
set_option maxHeartbeats 600000 in
set_option maxRecDepth 100000 in
theorem f_X11_turn_bad (l : Launch) (E : Ew) (x : Nat → Nat) (h : Nat → Nat) (dr : Nat → Nat) (da : Int32) (de : Int32) (no : Int32) (pa : Int32) (n : Nat) (r : Nat → Int32) (x0 : Int32) (pp : Int32) (hn7 : n ≤ 7) (hb : (inB x0 n && inB pp 10) = false) : Fn l E 2 yX11_turn cX11_turn 3 (some .int) [.ref (x 0), .int x0, .int pp] [(x 0, .inr (11, oL x h dr)), (h 0, .inr (5, oH h da (nI n) de no pa)), (x 3, .inl (E.2.1 0, 3, .inl r))] (some (.int (-2))) [(x 0, .inr (11, oL x h dr)), (h 0, .inr (5, oH h da (nI n) de no pa)), (x 3, .inl (E.2.1 0, 3, .inl (upd r 0 (r 0 + nI 1))))] := by
  refine fn_I (by decide) (Nat.le_of_ble_eq_true rfl) rfl ?_
  intro K hC hR
  show G K E 3 [(x 0, .inr (11, oL x h dr)), (h 0, .inr (5, oH h da (nI n) de no pa)), (x 3, .inl (E.2.1 0, 3, .inl r))] [(0, .ref (x 0)), (1, .int x0), (2, .int pp)] 0 []
  refine g_aload_n hC dX11_turn_0 rfl 0 rfl ?_
  refine g_iload_n hC dX11_turn_1 rfl 1 rfl ?_
  refine g_callV hC (f_X11_isThere (kl K) E x h dr da de no pa n x0 (by omega)) wX11_isThere m2_156 dX11_turn_2 [0, 1] [(x 0, .inr (11, oL x h dr)), (h 0, .inr (5, oH h da (nI n) de no pa)), (x 3, .inl (E.2.1 0, 3, .inl r))] 0 11 rfl rfl (by decide) rfl (Nat.le_of_ble_eq_true rfl) rfl rfl rfl rfl rfl ?_
  refine g_if_eqB (tgt := 17) hC dX11_turn_5 (by decide) (fun h_5 => ?_) (fun h_5 => ?_)
  · refine g_aload_n hC dX11_turn_17 rfl 0 rfl ?_
    refine g_bipush (v := (-2)) hC dX11_turn_18 (by decide) ?_
    refine g_callV hC (f_X11_refuse_bad (kl K) E x h dr r) wX11_refuse m2_16 dX11_turn_20 [0, 2] [(x 0, .inr (11, oL x h dr)), (h 0, .inr (5, oH h da (nI n) de no pa)), (x 3, .inl (E.2.1 0, 3, .inl (upd r 0 (r 0 + nI 1))))] 0 11 rfl rfl (by decide) rfl (Nat.le_of_ble_eq_true rfl) rfl rfl rfl rfl rfl ?_
    exact g_val (rfl) (g_ws (rfl) (hR _ _ dX11_turn_23))
  · refine g_iload_n hC dX11_turn_8 rfl 2 rfl ?_
    refine g_bipush (v := (nI 10)) hC dX11_turn_9 (by decide) ?_
    refine g_callS hC (f_X11_within (kl K) E pp 10 (by omega)) wX11_within m2_13 dX11_turn_11 [] [(x 0, .inr (11, oL x h dr)), (h 0, .inr (5, oH h da (nI n) de no pa)), (x 3, .inl (E.2.1 0, 3, .inl r))] (by decide) rfl (Nat.le_of_ble_eq_true rfl) rfl rfl rfl rfl rfl ?_
    refine g_if_neB (tgt := 24) hC dX11_turn_14 (by decide) (fun h_14 => ?_) (fun h_14 => ?_)
    · exact absurd hb (by simp [h_5, h_14])
    · refine g_aload_n hC dX11_turn_17 rfl 0 rfl ?_
      refine g_bipush (v := (-2)) hC dX11_turn_18 (by decide) ?_
      refine g_callV hC (f_X11_refuse_bad (kl K) E x h dr r) wX11_refuse m2_16 dX11_turn_20 [0, 2] [(x 0, .inr (11, oL x h dr)), (h 0, .inr (5, oH h da (nI n) de no pa)), (x 3, .inl (E.2.1 0, 3, .inl (upd r 0 (r 0 + nI 1))))] 0 11 rfl rfl (by decide) rfl (Nat.le_of_ble_eq_true rfl) rfl rfl rfl rfl rfl ?_
      exact g_val (rfl) (g_ws (rfl) (hR _ _ dX11_turn_23))
set_option maxHeartbeats 600000 in
set_option maxRecDepth 100000 in
theorem f_X11_goes_ok (l : Launch) (E : Ew) (x : Nat → Nat) (h : Nat → Nat) (dr : Nat → Nat) (da : Int32) (de : Int32) (no : Int32) (n : Nat) (pl : Nat → Nat) (bn : Nat → Nat) (ps : Nat → Int32) (u : Nat) (x0 : Nat) (pp : Nat) (hn7 : n ≤ 7) (hx : x0 < n) (hpp : pp < 10) (hu : u ≤ 8) : Fn l E 2 yX11_goes cX11_goes 4 (some .int) [.ref (x 0), .int (nI x0), .int (nI pp)] [(x 0, .inr (11, oL x h dr)), (h 0, .inr (5, oH h da (nI n) de no (nI u))), (h 2, .inl (E.2.1 0, 7, .inl (nf pl))), (h 3, .inl (E.2.1 0, 7, .inl (nf bn))), (h 7, .inl (E.2.1 0, 120, .inl ps))] (some (.int (nI (pl x0)))) [(x 0, .inr (11, oL x h dr)), (h 0, .inr (5, oH h da (nI n) de no (nI (if u = 8 then 8 else u + 1)))), (h 2, .inl (E.2.1 0, 7, .inl (nf (un pl x0 pp)))), (h 3, .inl (E.2.1 0, 7, .inl (nf bn))), (h 7, .inl (E.2.1 0, 120, .inl (rmF bn pl da ps u)))] := by
  refine fn_I (by decide) (Nat.le_of_ble_eq_true rfl) rfl ?_
  intro K hC hR
  show G K E 4 [(x 0, .inr (11, oL x h dr)), (h 0, .inr (5, oH h da (nI n) de no (nI u))), (h 2, .inl (E.2.1 0, 7, .inl (nf pl))), (h 3, .inl (E.2.1 0, 7, .inl (nf bn))), (h 7, .inl (E.2.1 0, 120, .inl ps))] [(0, .ref (x 0)), (1, .int (nI x0)), (2, .int (nI pp))] 0 []
  refine g_aload_n hC dX11_goes_0 rfl 0 rfl ?_
  refine g_iload_n hC dX11_goes_1 rfl 1 rfl ?_
  refine g_callV hC (f_X11_isThere (kl K) E x h dr da de no (nI u) n (nI x0) (by omega)) wX11_isThere m2_156 dX11_goes_2 [0, 1] [(x 0, .inr (11, oL x h dr)), (h 0, .inr (5, oH h da (nI n) de no (nI u))), (h 2, .inl (E.2.1 0, 7, .inl (nf pl))), (h 3, .inl (E.2.1 0, 7, .inl (nf bn))), (h 7, .inl (E.2.1 0, 120, .inl ps))] 0 11 rfl rfl (by decide) rfl (Nat.le_of_ble_eq_true rfl) rfl rfl rfl rfl rfl ?_
  refine g_if_eqB (tgt := 17) hC dX11_goes_5 (by decide) (fun h_5 => ?_) (fun h_5 => ?_)
  · exact Bool.noConfusion ((inB_ok (by omega) (by omega)).symm.trans h_5)
  · refine g_iload_n hC dX11_goes_8 rfl 2 rfl ?_
    refine g_bipush (v := (nI 10)) hC dX11_goes_9 (by decide) ?_
    refine g_callS hC (f_X11_within (kl K) E (nI pp) 10 (by omega)) wX11_within m2_13 dX11_goes_11 [] [(x 0, .inr (11, oL x h dr)), (h 0, .inr (5, oH h da (nI n) de no (nI u))), (h 2, .inl (E.2.1 0, 7, .inl (nf pl))), (h 3, .inl (E.2.1 0, 7, .inl (nf bn))), (h 7, .inl (E.2.1 0, 120, .inl ps))] (by decide) rfl (Nat.le_of_ble_eq_true rfl) rfl rfl rfl rfl rfl ?_
    refine g_if_neB (tgt := 24) hC dX11_goes_14 (by decide) (fun h_14 => ?_) (fun h_14 => ?_)
    · refine g_aload_n hC dX11_goes_24 rfl 0 rfl ?_
      refine g_get hC 0 11 0 inX11 m1_221 dX11_goes_25 rfl rfl (by decide) rfl ?_
      refine g_get hC 1 5 3 inX5 m1_49 dX11_goes_28 rfl rfl (by decide) rfl ?_
      refine g_iload_n hC dX11_goes_31 rfl 1 rfl ?_
      refine g_ialdN hC 2 dX11_goes_32 rfl (by decide) (by omega) ?_
      refine g_val (v' := .int (nI (pl x0))) rfl ?_
      refine g_istore_n hC [(3, .int (nI (pl x0))), (0, .ref (x 0)), (1, .int (nI x0)), (2, .int (nI pp))] dX11_goes_33 rfl (by decide) rfl ?_
      refine g_aload_n hC dX11_goes_34 rfl 1 rfl ?_
      refine g_get hC 0 11 0 inX11 m1_221 dX11_goes_35 rfl rfl (by decide) rfl ?_
      refine g_callV hC (f_X5_remember (kl K) E h da (nI n) de no pl bn ps u (by omega)) wX5_remember m2_205 dX11_goes_38 [1, 2, 3, 4] [(x 0, .inr (11, oL x h dr)), (h 0, .inr (5, oH h da (nI n) de no (nI (if u = 8 then 8 else u + 1)))), (h 2, .inl (E.2.1 0, 7, .inl (nf pl))), (h 3, .inl (E.2.1 0, 7, .inl (nf bn))), (h 7, .inl (E.2.1 0, 120, .inl (rmF bn pl da ps u)))] 1 5 rfl rfl (by decide) rfl (Nat.le_of_ble_eq_true rfl) rfl rfl rfl rfl rfl ?_
      refine g_aload_n hC dX11_goes_41 rfl 1 rfl ?_
      refine g_get hC 0 11 0 inX11 m1_221 dX11_goes_42 rfl rfl (by decide) rfl ?_
      refine g_get hC 1 5 3 inX5 m1_49 dX11_goes_45 rfl rfl (by decide) rfl ?_
      refine g_iload_n hC dX11_goes_48 rfl 2 rfl ?_
      refine g_iload_n hC dX11_goes_49 rfl 3 rfl ?_
      refine g_iastN hC 2 [(x 0, .inr (11, oL x h dr)), (h 0, .inr (5, oH h da (nI n) de no (nI (if u = 8 then 8 else u + 1)))), (h 2, .inl (E.2.1 0, 7, .inl (upd (nf pl) x0 (nI pp)))), (h 3, .inl (E.2.1 0, 7, .inl (nf bn))), (h 7, .inl (E.2.1 0, 120, .inl (rmF bn pl da ps u)))] dX11_goes_50 rfl (by decide) (by omega) rfl ?_
      refine g_ws (ws' := [(x 0, .inr (11, oL x h dr)), (h 0, .inr (5, oH h da (nI n) de no (nI (if u = 8 then 8 else u + 1)))), (h 2, .inl (E.2.1 0, 7, .inl (nf (un pl x0 pp)))), (h 3, .inl (E.2.1 0, 7, .inl (nf bn))), (h 7, .inl (E.2.1 0, 120, .inl (rmF bn pl da ps u)))]) (by rw [nf_u pl x0 pp]) ?_
      refine g_iload_n hC dX11_goes_51 rfl 0 rfl ?_
      exact g_val (rfl) (g_ws (rfl) (hR _ _ dX11_goes_52))
    · exact Bool.noConfusion ((inB_ok (by omega) (by omega)).symm.trans h_14)
set_option maxHeartbeats 600000 in
set_option maxRecDepth 100000 in
theorem f_X11_day (l : Launch) (E : Ew) (x : Nat → Nat) (h : Nat → Nat) (dr : Nat → Nat) (da : Int32) (de : Int32) (no : Int32) (pe : Int32) (pl : Nat → Nat) (bn : Nat → Nat) (ps : Nat → Int32) (u : Nat) (hu : u ≤ 8) : Fn l E 2 yX11_day cX11_day 1 (some .int) [.ref (x 0)] [(x 0, .inr (11, oL x h dr)), (h 0, .inr (5, oH h da pe de no (nI u))), (h 2, .inl (E.2.1 0, 7, .inl (nf pl))), (h 3, .inl (E.2.1 0, 7, .inl (nf bn))), (h 7, .inl (E.2.1 0, 120, .inl ps))] (some (.int (da + (nI 1)))) [(x 0, .inr (11, oL x h dr)), (h 0, .inr (5, oH h (da + (nI 1)) pe de no (nI (if u = 8 then 8 else u + 1)))), (h 2, .inl (E.2.1 0, 7, .inl (nf pl))), (h 3, .inl (E.2.1 0, 7, .inl (nf bn))), (h 7, .inl (E.2.1 0, 120, .inl (rmF bn pl da ps u)))] := by
  refine fn_I (by decide) (Nat.le_of_ble_eq_true rfl) rfl ?_
  intro K hC hR
  show G K E 1 [(x 0, .inr (11, oL x h dr)), (h 0, .inr (5, oH h da pe de no (nI u))), (h 2, .inl (E.2.1 0, 7, .inl (nf pl))), (h 3, .inl (E.2.1 0, 7, .inl (nf bn))), (h 7, .inl (E.2.1 0, 120, .inl ps))] [(0, .ref (x 0))] 0 []
  refine g_aload_n hC dX11_day_0 rfl 0 rfl ?_
  refine g_get hC 0 11 0 inX11 m1_221 dX11_day_1 rfl rfl (by decide) rfl ?_
  refine g_callV hC (f_X5_remember (kl K) E h da pe de no pl bn ps u (by omega)) wX5_remember m2_205 dX11_day_4 [1, 2, 3, 4] [(x 0, .inr (11, oL x h dr)), (h 0, .inr (5, oH h da pe de no (nI (if u = 8 then 8 else u + 1)))), (h 2, .inl (E.2.1 0, 7, .inl (nf pl))), (h 3, .inl (E.2.1 0, 7, .inl (nf bn))), (h 7, .inl (E.2.1 0, 120, .inl (rmF bn pl da ps u)))] 1 5 rfl rfl (by decide) rfl (Nat.le_of_ble_eq_true rfl) rfl rfl rfl rfl rfl ?_
  refine g_aload_n hC dX11_day_7 rfl 0 rfl ?_
  refine g_get hC 0 11 0 inX11 m1_221 dX11_day_8 rfl rfl (by decide) rfl ?_
  refine g_dup hC dX11_day_11 rfl ?_
  refine g_get hC 1 5 0 inX5 m1_38 dX11_day_12 rfl rfl (by decide) rfl ?_
  refine g_iconst (v := (nI 1)) hC dX11_day_15 (by decide) ?_
  refine g_iadd hC dX11_day_16 ?_
  refine g_put hC 1 5 0 [(x 0, .inr (11, oL x h dr)), (h 0, .inr (5, oH h (da + (nI 1)) pe de no (nI (if u = 8 then 8 else u + 1)))), (h 2, .inl (E.2.1 0, 7, .inl (nf pl))), (h 3, .inl (E.2.1 0, 7, .inl (nf bn))), (h 7, .inl (E.2.1 0, 120, .inl (rmF bn pl da ps u)))] .int inX5 tyX5_ok nmX5 m1_38 dX11_day_17 rfl rfl (by decide) rfl (by decide +kernel) rfl rfl (Nat.le_of_ble_eq_true rfl) rfl ?_
  refine g_aload_n hC dX11_day_20 rfl 0 rfl ?_
  refine g_get hC 0 11 0 inX11 m1_221 dX11_day_21 rfl rfl (by decide) rfl ?_
  refine g_get hC 1 5 0 inX5 m1_38 dX11_day_24 rfl rfl (by decide) rfl ?_
  exact g_val (rfl) (g_ws (rfl) (hR _ _ dX11_day_27))
set_option maxHeartbeats 600000 in
set_option maxRecDepth 100000 in
theorem f_X11_undo_no (l : Launch) (E : Ew) (x : Nat → Nat) (h : Nat → Nat) (dr : Nat → Nat) (da : Int32) (de : Int32) (no : Int32) (pe : Int32) (r : Nat → Int32)  : Fn l E 2 yX11_undo cX11_undo 1 (some .int) [.ref (x 0)] [(x 0, .inr (11, oL x h dr)), (h 0, .inr (5, oH h da pe de no (nI 0))), (x 3, .inl (E.2.1 0, 3, .inl r))] (some (.int (-3))) [(x 0, .inr (11, oL x h dr)), (h 0, .inr (5, oH h da pe de no (nI 0))), (x 3, .inl (E.2.1 0, 3, .inl (upd r 1 (r 1 + nI 1))))] := by
  refine fn_I (by decide) (Nat.le_of_ble_eq_true rfl) rfl ?_
  intro K hC hR
  show G K E 1 [(x 0, .inr (11, oL x h dr)), (h 0, .inr (5, oH h da pe de no (nI 0))), (x 3, .inl (E.2.1 0, 3, .inl r))] [(0, .ref (x 0))] 0 []
  refine g_aload_n hC dX11_undo_0 rfl 0 rfl ?_
  refine g_get hC 0 11 0 inX11 m1_221 dX11_undo_1 rfl rfl (by decide) rfl ?_
  refine g_get hC 1 5 10 inX5 m1_64 dX11_undo_4 rfl rfl (by decide) rfl ?_
  refine g_if_gtN (tgt := 17) hC dX11_undo_7 (by decide) (by omega) (fun h_7 => ?_) (fun h_7 => ?_)
  · omega
  · refine g_aload_n hC dX11_undo_10 rfl 0 rfl ?_
    refine g_bipush (v := (-3)) hC dX11_undo_11 (by decide) ?_
    refine g_callV hC (f_X11_refuse_no (kl K) E x h dr r) wX11_refuse m2_16 dX11_undo_13 [0, 2] [(x 0, .inr (11, oL x h dr)), (h 0, .inr (5, oH h da pe de no (nI 0))), (x 3, .inl (E.2.1 0, 3, .inl (upd r 1 (r 1 + nI 1))))] 0 11 rfl rfl (by decide) rfl (Nat.le_of_ble_eq_true rfl) rfl rfl rfl rfl rfl ?_
    exact g_val (rfl) (g_ws (rfl) (hR _ _ dX11_undo_16))
set_option maxHeartbeats 600000 in
set_option maxRecDepth 100000 in
theorem f_X11_undo_ok (l : Launch) (E : Ew) (x : Nat → Nat) (h : Nat → Nat) (dr : Nat → Nat) (da : Int32) (de : Int32) (no : Int32) (pe : Int32) (pl : Nat → Nat) (bn : Nat → Nat) (ps : Nat → Int32) (u : Nat) (pz : Nat → Nat) (hu : u < 8) (hz : ∀ m, m < 14 → ps (u * 15 + m) = nI (pz m)) : Fn l E 2 yX11_undo cX11_undo 1 (some .int) [.ref (x 0)] [(x 0, .inr (11, oL x h dr)), (h 0, .inr (5, oH h da pe de no (nI (u + 1)))), (h 2, .inl (E.2.1 0, 7, .inl (nf pl))), (h 3, .inl (E.2.1 0, 7, .inl (nf bn))), (h 7, .inl (E.2.1 0, 120, .inl ps))] (some (.int (ps (u * 15 + 14)))) [(x 0, .inr (11, oL x h dr)), (h 0, .inr (5, oH h (ps (u * 15 + 14)) pe de no (nI u))), (h 2, .inl (E.2.1 0, 7, .inl (nf (fun p => pz (7 + p))))), (h 3, .inl (E.2.1 0, 7, .inl (nf pz))), (h 7, .inl (E.2.1 0, 120, .inl ps))] := by
  refine fn_I (by decide) (Nat.le_of_ble_eq_true rfl) rfl ?_
  intro K hC hR
  show G K E 1 [(x 0, .inr (11, oL x h dr)), (h 0, .inr (5, oH h da pe de no (nI (u + 1)))), (h 2, .inl (E.2.1 0, 7, .inl (nf pl))), (h 3, .inl (E.2.1 0, 7, .inl (nf bn))), (h 7, .inl (E.2.1 0, 120, .inl ps))] [(0, .ref (x 0))] 0 []
  refine g_aload_n hC dX11_undo_0 rfl 0 rfl ?_
  refine g_get hC 0 11 0 inX11 m1_221 dX11_undo_1 rfl rfl (by decide) rfl ?_
  refine g_get hC 1 5 10 inX5 m1_64 dX11_undo_4 rfl rfl (by decide) rfl ?_
  refine g_if_gtN (tgt := 17) hC dX11_undo_7 (by decide) (by omega) (fun h_7 => ?_) (fun h_7 => ?_)
  · refine g_aload_n hC dX11_undo_17 rfl 0 rfl ?_
    refine g_get hC 0 11 0 inX11 m1_221 dX11_undo_18 rfl rfl (by decide) rfl ?_
    refine g_callV hC (f_X5_goBack (kl K) E h da pe de no pl bn ps u pz (by omega) (hz)) wX5_goBack m2_224 dX11_undo_21 [1, 2, 3, 4] [(x 0, .inr (11, oL x h dr)), (h 0, .inr (5, oH h (ps (u * 15 + 14)) pe de no (nI u))), (h 2, .inl (E.2.1 0, 7, .inl (nf (fun p => pz (7 + p))))), (h 3, .inl (E.2.1 0, 7, .inl (nf pz))), (h 7, .inl (E.2.1 0, 120, .inl ps))] 1 5 rfl rfl (by decide) rfl (Nat.le_of_ble_eq_true rfl) rfl rfl rfl rfl rfl ?_
    refine g_aload_n hC dX11_undo_24 rfl 0 rfl ?_
    refine g_get hC 0 11 0 inX11 m1_221 dX11_undo_25 rfl rfl (by decide) rfl ?_
    refine g_get hC 1 5 0 inX5 m1_38 dX11_undo_28 rfl rfl (by decide) rfl ?_
    exact g_val (rfl) (g_ws (rfl) (hR _ _ dX11_undo_31))
  · omega
set_option maxHeartbeats 600000 in
set_option maxRecDepth 100000 in
theorem f_X11_of_ok (l : Launch) (E : Ew) (x : Nat → Nat) (h : Nat → Nat) (dr : Nat → Nat) (da : Int32) (de : Int32) (no : Int32) (pa : Int32) (n : Nat) (kd : Nat → Nat) (pl : Nat → Nat) (bn : Nat → Nat) (x0 : Nat) (wh : Nat) (hn7 : n ≤ 7) (hbl : ∀ j, j < 7 → bn j < 2147483648) (hx : x0 < n) (hwh : wh < 3) : Fn l E 2 yX11_of cX11_of 3 (some .int) [.ref (x 0), .int (nI x0), .int (nI wh)] [(x 0, .inr (11, oL x h dr)), (h 0, .inr (5, oH h da (nI n) de no pa)), (h 1, .inl (E.2.1 0, 7, .inl (nf kd))), (h 2, .inl (E.2.1 0, 7, .inl (nf pl))), (h 3, .inl (E.2.1 0, 7, .inl (nf bn)))] (some (.int (if wh = 0 then nI (kd x0) else if wh = 1 then nI (pl x0) else nmF bn n x0))) [(x 0, .inr (11, oL x h dr)), (h 0, .inr (5, oH h da (nI n) de no pa)), (h 1, .inl (E.2.1 0, 7, .inl (nf kd))), (h 2, .inl (E.2.1 0, 7, .inl (nf pl))), (h 3, .inl (E.2.1 0, 7, .inl (nf bn)))] := by
  refine fn_I (by decide) (Nat.le_of_ble_eq_true rfl) rfl ?_
  intro K hC hR
  show G K E 3 [(x 0, .inr (11, oL x h dr)), (h 0, .inr (5, oH h da (nI n) de no pa)), (h 1, .inl (E.2.1 0, 7, .inl (nf kd))), (h 2, .inl (E.2.1 0, 7, .inl (nf pl))), (h 3, .inl (E.2.1 0, 7, .inl (nf bn)))] [(0, .ref (x 0)), (1, .int (nI x0)), (2, .int (nI wh))] 0 []
  refine g_aload_n hC dX11_of_0 rfl 0 rfl ?_
  refine g_iload_n hC dX11_of_1 rfl 1 rfl ?_
  refine g_callV hC (f_X11_isThere (kl K) E x h dr da de no pa n (nI x0) (by omega)) wX11_isThere m2_156 dX11_of_2 [0, 1] [(x 0, .inr (11, oL x h dr)), (h 0, .inr (5, oH h da (nI n) de no pa)), (h 1, .inl (E.2.1 0, 7, .inl (nf kd))), (h 2, .inl (E.2.1 0, 7, .inl (nf pl))), (h 3, .inl (E.2.1 0, 7, .inl (nf bn)))] 0 11 rfl rfl (by decide) rfl (Nat.le_of_ble_eq_true rfl) rfl rfl rfl rfl rfl ?_
  refine g_if_eqB (tgt := 16) hC dX11_of_5 (by decide) (fun h_5 => ?_) (fun h_5 => ?_)
  · exact Bool.noConfusion ((inB_ok (by omega) (by omega)).symm.trans h_5)
  · refine g_iload_n hC dX11_of_8 rfl 2 rfl ?_
    refine g_iconst (v := (nI 3)) hC dX11_of_9 (by decide) ?_
    refine g_callS hC (f_X11_within (kl K) E (nI wh) 3 (by omega)) wX11_within m2_13 dX11_of_10 [] [(x 0, .inr (11, oL x h dr)), (h 0, .inr (5, oH h da (nI n) de no pa)), (h 1, .inl (E.2.1 0, 7, .inl (nf kd))), (h 2, .inl (E.2.1 0, 7, .inl (nf pl))), (h 3, .inl (E.2.1 0, 7, .inl (nf bn)))] (by decide) rfl (Nat.le_of_ble_eq_true rfl) rfl rfl rfl rfl rfl ?_
    refine g_if_neB (tgt := 26) hC dX11_of_13 (by decide) (fun h_13 => ?_) (fun h_13 => ?_)
    · refine g_iload_n hC dX11_of_26 rfl 2 rfl ?_
      refine g_if_neN (tgt := 40) hC dX11_of_27 (by decide) (by omega) (fun h_27 => ?_) (fun h_27 => ?_)
      · refine g_iload_n hC dX11_of_40 rfl 2 rfl ?_
        refine g_iconst (v := (nI 1)) hC dX11_of_41 (by decide) ?_
        refine g_icmp_neN (tgt := 57) hC dX11_of_42 (by decide) (by omega) (by omega) (fun h_42 => ?_) (fun h_42 => ?_)
        · refine g_aload_n hC dX11_of_57 rfl 0 rfl ?_
          refine g_get hC 0 11 0 inX11 m1_221 dX11_of_58 rfl rfl (by decide) rfl ?_
          refine g_iload_n hC dX11_of_61 rfl 1 rfl ?_
          refine g_callV hC (f_X5_nameOf (kl K) E h da de no pa bn n x0 (by omega) (hbl) (by omega)) wX5_nameOf m2_232 dX11_of_62 [1, 4] [(x 0, .inr (11, oL x h dr)), (h 0, .inr (5, oH h da (nI n) de no pa)), (h 1, .inl (E.2.1 0, 7, .inl (nf kd))), (h 2, .inl (E.2.1 0, 7, .inl (nf pl))), (h 3, .inl (E.2.1 0, 7, .inl (nf bn)))] 1 5 rfl rfl (by decide) rfl (Nat.le_of_ble_eq_true rfl) rfl rfl rfl rfl rfl ?_
          exact g_val (by simp [h_5, h_13, h_27, h_42] <;> rfl) (g_ws (rfl) (hR _ _ dX11_of_65))
        · refine g_aload_n hC dX11_of_45 rfl 0 rfl ?_
          refine g_get hC 0 11 0 inX11 m1_221 dX11_of_46 rfl rfl (by decide) rfl ?_
          refine g_get hC 1 5 3 inX5 m1_49 dX11_of_49 rfl rfl (by decide) rfl ?_
          refine g_iload_n hC dX11_of_52 rfl 1 rfl ?_
          refine g_ialdN hC 3 dX11_of_53 rfl (by decide) (by omega) ?_
          refine g_val (v' := .int (nI (pl x0))) rfl ?_
          refine g_goto (tgt := 65) hC dX11_of_54 (by decide) ?_
          exact g_val (by simp [h_5, h_13, h_27, h_42] <;> rfl) (g_ws (rfl) (hR _ _ dX11_of_65))
      · refine g_aload_n hC dX11_of_30 rfl 0 rfl ?_
        refine g_get hC 0 11 0 inX11 m1_221 dX11_of_31 rfl rfl (by decide) rfl ?_
        refine g_get hC 1 5 2 inX5 m1_46 dX11_of_34 rfl rfl (by decide) rfl ?_
        refine g_iload_n hC dX11_of_37 rfl 1 rfl ?_
        refine g_ialdN hC 2 dX11_of_38 rfl (by decide) (by omega) ?_
        refine g_val (v' := .int (nI (kd x0))) rfl ?_
        exact g_val (by simp [h_5, h_13, h_27] <;> rfl) (g_ws (rfl) (hR _ _ dX11_of_39))
    · exact Bool.noConfusion ((inB_ok (by omega) (by omega)).symm.trans h_13)
set_option maxHeartbeats 600000 in
set_option maxRecDepth 100000 in
theorem f_X11_of_bad (l : Launch) (E : Ew) (x : Nat → Nat) (h : Nat → Nat) (dr : Nat → Nat) (da : Int32) (de : Int32) (no : Int32) (pa : Int32) (n : Nat) (r : Nat → Int32) (x0 : Int32) (wh : Int32) (hn7 : n ≤ 7) (hb : (inB x0 n && inB wh 3) = false) : Fn l E 2 yX11_of cX11_of 3 (some .int) [.ref (x 0), .int x0, .int wh] [(x 0, .inr (11, oL x h dr)), (h 0, .inr (5, oH h da (nI n) de no pa)), (x 3, .inl (E.2.1 0, 3, .inl r))] (some (.int (-10))) [(x 0, .inr (11, oL x h dr)), (h 0, .inr (5, oH h da (nI n) de no pa)), (x 3, .inl (E.2.1 0, 3, .inl (upd r 0 (r 0 + nI 1))))] := by
  refine fn_I (by decide) (Nat.le_of_ble_eq_true rfl) rfl ?_
  intro K hC hR
  show G K E 3 [(x 0, .inr (11, oL x h dr)), (h 0, .inr (5, oH h da (nI n) de no pa)), (x 3, .inl (E.2.1 0, 3, .inl r))] [(0, .ref (x 0)), (1, .int x0), (2, .int wh)] 0 []
  refine g_aload_n hC dX11_of_0 rfl 0 rfl ?_
  refine g_iload_n hC dX11_of_1 rfl 1 rfl ?_
  refine g_callV hC (f_X11_isThere (kl K) E x h dr da de no pa n x0 (by omega)) wX11_isThere m2_156 dX11_of_2 [0, 1] [(x 0, .inr (11, oL x h dr)), (h 0, .inr (5, oH h da (nI n) de no pa)), (x 3, .inl (E.2.1 0, 3, .inl r))] 0 11 rfl rfl (by decide) rfl (Nat.le_of_ble_eq_true rfl) rfl rfl rfl rfl rfl ?_
  refine g_if_eqB (tgt := 16) hC dX11_of_5 (by decide) (fun h_5 => ?_) (fun h_5 => ?_)
  · refine g_aload_n hC dX11_of_16 rfl 0 rfl ?_
    refine g_bipush (v := (-2)) hC dX11_of_17 (by decide) ?_
    refine g_callV hC (f_X11_refuse_bad (kl K) E x h dr r) wX11_refuse m2_16 dX11_of_19 [0, 2] [(x 0, .inr (11, oL x h dr)), (h 0, .inr (5, oH h da (nI n) de no pa)), (x 3, .inl (E.2.1 0, 3, .inl (upd r 0 (r 0 + nI 1))))] 0 11 rfl rfl (by decide) rfl (Nat.le_of_ble_eq_true rfl) rfl rfl rfl rfl rfl ?_
    refine g_pop hC dX11_of_22 rfl ?_
    refine g_bipush (v := (-10)) hC dX11_of_23 (by decide) ?_
    exact g_val (rfl) (g_ws (rfl) (hR _ _ dX11_of_25))
  · refine g_iload_n hC dX11_of_8 rfl 2 rfl ?_
    refine g_iconst (v := (nI 3)) hC dX11_of_9 (by decide) ?_
    refine g_callS hC (f_X11_within (kl K) E wh 3 (by omega)) wX11_within m2_13 dX11_of_10 [] [(x 0, .inr (11, oL x h dr)), (h 0, .inr (5, oH h da (nI n) de no pa)), (x 3, .inl (E.2.1 0, 3, .inl r))] (by decide) rfl (Nat.le_of_ble_eq_true rfl) rfl rfl rfl rfl rfl ?_
    refine g_if_neB (tgt := 26) hC dX11_of_13 (by decide) (fun h_13 => ?_) (fun h_13 => ?_)
    · exact absurd hb (by simp [h_5, h_13])
    · refine g_aload_n hC dX11_of_16 rfl 0 rfl ?_
      refine g_bipush (v := (-2)) hC dX11_of_17 (by decide) ?_
      refine g_callV hC (f_X11_refuse_bad (kl K) E x h dr r) wX11_refuse m2_16 dX11_of_19 [0, 2] [(x 0, .inr (11, oL x h dr)), (h 0, .inr (5, oH h da (nI n) de no pa)), (x 3, .inl (E.2.1 0, 3, .inl (upd r 0 (r 0 + nI 1))))] 0 11 rfl rfl (by decide) rfl (Nat.le_of_ble_eq_true rfl) rfl rfl rfl rfl rfl ?_
      refine g_pop hC dX11_of_22 rfl ?_
      refine g_bipush (v := (-10)) hC dX11_of_23 (by decide) ?_
      exact g_val (rfl) (g_ws (rfl) (hR _ _ dX11_of_25))
set_option maxHeartbeats 600000 in
set_option maxRecDepth 100000 in
theorem f_X11_turn_ok (l : Launch) (E : Ew) (x : Nat → Nat) (h : Nat → Nat) (dr : Nat → Nat) (da : Int32) (de : Int32) (no : Int32) (pa : Int32) (n : Nat) (kd : Nat → Nat) (pl : Nat → Nat) (bn : Nat → Nat) (ao : Nat → Nat) (at1 : Nat → Nat) (an : Nat → Nat) (x0 : Nat) (pp : Nat) (hn7 : n ≤ 7) (hkd : ∀ p, p < n → kd p < 6) (hpl : ∀ p, p < n → pl p < 10) (hbn : ∀ j, j < 7 → bn j < 2 ^ n) (hx : x0 < n) (hpp : pp < 10) : Fn l E 6 yX11_turn cX11_turn 3 (some .int) [.ref (x 0), .int (nI x0), .int (nI pp)] [(x 0, .inr (11, oL x h dr)), (x 7, .inr (6, oG x)), (x 8, .inl (E.2.1 4, 6, .inr (.inr (.inr (.inr (fun j => some (x (14 + j)))))))), (x 14, .inr (7, [])), (x 15, .inr (0, [])), (x 16, .inr (3, [])), (x 17, .inr (1, [])), (x 18, .inr (9, [])), (x 19, .inr (2, [])), (x 9, .inl (E.2.1 0, 10, .inl (nf ao))), (x 10, .inl (E.2.1 0, 10, .inl (nf at1))), (x 11, .inl (E.2.1 0, 10, .inl (nf an))), (h 0, .inr (5, oH h da (nI n) de no pa)), (h 1, .inl (E.2.1 0, 7, .inl (nf kd))), (h 2, .inl (E.2.1 0, 7, .inl (nf pl))), (h 3, .inl (E.2.1 0, 7, .inl (nf bn)))] (some (.int (nI (HT kd pl bn da x0 pp n)))) [(x 0, .inr (11, oL x h dr)), (x 7, .inr (6, oG x)), (x 8, .inl (E.2.1 4, 6, .inr (.inr (.inr (.inr (fun j => some (x (14 + j)))))))), (x 14, .inr (7, [])), (x 15, .inr (0, [])), (x 16, .inr (3, [])), (x 17, .inr (1, [])), (x 18, .inr (9, [])), (x 19, .inr (2, [])), (x 9, .inl (E.2.1 0, 10, .inl (nf (un ao pp (hB kd pl pp da true false n))))), (x 10, .inl (E.2.1 0, 10, .inl (nf (un at1 pp (hB kd pl pp da false false n))))), (x 11, .inl (E.2.1 0, 10, .inl (nf (un an pp (hB kd pl pp da false true n))))), (h 0, .inr (5, oH h da (nI n) de no pa)), (h 1, .inl (E.2.1 0, 7, .inl (nf kd))), (h 2, .inl (E.2.1 0, 7, .inl (nf pl))), (h 3, .inl (E.2.1 0, 7, .inl (nf bn)))] := by
  refine fn_I (by decide) (Nat.le_of_ble_eq_true rfl) rfl ?_
  intro K hC hR
  show G K E 3 [(x 0, .inr (11, oL x h dr)), (x 7, .inr (6, oG x)), (x 8, .inl (E.2.1 4, 6, .inr (.inr (.inr (.inr (fun j => some (x (14 + j)))))))), (x 14, .inr (7, [])), (x 15, .inr (0, [])), (x 16, .inr (3, [])), (x 17, .inr (1, [])), (x 18, .inr (9, [])), (x 19, .inr (2, [])), (x 9, .inl (E.2.1 0, 10, .inl (nf ao))), (x 10, .inl (E.2.1 0, 10, .inl (nf at1))), (x 11, .inl (E.2.1 0, 10, .inl (nf an))), (h 0, .inr (5, oH h da (nI n) de no pa)), (h 1, .inl (E.2.1 0, 7, .inl (nf kd))), (h 2, .inl (E.2.1 0, 7, .inl (nf pl))), (h 3, .inl (E.2.1 0, 7, .inl (nf bn)))] [(0, .ref (x 0)), (1, .int (nI x0)), (2, .int (nI pp))] 0 []
  refine g_aload_n hC dX11_turn_0 rfl 0 rfl ?_
  refine g_iload_n hC dX11_turn_1 rfl 1 rfl ?_
  refine g_callV hC (f_X11_isThere (kl K) E x h dr da de no pa n (nI x0) (by omega)) wX11_isThere m2_156 dX11_turn_2 [0, 12] [(x 0, .inr (11, oL x h dr)), (x 7, .inr (6, oG x)), (x 8, .inl (E.2.1 4, 6, .inr (.inr (.inr (.inr (fun j => some (x (14 + j)))))))), (x 14, .inr (7, [])), (x 15, .inr (0, [])), (x 16, .inr (3, [])), (x 17, .inr (1, [])), (x 18, .inr (9, [])), (x 19, .inr (2, [])), (x 9, .inl (E.2.1 0, 10, .inl (nf ao))), (x 10, .inl (E.2.1 0, 10, .inl (nf at1))), (x 11, .inl (E.2.1 0, 10, .inl (nf an))), (h 0, .inr (5, oH h da (nI n) de no pa)), (h 1, .inl (E.2.1 0, 7, .inl (nf kd))), (h 2, .inl (E.2.1 0, 7, .inl (nf pl))), (h 3, .inl (E.2.1 0, 7, .inl (nf bn)))] 0 11 rfl rfl (by decide) rfl (Nat.le_of_ble_eq_true rfl) rfl rfl rfl rfl rfl ?_
  refine g_if_eqB (tgt := 17) hC dX11_turn_5 (by decide) (fun h_5 => ?_) (fun h_5 => ?_)
  · exact Bool.noConfusion ((inB_ok (by omega) (by omega)).symm.trans h_5)
  · refine g_iload_n hC dX11_turn_8 rfl 2 rfl ?_
    refine g_bipush (v := (nI 10)) hC dX11_turn_9 (by decide) ?_
    refine g_callS hC (f_X11_within (kl K) E (nI pp) 10 (by omega)) wX11_within m2_13 dX11_turn_11 [] [(x 0, .inr (11, oL x h dr)), (x 7, .inr (6, oG x)), (x 8, .inl (E.2.1 4, 6, .inr (.inr (.inr (.inr (fun j => some (x (14 + j)))))))), (x 14, .inr (7, [])), (x 15, .inr (0, [])), (x 16, .inr (3, [])), (x 17, .inr (1, [])), (x 18, .inr (9, [])), (x 19, .inr (2, [])), (x 9, .inl (E.2.1 0, 10, .inl (nf ao))), (x 10, .inl (E.2.1 0, 10, .inl (nf at1))), (x 11, .inl (E.2.1 0, 10, .inl (nf an))), (h 0, .inr (5, oH h da (nI n) de no pa)), (h 1, .inl (E.2.1 0, 7, .inl (nf kd))), (h 2, .inl (E.2.1 0, 7, .inl (nf pl))), (h 3, .inl (E.2.1 0, 7, .inl (nf bn)))] (by decide) rfl (Nat.le_of_ble_eq_true rfl) rfl rfl rfl rfl rfl ?_
    refine g_if_neB (tgt := 24) hC dX11_turn_14 (by decide) (fun h_14 => ?_) (fun h_14 => ?_)
    · refine g_aload_n hC dX11_turn_24 rfl 0 rfl ?_
      refine g_iload_n hC dX11_turn_25 rfl 1 rfl ?_
      refine g_iload_n hC dX11_turn_26 rfl 2 rfl ?_
      refine g_callV hC (f_X11_turnersAt (kl K) E x h dr da de no pa n kd pl bn ao at1 an x0 pp (by omega) (hkd) (hpl) (hbn) (by omega) (by omega)) wX11_turnersAt m2_160 dX11_turn_27 [0, 1, 2, 3, 4, 5, 6, 7, 8, 9, 10, 11, 12, 13, 14, 15] [(x 0, .inr (11, oL x h dr)), (x 7, .inr (6, oG x)), (x 8, .inl (E.2.1 4, 6, .inr (.inr (.inr (.inr (fun j => some (x (14 + j)))))))), (x 14, .inr (7, [])), (x 15, .inr (0, [])), (x 16, .inr (3, [])), (x 17, .inr (1, [])), (x 18, .inr (9, [])), (x 19, .inr (2, [])), (x 9, .inl (E.2.1 0, 10, .inl (nf (un ao pp (hB kd pl pp da true false n))))), (x 10, .inl (E.2.1 0, 10, .inl (nf (un at1 pp (hB kd pl pp da false false n))))), (x 11, .inl (E.2.1 0, 10, .inl (nf (un an pp (hB kd pl pp da false true n))))), (h 0, .inr (5, oH h da (nI n) de no pa)), (h 1, .inl (E.2.1 0, 7, .inl (nf kd))), (h 2, .inl (E.2.1 0, 7, .inl (nf pl))), (h 3, .inl (E.2.1 0, 7, .inl (nf bn)))] 0 11 rfl rfl (by decide) rfl (Nat.le_of_ble_eq_true rfl) rfl rfl rfl rfl rfl ?_
      exact g_val (rfl) (g_ws (rfl) (hR _ _ dX11_turn_30))
    · exact Bool.noConfusion ((inB_ok (by omega) (by omega)).symm.trans h_14)
set_option maxHeartbeats 600000 in
set_option maxRecDepth 100000 in
theorem f_X11_bearers_ok (l : Launch) (E : Ew) (x : Nat → Nat) (h : Nat → Nat) (dr : Nat → Nat) (da : Int32) (de : Int32) (no : Int32) (pa : Int32) (n : Nat) (bn : Nat → Nat) (x0 : Nat) (hn7 : n ≤ 7) (hx : x0 < n) : Fn l E 2 yX11_bearers cX11_bearers 2 (some .int) [.ref (x 0), .int (nI x0)] [(x 0, .inr (11, oL x h dr)), (h 0, .inr (5, oH h da (nI n) de no pa)), (h 3, .inl (E.2.1 0, 7, .inl (nf bn)))] (some (.int (nI (bn x0)))) [(x 0, .inr (11, oL x h dr)), (h 0, .inr (5, oH h da (nI n) de no pa)), (h 3, .inl (E.2.1 0, 7, .inl (nf bn)))] := by
  refine fn_I (by decide) (Nat.le_of_ble_eq_true rfl) rfl ?_
  intro K hC hR
  show G K E 2 [(x 0, .inr (11, oL x h dr)), (h 0, .inr (5, oH h da (nI n) de no pa)), (h 3, .inl (E.2.1 0, 7, .inl (nf bn)))] [(0, .ref (x 0)), (1, .int (nI x0))] 0 []
  refine g_aload_n hC dX11_bearers_0 rfl 0 rfl ?_
  refine g_iload_n hC dX11_bearers_1 rfl 1 rfl ?_
  refine g_callV hC (f_X11_isThere (kl K) E x h dr da de no pa n (nI x0) (by omega)) wX11_isThere m2_156 dX11_bearers_2 [0, 1] [(x 0, .inr (11, oL x h dr)), (h 0, .inr (5, oH h da (nI n) de no pa)), (h 3, .inl (E.2.1 0, 7, .inl (nf bn)))] 0 11 rfl rfl (by decide) rfl (Nat.le_of_ble_eq_true rfl) rfl rfl rfl rfl rfl ?_
  refine g_if_eqB (tgt := 20) hC dX11_bearers_5 (by decide) (fun h_5 => ?_) (fun h_5 => ?_)
  · exact Bool.noConfusion ((inB_ok (by omega) (by omega)).symm.trans h_5)
  · refine g_aload_n hC dX11_bearers_8 rfl 0 rfl ?_
    refine g_get hC 0 11 0 inX11 m1_221 dX11_bearers_9 rfl rfl (by decide) rfl ?_
    refine g_get hC 1 5 4 inX5 m1_52 dX11_bearers_12 rfl rfl (by decide) rfl ?_
    refine g_iload_n hC dX11_bearers_15 rfl 1 rfl ?_
    refine g_ialdN hC 2 dX11_bearers_16 rfl (by decide) (by omega) ?_
    refine g_val (v' := .int (nI (bn x0))) rfl ?_
    refine g_goto (tgt := 26) hC dX11_bearers_17 (by decide) ?_
    exact g_val (rfl) (g_ws (rfl) (hR _ _ dX11_bearers_26))
set_option maxHeartbeats 600000 in
set_option maxRecDepth 100000 in
theorem f_X11_bearers_bad (l : Launch) (E : Ew) (x : Nat → Nat) (h : Nat → Nat) (dr : Nat → Nat) (da : Int32) (de : Int32) (no : Int32) (pa : Int32) (n : Nat) (r : Nat → Int32) (x0 : Int32) (hn7 : n ≤ 7) (hb : inB x0 n = false) : Fn l E 2 yX11_bearers cX11_bearers 2 (some .int) [.ref (x 0), .int x0] [(x 0, .inr (11, oL x h dr)), (h 0, .inr (5, oH h da (nI n) de no pa)), (x 3, .inl (E.2.1 0, 3, .inl r))] (some (.int (-2))) [(x 0, .inr (11, oL x h dr)), (h 0, .inr (5, oH h da (nI n) de no pa)), (x 3, .inl (E.2.1 0, 3, .inl (upd r 0 (r 0 + nI 1))))] := by
  refine fn_I (by decide) (Nat.le_of_ble_eq_true rfl) rfl ?_
  intro K hC hR
  show G K E 2 [(x 0, .inr (11, oL x h dr)), (h 0, .inr (5, oH h da (nI n) de no pa)), (x 3, .inl (E.2.1 0, 3, .inl r))] [(0, .ref (x 0)), (1, .int x0)] 0 []
  refine g_aload_n hC dX11_bearers_0 rfl 0 rfl ?_
  refine g_iload_n hC dX11_bearers_1 rfl 1 rfl ?_
  refine g_callV hC (f_X11_isThere (kl K) E x h dr da de no pa n x0 (by omega)) wX11_isThere m2_156 dX11_bearers_2 [0, 1] [(x 0, .inr (11, oL x h dr)), (h 0, .inr (5, oH h da (nI n) de no pa)), (x 3, .inl (E.2.1 0, 3, .inl r))] 0 11 rfl rfl (by decide) rfl (Nat.le_of_ble_eq_true rfl) rfl rfl rfl rfl rfl ?_
  refine g_if_eqB (tgt := 20) hC dX11_bearers_5 (by decide) (fun h_5 => ?_) (fun h_5 => ?_)
  · refine g_aload_n hC dX11_bearers_20 rfl 0 rfl ?_
    refine g_bipush (v := (-2)) hC dX11_bearers_21 (by decide) ?_
    refine g_callV hC (f_X11_refuse_bad (kl K) E x h dr r) wX11_refuse m2_16 dX11_bearers_23 [0, 2] [(x 0, .inr (11, oL x h dr)), (h 0, .inr (5, oH h da (nI n) de no pa)), (x 3, .inl (E.2.1 0, 3, .inl (upd r 0 (r 0 + nI 1))))] 0 11 rfl rfl (by decide) rfl (Nat.le_of_ble_eq_true rfl) rfl rfl rfl rfl rfl ?_
    exact g_val (rfl) (g_ws (rfl) (hR _ _ dX11_bearers_26))
  · exact absurd h_5 (by rw [hb]; decide)
set_option maxHeartbeats 600000 in
set_option maxRecDepth 100000 in
theorem f_X11_names_ok (l : Launch) (E : Ew) (x : Nat → Nat) (h : Nat → Nat) (dr : Nat → Nat) (da : Int32) (de : Int32) (no : Int32) (pa : Int32) (n : Nat) (bn : Nat → Nat) (wh : Nat) (hn7 : n ≤ 7) (hb : ∀ j, j < 7 → bn j < 128) (hwh : wh < 2) : Fn l E 2 yX11_names cX11_names 5 (some .int) [.ref (x 0), .int (nI wh)] [(x 0, .inr (11, oL x h dr)), (h 0, .inr (5, oH h da (nI n) de no pa)), (h 3, .inl (E.2.1 0, 7, .inl (nf bn)))] (some (.int (nI (bs (nmC bn wh) n)))) [(x 0, .inr (11, oL x h dr)), (h 0, .inr (5, oH h da (nI n) de no pa)), (h 3, .inl (E.2.1 0, 7, .inl (nf bn)))] := by
  refine fn_I (by decide) (Nat.le_of_ble_eq_true rfl) rfl ?_
  intro K hC hR
  show G K E 5 [(x 0, .inr (11, oL x h dr)), (h 0, .inr (5, oH h da (nI n) de no pa)), (h 3, .inl (E.2.1 0, 7, .inl (nf bn)))] [(0, .ref (x 0)), (1, .int (nI wh))] 0 []
  refine g_iload_n hC dX11_names_0 rfl 1 rfl ?_
  refine g_iconst (v := (nI 2)) hC dX11_names_1 (by decide) ?_
  refine g_callS hC (f_X11_within (kl K) E (nI wh) 2 (by omega)) wX11_within m2_13 dX11_names_2 [] [(x 0, .inr (11, oL x h dr)), (h 0, .inr (5, oH h da (nI n) de no pa)), (h 3, .inl (E.2.1 0, 7, .inl (nf bn)))] (by decide) rfl (Nat.le_of_ble_eq_true rfl) rfl rfl rfl rfl rfl ?_
  refine g_if_neB (tgt := 15) hC dX11_names_5 (by decide) (fun h_5 => ?_) (fun h_5 => ?_)
  · refine g_iconst (v := (nI 0)) hC dX11_names_15 (by decide) ?_
    refine g_istore_n hC [(2, .int (nI 0)), (0, .ref (x 0)), (1, .int (nI wh))] dX11_names_16 rfl (by decide) rfl ?_
    refine g_iconst (v := (nI 0)) hC dX11_names_17 (by decide) ?_
    refine g_istore_n hC [(3, .int (nI 0)), (2, .int (nI 0)), (0, .ref (x 0)), (1, .int (nI wh))] dX11_names_18 rfl (by decide) rfl ?_
    have L_19 : ∀ (fu : Nat) (k : Nat) (hk : k ≤ n), n - k < fu → G K E 5 [(x 0, .inr (11, oL x h dr)), (h 0, .inr (5, oH h da (nI n) de no pa)), (h 3, .inl (E.2.1 0, 7, .inl (nf bn)))] [(3, .int (nI k)), (2, .int (nI (bs (nmC bn wh) k))), (0, .ref (x 0)), (1, .int (nI wh))] 19 [] := by
      intro fu
      induction fu with
      | zero => intro k hk hm_19; exact absurd hm_19 (Nat.not_lt_zero _)
      | succ fu ih_19 =>
        intro k hk hm_19
        have hck := ct_le (bn k).testBit 31
        refine g_iload_n hC dX11_names_19 rfl 0 rfl ?_
        refine g_aload_n hC dX11_names_20 rfl 2 rfl ?_
        refine g_get hC 0 11 0 inX11 m1_221 dX11_names_21 rfl rfl (by decide) rfl ?_
        refine g_get hC 1 5 1 inX5 m1_40 dX11_names_24 rfl rfl (by decide) rfl ?_
        refine g_icmp_geN (tgt := 74) hC dX11_names_27 (by decide) (by omega) (by omega) (fun h_27 => ?_) (fun h_27 => ?_)
        · refine g_iload_n hC dX11_names_74 rfl 1 rfl ?_
          exact g_val (by rw [show k = n by omega]) (g_ws (rfl) (hR _ _ dX11_names_75))
        · refine g_aload_n hC dX11_names_30 rfl 2 rfl ?_
          refine g_get hC 0 11 0 inX11 m1_221 dX11_names_31 rfl rfl (by decide) rfl ?_
          refine g_get hC 1 5 4 inX5 m1_52 dX11_names_34 rfl rfl (by decide) rfl ?_
          refine g_iload_n hC dX11_names_37 rfl 0 rfl ?_
          refine g_ialdN hC 2 dX11_names_38 rfl (by decide) (by omega) ?_
          refine g_val (v' := .int (nI (bn k))) rfl ?_
          refine g_callS hC (f_J6_bitCount_0f7a4 (kl K) E (bn k) (Nat.lt_trans (hb k (by omega)) (by decide))) wJ6_bitCount_0f7a4 m3_11 dX11_names_39 [] [(x 0, .inr (11, oL x h dr)), (h 0, .inr (5, oH h da (nI n) de no pa)), (h 3, .inl (E.2.1 0, 7, .inl (nf bn)))] (by decide) rfl (Nat.le_of_ble_eq_true rfl) rfl rfl rfl rfl rfl ?_
          refine g_istore hC [(4, .int (nI (ct (bn k).testBit 31))), (3, .int (nI k)), (2, .int (nI (bs (nmC bn wh) k))), (0, .ref (x 0)), (1, .int (nI wh))] dX11_names_42 (by decide) rfl ?_
          refine g_iload_n hC dX11_names_44 rfl 4 rfl ?_
          refine g_if_neN (tgt := 56) hC dX11_names_45 (by decide) (by omega) (fun h_45 => ?_) (fun h_45 => ?_)
          · refine g_iload hC dX11_names_56 0 rfl ?_
            refine g_iconst (v := (nI 2)) hC dX11_names_58 (by decide) ?_
            refine g_icmp_ltN (tgt := 68) hC dX11_names_59 (by decide) (by omega) (by omega) (fun h_59 => ?_) (fun h_59 => ?_)
            · refine g_iincN hC (q := 1) 1 [(3, .int (nI (k + 1))), (4, .int (nI (ct (bn k).testBit 31))), (2, .int (nI (bs (nmC bn wh) k))), (0, .ref (x 0)), (1, .int (nI wh))] dX11_names_68 rfl rfl (by decide) rfl ?_
              refine g_goto (tgt := 19) hC dX11_names_71 (by decide) ?_
              refine g_lv (lv' := [(3, .int (nI (k + 1))), (2, .int (nI (bs (nmC bn wh) k))), (0, .ref (x 0)), (1, .int (nI wh))]) [0, 2, 3, 4] rfl ?_
              refine g_lve (lv' := [(3, .int (nI (k + 1))), (2, .int (nI (bs (nmC bn wh) (k + 1)))), (0, .ref (x 0)), (1, .int (nI wh))]) (by rw [bs_no' (p := nmC bn wh) (by simp [nmC, h_5, h_27, h_45, h_59] <;> omega)]) ?_
              exact ih_19 (k + 1) (by omega) (by omega)
            · refine g_iload_n hC dX11_names_62 rfl 2 rfl ?_
              refine g_iconst (v := (nI 1)) hC dX11_names_63 (by decide) ?_
              refine g_iload_n hC dX11_names_64 rfl 1 rfl ?_
              refine g_ishl hC dX11_names_65 ?_
              refine g_ior hC dX11_names_66 ?_
              refine g_val (v' := .int (nI (bs (nmC bn wh) (k + 1)))) (by rw [bs_yes (p := nmC bn wh) (by omega) (by simp [nmC, h_5, h_27, h_45, h_59])]) ?_
              refine g_istore_n hC [(2, .int (nI (bs (nmC bn wh) (k + 1)))), (4, .int (nI (ct (bn k).testBit 31))), (3, .int (nI k)), (0, .ref (x 0)), (1, .int (nI wh))] dX11_names_67 rfl (by decide) rfl ?_
              refine g_iincN hC (q := 2) 1 [(3, .int (nI (k + 1))), (2, .int (nI (bs (nmC bn wh) (k + 1)))), (4, .int (nI (ct (bn k).testBit 31))), (0, .ref (x 0)), (1, .int (nI wh))] dX11_names_68 rfl rfl (by decide) rfl ?_
              refine g_goto (tgt := 19) hC dX11_names_71 (by decide) ?_
              refine g_lv (lv' := [(3, .int (nI (k + 1))), (2, .int (nI (bs (nmC bn wh) (k + 1)))), (0, .ref (x 0)), (1, .int (nI wh))]) [0, 1, 3, 4] rfl ?_
              exact ih_19 (k + 1) (by omega) (by omega)
          · refine g_iload hC dX11_names_48 0 rfl ?_
            refine g_if_neN (tgt := 68) hC dX11_names_50 (by decide) (by omega) (fun h_50 => ?_) (fun h_50 => ?_)
            · refine g_iincN hC (q := 1) 1 [(3, .int (nI (k + 1))), (4, .int (nI (ct (bn k).testBit 31))), (2, .int (nI (bs (nmC bn wh) k))), (0, .ref (x 0)), (1, .int (nI wh))] dX11_names_68 rfl rfl (by decide) rfl ?_
              refine g_goto (tgt := 19) hC dX11_names_71 (by decide) ?_
              refine g_lv (lv' := [(3, .int (nI (k + 1))), (2, .int (nI (bs (nmC bn wh) k))), (0, .ref (x 0)), (1, .int (nI wh))]) [0, 2, 3, 4] rfl ?_
              refine g_lve (lv' := [(3, .int (nI (k + 1))), (2, .int (nI (bs (nmC bn wh) (k + 1)))), (0, .ref (x 0)), (1, .int (nI wh))]) (by rw [bs_no' (p := nmC bn wh) (by simp [nmC, h_5, h_27, h_45, h_50] <;> omega)]) ?_
              exact ih_19 (k + 1) (by omega) (by omega)
            · refine g_goto (tgt := 62) hC dX11_names_53 (by decide) ?_
              refine g_iload_n hC dX11_names_62 rfl 2 rfl ?_
              refine g_iconst (v := (nI 1)) hC dX11_names_63 (by decide) ?_
              refine g_iload_n hC dX11_names_64 rfl 1 rfl ?_
              refine g_ishl hC dX11_names_65 ?_
              refine g_ior hC dX11_names_66 ?_
              refine g_val (v' := .int (nI (bs (nmC bn wh) (k + 1)))) (by rw [bs_yes (p := nmC bn wh) (by omega) (by simp [nmC, h_5, h_27, h_45, h_50])]) ?_
              refine g_istore_n hC [(2, .int (nI (bs (nmC bn wh) (k + 1)))), (4, .int (nI (ct (bn k).testBit 31))), (3, .int (nI k)), (0, .ref (x 0)), (1, .int (nI wh))] dX11_names_67 rfl (by decide) rfl ?_
              refine g_iincN hC (q := 2) 1 [(3, .int (nI (k + 1))), (2, .int (nI (bs (nmC bn wh) (k + 1)))), (4, .int (nI (ct (bn k).testBit 31))), (0, .ref (x 0)), (1, .int (nI wh))] dX11_names_68 rfl rfl (by decide) rfl ?_
              refine g_goto (tgt := 19) hC dX11_names_71 (by decide) ?_
              refine g_lv (lv' := [(3, .int (nI (k + 1))), (2, .int (nI (bs (nmC bn wh) (k + 1)))), (0, .ref (x 0)), (1, .int (nI wh))]) [0, 1, 3, 4] rfl ?_
              exact ih_19 (k + 1) (by omega) (by omega)
    refine g_lv (lv' := [(3, .int (nI 0)), (2, .int (nI 0)), (0, .ref (x 0)), (1, .int (nI wh))]) [0, 1, 2, 3] rfl ?_
    refine g_lve (lv' := [(3, .int (nI 0)), (2, .int (nI (bs (nmC bn wh) 0))), (0, .ref (x 0)), (1, .int (nI wh))]) (rfl) ?_
    exact L_19 ((n - 0) + 1) 0 (by omega) (Nat.lt_succ_self _)
  · exact Bool.noConfusion ((inB_ok (by omega) (by omega)).symm.trans h_5)
set_option maxHeartbeats 600000 in
set_option maxRecDepth 100000 in
theorem f_X11_names_bad (l : Launch) (E : Ew) (x : Nat → Nat) (h : Nat → Nat) (dr : Nat → Nat) (r : Nat → Int32) (wh : Int32) (hb : inB wh 2 = false) : Fn l E 2 yX11_names cX11_names 5 (some .int) [.ref (x 0), .int wh] [(x 0, .inr (11, oL x h dr)), (x 3, .inl (E.2.1 0, 3, .inl r))] (some (.int (-2))) [(x 0, .inr (11, oL x h dr)), (x 3, .inl (E.2.1 0, 3, .inl (upd r 0 (r 0 + nI 1))))] := by
  refine fn_I (by decide) (Nat.le_of_ble_eq_true rfl) rfl ?_
  intro K hC hR
  show G K E 5 [(x 0, .inr (11, oL x h dr)), (x 3, .inl (E.2.1 0, 3, .inl r))] [(0, .ref (x 0)), (1, .int wh)] 0 []
  refine g_iload_n hC dX11_names_0 rfl 1 rfl ?_
  refine g_iconst (v := (nI 2)) hC dX11_names_1 (by decide) ?_
  refine g_callS hC (f_X11_within (kl K) E wh 2 (by omega)) wX11_within m2_13 dX11_names_2 [] [(x 0, .inr (11, oL x h dr)), (x 3, .inl (E.2.1 0, 3, .inl r))] (by decide) rfl (Nat.le_of_ble_eq_true rfl) rfl rfl rfl rfl rfl ?_
  refine g_if_neB (tgt := 15) hC dX11_names_5 (by decide) (fun h_5 => ?_) (fun h_5 => ?_)
  · exact absurd h_5 (by rw [hb]; decide)
  · refine g_aload_n hC dX11_names_8 rfl 0 rfl ?_
    refine g_bipush (v := (-2)) hC dX11_names_9 (by decide) ?_
    refine g_callV hC (f_X11_refuse_bad (kl K) E x h dr r) wX11_refuse m2_16 dX11_names_11 [0, 1] [(x 0, .inr (11, oL x h dr)), (x 3, .inl (E.2.1 0, 3, .inl (upd r 0 (r 0 + nI 1))))] 0 11 rfl rfl (by decide) rfl (Nat.le_of_ble_eq_true rfl) rfl rfl rfl rfl rfl ?_
    exact g_val (rfl) (g_ws (rfl) (hR _ _ dX11_names_14))
