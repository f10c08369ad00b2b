theorem tK_le (T : Nat → Nat) (L i : Nat) : tK T L i ≤ 4 := by
  have h : tY T L i ≤ 4 := by
    unfold tY
    split
    · exact (so_in _).2
    · omega
  unfold tK
  split <;> omega
theorem ew_run {P : Nat → Bool} {L : Nat} : ∀ (f j m : Nat), j ≤ m → m < wh P L f j → m < L ∧ P m = true
  | 0, j, m, h1, h2 => absurd h2 (by simp only [wh]; omega)
  | f + 1, j, m, h1, h2 => by
    rw [wh] at h2
    split at h2
    · rename_i h
      by_cases e : m = j
      · subst e; exact h
      · exact ew_run f (j + 1) m (by omega) h2
    · omega
/-- all bytes of a token are of its sort -/
theorem tok_run {T : Nat → Nat} {L i j : Nat} (hlt : tA T L i < L) (h : j < tE T L i - tA T L i) : so (T (tA T L i + j)) = so (T (tA T L i)) := by
  unfold tE at h
  rw [if_pos hlt] at h
  by_cases h3 : so (T (tA T L i)) < 3
  · rw [if_pos h3] at h
    by_cases hj : j = 0
    · rw [hj]; rfl
    · have := (ew_run (P := fun j => decide (so (T j) = so (T (tA T L i)))) (L := L) (L - (tA T L i + 1)) (tA T L i + 1) (tA T L i + j) (by omega) (by unfold ew at h; omega)).2
      simpa using this
  · rw [if_neg h3] at h
    rw [show j = 0 by omega]; rfl
theorem tV_lt' {T : Nat → Nat} {L i : Nat} : tV T L i < 100 := by
  unfold tV
  split
  · rename_i h
    unfold tY at h
    by_cases hlt : tA T L i < L
    · rw [if_pos hlt] at h
      have hg := tE_gt hlt
      have hr : ∀ j, j < tE T L i - tA T L i → 48 ≤ T (tA T L i + j) ∧ T (tA T L i + j) ≤ 57 := fun j hj => so_2 ((tok_run hlt hj).trans h)
      split
      · exact dv_lt (fun j hj => hr j (by omega)) (by decide)
      · exact dv_lt (fun j hj => hr j (by omega)) (by decide)
    · rw [if_neg hlt] at h; exact absurd h (by decide)
  · decide
theorem tV_lt {T : Nat → Nat} {L i : Nat} {b : Nat → Int32} (_ : ∀ j, j < L → b j = nI (T j) ∧ T j < 128) (_ : i ≤ L) : tV T L i < 2147483648 := Nat.lt_trans tV_lt' (by decide)
theorem spells_end {T : Nat → Nat} {L i sz c1 c2 c3 c4 c5 c6 k : Nat} {bz b2 : Bool} (hk : k ≤ sz) (hbz : bz = (decide (tK T L i = 1) && decide (tE T L i - tA T L i = sz))) (hb2 : b2 = (bz && spF T (tA T L i) (w6 c1 c2 c3 c4 c5 c6) k)) (h : b2 = false) : Value.int (bI (spl T L i sz c1 c2 c3 c4 c5 c6)) = Value.int (bI b2) := by
  have : spl T L i sz c1 c2 c3 c4 c5 c6 = false := by
    unfold spl
    rw [← hbz]
    rw [h] at hb2
    obtain ⟨m, rfl⟩ := Nat.exists_eq_add_of_le hk
    cases bz
    · rfl
    · rw [spF_no (by simpa using hb2.symm) m]; rfl
  rw [this, h]

set_option maxHeartbeats 4000000 in
set_option maxRecDepth 100000 in
theorem f_X12_goBehind (l : Launch) (E : Ew) (q : Nat → Nat) (ab : Int64) (be : Int64) (fe : Int32) (fc : Int32) (mo : Int32) (b : Nat → Int32) (T : Nat → Nat) (L : Nat) (i : Nat) (hL : L ≤ 150) (hT : ∀ j, j < L → b j = nI (T j) ∧ T j < 128) (hi : i ≤ L) : Fn l E 3 yX12_goBehind cX12_goBehind 1 none [.ref (q 0)] [(q 0, .inr (12, oM q ab be fe fc mo (nI L) (nI (tA T L i)) (nI (tE T L i - tA T L i)) (nI (tK T L i)) (nI (tV T L i)))), (q 7, .inl (E.2.1 0, 150, .inl b))] none [(q 0, .inr (12, oM q ab be fe fc mo (nI L) (nI (tA T L (tE T L i))) (nI (tE T L (tE T L i) - tA T L (tE T L i))) (nI (tK T L (tE T L i))) (nI (tV T L (tE T L i))))), (q 7, .inl (E.2.1 0, 150, .inl b))] := by
  refine fn_V (by decide) (Nat.le_of_ble_eq_true rfl) rfl ?_
  intro K hC hR
  show G K E 1 [(q 0, .inr (12, oM q ab be fe fc mo (nI L) (nI (tA T L i)) (nI (tE T L i - tA T L i)) (nI (tK T L i)) (nI (tV T L i)))), (q 7, .inl (E.2.1 0, 150, .inl b))] [(0, .ref (q 0))] 0 []
  refine g_aload_n hC dX12_goBehind_0 rfl 0 rfl ?_
  refine g_aload_n hC dX12_goBehind_1 rfl 0 rfl ?_
  refine g_get hC 0 12 13 inX12 m3_221 dX12_goBehind_2 rfl rfl (by decide) rfl ?_
  refine g_aload_n hC dX12_goBehind_5 rfl 0 rfl ?_
  refine g_get hC 0 12 14 inX12 m3_222 dX12_goBehind_6 rfl rfl (by decide) rfl ?_
  refine g_iaddN hC dX12_goBehind_9 ?_
  refine g_val (v' := .int (nI (tE T L i))) (by rw [Nat.add_sub_of_le (tE_ge T L i)]) ?_
  refine g_callV hC (f_X12_lookAt (kl K) E q ab be fe fc mo (nI (tA T L i)) (nI (tE T L i - tA T L i)) (nI (tK T L i)) (nI (tV T L i)) b T L (tE T L i) (by omega) (hT) (tE_le hi)) wX12_lookAt m5_9 dX12_goBehind_10 [0, 1] [(q 0, .inr (12, oM q ab be fe fc mo (nI L) (nI (tA T L (tE T L i))) (nI (tE T L (tE T L i) - tA T L (tE T L i))) (nI (tK T L (tE T L i))) (nI (tV T L (tE T L i))))), (q 7, .inl (E.2.1 0, 150, .inl b))] 0 12 rfl rfl (by decide) rfl (Nat.le_of_ble_eq_true rfl) rfl rfl rfl rfl rfl ?_
  exact g_ws (rfl) (hR _ _ dX12_goBehind_13)
set_option maxHeartbeats 4000000 in
set_option maxRecDepth 100000 in
theorem f_X12_spells (l : Launch) (E : Ew) (q : Nat → Nat) (ab : Int64) (be : Int64) (fe : Int32) (fc : Int32) (mo : Int32) (b : Nat → Int32) (T : Nat → Nat) (L : Nat) (i : Nat) (sz : Nat) (c1 : Nat) (c2 : Nat) (c3 : Nat) (c4 : Nat) (c5 : Nat) (c6 : Nat) (hL : L ≤ 150) (hT : ∀ j, j < L → b j = nI (T j) ∧ T j < 128) (hi : i ≤ L) (hsz : sz ≤ 6) (hq1 : c1 < 128) (hq2 : c2 < 128) (hq3 : c3 < 128) (hq4 : c4 < 128) (hq5 : c5 < 128) (hq6 : c6 < 128) : Fn l E 0 yX12_spells cX12_spells 10 (some .boolean) [.ref (q 0), .int (nI sz), .int (nI c1), .int (nI c2), .int (nI c3), .int (nI c4), .int (nI c5), .int (nI c6)] [(q 0, .inr (12, oM q ab be fe fc mo (nI L) (nI (tA T L i)) (nI (tE T L i - tA T L i)) (nI (tK T L i)) (nI (tV T L i)))), (q 7, .inl (E.2.1 0, 150, .inl b))] (some (.int (bI (spl T L i sz c1 c2 c3 c4 c5 c6)))) [(q 0, .inr (12, oM q ab be fe fc mo (nI L) (nI (tA T L i)) (nI (tE T L i - tA T L i)) (nI (tK T L i)) (nI (tV T L i)))), (q 7, .inl (E.2.1 0, 150, .inl b))] := by
  refine fn_Z (by decide) (Nat.le_of_ble_eq_true rfl) rfl (nar_bI _) ?_
  intro K hC hR
  show G K E 10 [(q 0, .inr (12, oM q ab be fe fc mo (nI L) (nI (tA T L i)) (nI (tE T L i - tA T L i)) (nI (tK T L i)) (nI (tV T L i)))), (q 7, .inl (E.2.1 0, 150, .inl b))] [(0, .ref (q 0)), (1, .int (nI sz)), (2, .int (nI c1)), (3, .int (nI c2)), (4, .int (nI c3)), (5, .int (nI c4)), (6, .int (nI c5)), (7, .int (nI c6))] 0 []
  have hel := tE_le (T := T) hi
  have hge := tE_ge T L i
  have hk4 : tK T L i ≤ 4 := tK_le T L i
  have J_21 : ∀ (bz : Bool) (hbz : bz = (decide (tK T L i = 1) && decide (tE T L i - tA T L i = sz))), G K E 10 [(q 0, .inr (12, oM q ab be fe fc mo (nI L) (nI (tA T L i)) (nI (tE T L i - tA T L i)) (nI (tK T L i)) (nI (tV T L i)))), (q 7, .inl (E.2.1 0, 150, .inl b))] [(0, .ref (q 0)), (1, .int (nI sz)), (2, .int (nI c1)), (3, .int (nI c2)), (4, .int (nI c3)), (5, .int (nI c4)), (6, .int (nI c5)), (7, .int (nI c6))] 21 [.int (bI bz)] := by
    intro bz hbz
    refine g_istore hC [(8, .int (bI bz)), (0, .ref (q 0)), (1, .int (nI sz)), (2, .int (nI c1)), (3, .int (nI c2)), (4, .int (nI c3)), (5, .int (nI c4)), (6, .int (nI c5)), (7, .int (nI c6))] dX12_spells_21 (by decide) rfl ?_
    refine g_iconst (v := (nI 0)) hC dX12_spells_23 (by decide) ?_
    refine g_istore hC [(9, .int (nI 0)), (8, .int (bI bz)), (0, .ref (q 0)), (1, .int (nI sz)), (2, .int (nI c1)), (3, .int (nI c2)), (4, .int (nI c3)), (5, .int (nI c4)), (6, .int (nI c5)), (7, .int (nI c6))] dX12_spells_24 (by decide) rfl ?_
    have L_26 : ∀ (fu : Nat) (k : Nat) (b2 : Bool) (hk : k ≤ sz) (hb2 : b2 = (bz && spF T (tA T L i) (w6 c1 c2 c3 c4 c5 c6) k)), sz - k < fu → G K E 10 [(q 0, .inr (12, oM q ab be fe fc mo (nI L) (nI (tA T L i)) (nI (tE T L i - tA T L i)) (nI (tK T L i)) (nI (tV T L i)))), (q 7, .inl (E.2.1 0, 150, .inl b))] [(9, .int (nI k)), (8, .int (bI b2)), (0, .ref (q 0)), (1, .int (nI sz)), (2, .int (nI c1)), (3, .int (nI c2)), (4, .int (nI c3)), (5, .int (nI c4)), (6, .int (nI c5)), (7, .int (nI c6))] 26 [] := by
      intro fu
      induction fu with
      | zero => intro k b2 hk hb2 hm_26; exact absurd hm_26 (Nat.not_lt_zero _)
      | succ fu ih_26 =>
        intro k b2 hk hb2 hm_26
        refine g_iload hC dX12_spells_26 0 rfl ?_
        refine g_iload_n hC dX12_spells_28 rfl 3 rfl ?_
        refine g_icmp_geN (tgt := 119) hC dX12_spells_29 (by decide) (by omega) (by omega) (fun h_29 => ?_) (fun h_29 => ?_)
        · refine g_iload hC dX12_spells_119 1 rfl ?_
          exact g_val (by rw [hb2, hbz, show k = sz by omega]; rfl) (g_ws (rfl) (hR _ _ dX12_spells_121))
        · refine g_iload hC dX12_spells_32 1 rfl ?_
          refine g_if_eqB (tgt := 119) hC dX12_spells_34 (by decide) (fun h_34 => ?_) (fun h_34 => ?_)
          · refine g_iload hC dX12_spells_119 1 rfl ?_
            exact g_val (spells_end hk hbz hb2 h_34) (g_ws (rfl) (hR _ _ dX12_spells_121))
          · have hbt : bz = true ∧ spF T (tA T L i) (w6 c1 c2 c3 c4 c5 c6) k = true := by rw [hb2] at h_34; simpa using h_34
            have hb3 : tK T L i = 1 ∧ tE T L i - tA T L i = sz := by rw [hbz] at hbt; simpa using hbt.1
            have hTk := (hT (tA T L i + k) (by omega)).2
            refine g_aload_n hC dX12_spells_37 rfl 2 rfl ?_
            refine g_get hC 0 12 11 inX12 m3_219 dX12_spells_38 rfl rfl (by decide) rfl ?_
            refine g_aload_n hC dX12_spells_41 rfl 2 rfl ?_
            refine g_get hC 0 12 13 inX12 m3_221 dX12_spells_42 rfl rfl (by decide) rfl ?_
            refine g_iload hC dX12_spells_45 0 rfl ?_
            refine g_iaddN hC dX12_spells_47 ?_
            refine g_ialdN hC 1 dX12_spells_48 rfl (by decide) (by omega) ?_
            refine g_val (v' := .int (nI (T (tA T L i + k)))) (by rw [(hT _ (by omega)).1]) ?_
            refine g_iload hC dX12_spells_49 0 rfl ?_
            refine g_if_neN (tgt := 58) hC dX12_spells_51 (by decide) (by omega) (fun h_51 => ?_) (fun h_51 => ?_)
            · refine g_iload hC dX12_spells_58 0 rfl ?_
              refine g_iconst (v := (nI 1)) hC dX12_spells_60 (by decide) ?_
              refine g_icmp_neN (tgt := 68) hC dX12_spells_61 (by decide) (by omega) (by omega) (fun h_61 => ?_) (fun h_61 => ?_)
              · refine g_iload hC dX12_spells_68 0 rfl ?_
                refine g_iconst (v := (nI 2)) hC dX12_spells_70 (by decide) ?_
                refine g_icmp_neN (tgt := 79) hC dX12_spells_71 (by decide) (by omega) (by omega) (fun h_71 => ?_) (fun h_71 => ?_)
                · refine g_iload hC dX12_spells_79 0 rfl ?_
                  refine g_iconst (v := (nI 3)) hC dX12_spells_81 (by decide) ?_
                  refine g_icmp_neN (tgt := 90) hC dX12_spells_82 (by decide) (by omega) (by omega) (fun h_82 => ?_) (fun h_82 => ?_)
                  · refine g_iload hC dX12_spells_90 0 rfl ?_
                    refine g_iconst (v := (nI 4)) hC dX12_spells_92 (by decide) ?_
                    refine g_icmp_neN (tgt := 101) hC dX12_spells_93 (by decide) (by omega) (by omega) (fun h_93 => ?_) (fun h_93 => ?_)
                    · refine g_iload hC dX12_spells_101 9 rfl ?_
                      refine g_icmp_neN (tgt := 110) hC dX12_spells_103 (by decide) (by omega) (by omega) (fun h_103 => ?_) (fun h_103 => ?_)
                      · refine g_iconst (v := (nI 0)) hC dX12_spells_110 (by decide) ?_
                        refine g_istore hC [(8, .int (nI 0)), (9, .int (nI k)), (0, .ref (q 0)), (1, .int (nI sz)), (2, .int (nI c1)), (3, .int (nI c2)), (4, .int (nI c3)), (5, .int (nI c4)), (6, .int (nI c5)), (7, .int (nI c6))] dX12_spells_111 (by decide) rfl ?_
                        refine g_iincN hC (q := 1) 1 [(9, .int (nI (k + 1))), (8, .int (nI 0)), (0, .ref (q 0)), (1, .int (nI sz)), (2, .int (nI c1)), (3, .int (nI c2)), (4, .int (nI c3)), (5, .int (nI c4)), (6, .int (nI c5)), (7, .int (nI c6))] dX12_spells_113 rfl rfl (by decide) rfl ?_
                        refine g_goto (tgt := 26) hC dX12_spells_116 (by decide) ?_
                        refine g_lv (lv' := [(9, .int (nI (k + 1))), (8, .int (nI 0)), (0, .ref (q 0)), (1, .int (nI sz)), (2, .int (nI c1)), (3, .int (nI c2)), (4, .int (nI c3)), (5, .int (nI c4)), (6, .int (nI c5)), (7, .int (nI c6))]) [0, 1, 2, 3, 4, 5, 6, 7, 8, 9] rfl ?_
                        exact ih_26 (k + 1) false (by omega) (by have hw : w6 c1 c2 c3 c4 c5 c6 k = c6 := (by unfold w6; simp [h_51, h_61, h_71, h_82, h_93]); rw [spF, hbt.1, hbt.2, hw]; simp [h_103]) (by omega)
                      · refine g_iconst (v := (nI 1)) hC dX12_spells_106 (by decide) ?_
                        refine g_goto (tgt := 111) hC dX12_spells_107 (by decide) ?_
                        refine g_istore hC [(8, .int (nI 1)), (9, .int (nI k)), (0, .ref (q 0)), (1, .int (nI sz)), (2, .int (nI c1)), (3, .int (nI c2)), (4, .int (nI c3)), (5, .int (nI c4)), (6, .int (nI c5)), (7, .int (nI c6))] dX12_spells_111 (by decide) rfl ?_
                        refine g_iincN hC (q := 1) 1 [(9, .int (nI (k + 1))), (8, .int (nI 1)), (0, .ref (q 0)), (1, .int (nI sz)), (2, .int (nI c1)), (3, .int (nI c2)), (4, .int (nI c3)), (5, .int (nI c4)), (6, .int (nI c5)), (7, .int (nI c6))] dX12_spells_113 rfl rfl (by decide) rfl ?_
                        refine g_goto (tgt := 26) hC dX12_spells_116 (by decide) ?_
                        refine g_lv (lv' := [(9, .int (nI (k + 1))), (8, .int (nI 1)), (0, .ref (q 0)), (1, .int (nI sz)), (2, .int (nI c1)), (3, .int (nI c2)), (4, .int (nI c3)), (5, .int (nI c4)), (6, .int (nI c5)), (7, .int (nI c6))]) [0, 1, 2, 3, 4, 5, 6, 7, 8, 9] rfl ?_
                        exact ih_26 (k + 1) true (by omega) (by have hw : w6 c1 c2 c3 c4 c5 c6 k = c6 := (by unfold w6; simp [h_51, h_61, h_71, h_82, h_93]); rw [spF, hbt.1, hbt.2, hw]; simp [h_103]) (by omega)
                    · refine g_iload hC dX12_spells_96 8 rfl ?_
                      refine g_goto (tgt := 103) hC dX12_spells_98 (by decide) ?_
                      refine g_icmp_neN (tgt := 110) hC dX12_spells_103 (by decide) (by omega) (by omega) (fun h_103 => ?_) (fun h_103 => ?_)
                      · refine g_iconst (v := (nI 0)) hC dX12_spells_110 (by decide) ?_
                        refine g_istore hC [(8, .int (nI 0)), (9, .int (nI k)), (0, .ref (q 0)), (1, .int (nI sz)), (2, .int (nI c1)), (3, .int (nI c2)), (4, .int (nI c3)), (5, .int (nI c4)), (6, .int (nI c5)), (7, .int (nI c6))] dX12_spells_111 (by decide) rfl ?_
                        refine g_iincN hC (q := 1) 1 [(9, .int (nI (k + 1))), (8, .int (nI 0)), (0, .ref (q 0)), (1, .int (nI sz)), (2, .int (nI c1)), (3, .int (nI c2)), (4, .int (nI c3)), (5, .int (nI c4)), (6, .int (nI c5)), (7, .int (nI c6))] dX12_spells_113 rfl rfl (by decide) rfl ?_
                        refine g_goto (tgt := 26) hC dX12_spells_116 (by decide) ?_
                        refine g_lv (lv' := [(9, .int (nI (k + 1))), (8, .int (nI 0)), (0, .ref (q 0)), (1, .int (nI sz)), (2, .int (nI c1)), (3, .int (nI c2)), (4, .int (nI c3)), (5, .int (nI c4)), (6, .int (nI c5)), (7, .int (nI c6))]) [0, 1, 2, 3, 4, 5, 6, 7, 8, 9] rfl ?_
                        exact ih_26 (k + 1) false (by omega) (by have hw : w6 c1 c2 c3 c4 c5 c6 k = c5 := (by unfold w6; simp [h_51, h_61, h_71, h_82, h_93]); rw [spF, hbt.1, hbt.2, hw]; simp [h_103]) (by omega)
                      · refine g_iconst (v := (nI 1)) hC dX12_spells_106 (by decide) ?_
                        refine g_goto (tgt := 111) hC dX12_spells_107 (by decide) ?_
                        refine g_istore hC [(8, .int (nI 1)), (9, .int (nI k)), (0, .ref (q 0)), (1, .int (nI sz)), (2, .int (nI c1)), (3, .int (nI c2)), (4, .int (nI c3)), (5, .int (nI c4)), (6, .int (nI c5)), (7, .int (nI c6))] dX12_spells_111 (by decide) rfl ?_
                        refine g_iincN hC (q := 1) 1 [(9, .int (nI (k + 1))), (8, .int (nI 1)), (0, .ref (q 0)), (1, .int (nI sz)), (2, .int (nI c1)), (3, .int (nI c2)), (4, .int (nI c3)), (5, .int (nI c4)), (6, .int (nI c5)), (7, .int (nI c6))] dX12_spells_113 rfl rfl (by decide) rfl ?_
                        refine g_goto (tgt := 26) hC dX12_spells_116 (by decide) ?_
                        refine g_lv (lv' := [(9, .int (nI (k + 1))), (8, .int (nI 1)), (0, .ref (q 0)), (1, .int (nI sz)), (2, .int (nI c1)), (3, .int (nI c2)), (4, .int (nI c3)), (5, .int (nI c4)), (6, .int (nI c5)), (7, .int (nI c6))]) [0, 1, 2, 3, 4, 5, 6, 7, 8, 9] rfl ?_
                        exact ih_26 (k + 1) true (by omega) (by have hw : w6 c1 c2 c3 c4 c5 c6 k = c5 := (by unfold w6; simp [h_51, h_61, h_71, h_82, h_93]); rw [spF, hbt.1, hbt.2, hw]; simp [h_103]) (by omega)
                  · refine g_iload hC dX12_spells_85 7 rfl ?_
                    refine g_goto (tgt := 103) hC dX12_spells_87 (by decide) ?_
                    refine g_icmp_neN (tgt := 110) hC dX12_spells_103 (by decide) (by omega) (by omega) (fun h_103 => ?_) (fun h_103 => ?_)
                    · refine g_iconst (v := (nI 0)) hC dX12_spells_110 (by decide) ?_
                      refine g_istore hC [(8, .int (nI 0)), (9, .int (nI k)), (0, .ref (q 0)), (1, .int (nI sz)), (2, .int (nI c1)), (3, .int (nI c2)), (4, .int (nI c3)), (5, .int (nI c4)), (6, .int (nI c5)), (7, .int (nI c6))] dX12_spells_111 (by decide) rfl ?_
                      refine g_iincN hC (q := 1) 1 [(9, .int (nI (k + 1))), (8, .int (nI 0)), (0, .ref (q 0)), (1, .int (nI sz)), (2, .int (nI c1)), (3, .int (nI c2)), (4, .int (nI c3)), (5, .int (nI c4)), (6, .int (nI c5)), (7, .int (nI c6))] dX12_spells_113 rfl rfl (by decide) rfl ?_
                      refine g_goto (tgt := 26) hC dX12_spells_116 (by decide) ?_
                      refine g_lv (lv' := [(9, .int (nI (k + 1))), (8, .int (nI 0)), (0, .ref (q 0)), (1, .int (nI sz)), (2, .int (nI c1)), (3, .int (nI c2)), (4, .int (nI c3)), (5, .int (nI c4)), (6, .int (nI c5)), (7, .int (nI c6))]) [0, 1, 2, 3, 4, 5, 6, 7, 8, 9] rfl ?_
                      exact ih_26 (k + 1) false (by omega) (by have hw : w6 c1 c2 c3 c4 c5 c6 k = c4 := (by unfold w6; simp [h_51, h_61, h_71, h_82]); rw [spF, hbt.1, hbt.2, hw]; simp [h_103]) (by omega)
                    · refine g_iconst (v := (nI 1)) hC dX12_spells_106 (by decide) ?_
                      refine g_goto (tgt := 111) hC dX12_spells_107 (by decide) ?_
                      refine g_istore hC [(8, .int (nI 1)), (9, .int (nI k)), (0, .ref (q 0)), (1, .int (nI sz)), (2, .int (nI c1)), (3, .int (nI c2)), (4, .int (nI c3)), (5, .int (nI c4)), (6, .int (nI c5)), (7, .int (nI c6))] dX12_spells_111 (by decide) rfl ?_
                      refine g_iincN hC (q := 1) 1 [(9, .int (nI (k + 1))), (8, .int (nI 1)), (0, .ref (q 0)), (1, .int (nI sz)), (2, .int (nI c1)), (3, .int (nI c2)), (4, .int (nI c3)), (5, .int (nI c4)), (6, .int (nI c5)), (7, .int (nI c6))] dX12_spells_113 rfl rfl (by decide) rfl ?_
                      refine g_goto (tgt := 26) hC dX12_spells_116 (by decide) ?_
                      refine g_lv (lv' := [(9, .int (nI (k + 1))), (8, .int (nI 1)), (0, .ref (q 0)), (1, .int (nI sz)), (2, .int (nI c1)), (3, .int (nI c2)), (4, .int (nI c3)), (5, .int (nI c4)), (6, .int (nI c5)), (7, .int (nI c6))]) [0, 1, 2, 3, 4, 5, 6, 7, 8, 9] rfl ?_
                      exact ih_26 (k + 1) true (by omega) (by have hw : w6 c1 c2 c3 c4 c5 c6 k = c4 := (by unfold w6; simp [h_51, h_61, h_71, h_82]); rw [spF, hbt.1, hbt.2, hw]; simp [h_103]) (by omega)
                · refine g_iload hC dX12_spells_74 6 rfl ?_
                  refine g_goto (tgt := 103) hC dX12_spells_76 (by decide) ?_
                  refine g_icmp_neN (tgt := 110) hC dX12_spells_103 (by decide) (by omega) (by omega) (fun h_103 => ?_) (fun h_103 => ?_)
                  · refine g_iconst (v := (nI 0)) hC dX12_spells_110 (by decide) ?_
                    refine g_istore hC [(8, .int (nI 0)), (9, .int (nI k)), (0, .ref (q 0)), (1, .int (nI sz)), (2, .int (nI c1)), (3, .int (nI c2)), (4, .int (nI c3)), (5, .int (nI c4)), (6, .int (nI c5)), (7, .int (nI c6))] dX12_spells_111 (by decide) rfl ?_
                    refine g_iincN hC (q := 1) 1 [(9, .int (nI (k + 1))), (8, .int (nI 0)), (0, .ref (q 0)), (1, .int (nI sz)), (2, .int (nI c1)), (3, .int (nI c2)), (4, .int (nI c3)), (5, .int (nI c4)), (6, .int (nI c5)), (7, .int (nI c6))] dX12_spells_113 rfl rfl (by decide) rfl ?_
                    refine g_goto (tgt := 26) hC dX12_spells_116 (by decide) ?_
                    refine g_lv (lv' := [(9, .int (nI (k + 1))), (8, .int (nI 0)), (0, .ref (q 0)), (1, .int (nI sz)), (2, .int (nI c1)), (3, .int (nI c2)), (4, .int (nI c3)), (5, .int (nI c4)), (6, .int (nI c5)), (7, .int (nI c6))]) [0, 1, 2, 3, 4, 5, 6, 7, 8, 9] rfl ?_
                    exact ih_26 (k + 1) false (by omega) (by have hw : w6 c1 c2 c3 c4 c5 c6 k = c3 := (by unfold w6; simp [h_51, h_61, h_71]); rw [spF, hbt.1, hbt.2, hw]; simp [h_103]) (by omega)
                  · refine g_iconst (v := (nI 1)) hC dX12_spells_106 (by decide) ?_
                    refine g_goto (tgt := 111) hC dX12_spells_107 (by decide) ?_
                    refine g_istore hC [(8, .int (nI 1)), (9, .int (nI k)), (0, .ref (q 0)), (1, .int (nI sz)), (2, .int (nI c1)), (3, .int (nI c2)), (4, .int (nI c3)), (5, .int (nI c4)), (6, .int (nI c5)), (7, .int (nI c6))] dX12_spells_111 (by decide) rfl ?_
                    refine g_iincN hC (q := 1) 1 [(9, .int (nI (k + 1))), (8, .int (nI 1)), (0, .ref (q 0)), (1, .int (nI sz)), (2, .int (nI c1)), (3, .int (nI c2)), (4, .int (nI c3)), (5, .int (nI c4)), (6, .int (nI c5)), (7, .int (nI c6))] dX12_spells_113 rfl rfl (by decide) rfl ?_
                    refine g_goto (tgt := 26) hC dX12_spells_116 (by decide) ?_
                    refine g_lv (lv' := [(9, .int (nI (k + 1))), (8, .int (nI 1)), (0, .ref (q 0)), (1, .int (nI sz)), (2, .int (nI c1)), (3, .int (nI c2)), (4, .int (nI c3)), (5, .int (nI c4)), (6, .int (nI c5)), (7, .int (nI c6))]) [0, 1, 2, 3, 4, 5, 6, 7, 8, 9] rfl ?_
                    exact ih_26 (k + 1) true (by omega) (by have hw : w6 c1 c2 c3 c4 c5 c6 k = c3 := (by unfold w6; simp [h_51, h_61, h_71]); rw [spF, hbt.1, hbt.2, hw]; simp [h_103]) (by omega)
              · refine g_iload_n hC dX12_spells_64 rfl 5 rfl ?_
                refine g_goto (tgt := 103) hC dX12_spells_65 (by decide) ?_
                refine g_icmp_neN (tgt := 110) hC dX12_spells_103 (by decide) (by omega) (by omega) (fun h_103 => ?_) (fun h_103 => ?_)
                · refine g_iconst (v := (nI 0)) hC dX12_spells_110 (by decide) ?_
                  refine g_istore hC [(8, .int (nI 0)), (9, .int (nI k)), (0, .ref (q 0)), (1, .int (nI sz)), (2, .int (nI c1)), (3, .int (nI c2)), (4, .int (nI c3)), (5, .int (nI c4)), (6, .int (nI c5)), (7, .int (nI c6))] dX12_spells_111 (by decide) rfl ?_
                  refine g_iincN hC (q := 1) 1 [(9, .int (nI (k + 1))), (8, .int (nI 0)), (0, .ref (q 0)), (1, .int (nI sz)), (2, .int (nI c1)), (3, .int (nI c2)), (4, .int (nI c3)), (5, .int (nI c4)), (6, .int (nI c5)), (7, .int (nI c6))] dX12_spells_113 rfl rfl (by decide) rfl ?_
                  refine g_goto (tgt := 26) hC dX12_spells_116 (by decide) ?_
                  refine g_lv (lv' := [(9, .int (nI (k + 1))), (8, .int (nI 0)), (0, .ref (q 0)), (1, .int (nI sz)), (2, .int (nI c1)), (3, .int (nI c2)), (4, .int (nI c3)), (5, .int (nI c4)), (6, .int (nI c5)), (7, .int (nI c6))]) [0, 1, 2, 3, 4, 5, 6, 7, 8, 9] rfl ?_
                  exact ih_26 (k + 1) false (by omega) (by have hw : w6 c1 c2 c3 c4 c5 c6 k = c2 := (by unfold w6; simp [h_51, h_61]); rw [spF, hbt.1, hbt.2, hw]; simp [h_103]) (by omega)
                · refine g_iconst (v := (nI 1)) hC dX12_spells_106 (by decide) ?_
                  refine g_goto (tgt := 111) hC dX12_spells_107 (by decide) ?_
                  refine g_istore hC [(8, .int (nI 1)), (9, .int (nI k)), (0, .ref (q 0)), (1, .int (nI sz)), (2, .int (nI c1)), (3, .int (nI c2)), (4, .int (nI c3)), (5, .int (nI c4)), (6, .int (nI c5)), (7, .int (nI c6))] dX12_spells_111 (by decide) rfl ?_
                  refine g_iincN hC (q := 1) 1 [(9, .int (nI (k + 1))), (8, .int (nI 1)), (0, .ref (q 0)), (1, .int (nI sz)), (2, .int (nI c1)), (3, .int (nI c2)), (4, .int (nI c3)), (5, .int (nI c4)), (6, .int (nI c5)), (7, .int (nI c6))] dX12_spells_113 rfl rfl (by decide) rfl ?_
                  refine g_goto (tgt := 26) hC dX12_spells_116 (by decide) ?_
                  refine g_lv (lv' := [(9, .int (nI (k + 1))), (8, .int (nI 1)), (0, .ref (q 0)), (1, .int (nI sz)), (2, .int (nI c1)), (3, .int (nI c2)), (4, .int (nI c3)), (5, .int (nI c4)), (6, .int (nI c5)), (7, .int (nI c6))]) [0, 1, 2, 3, 4, 5, 6, 7, 8, 9] rfl ?_
                  exact ih_26 (k + 1) true (by omega) (by have hw : w6 c1 c2 c3 c4 c5 c6 k = c2 := (by unfold w6; simp [h_51, h_61]); rw [spF, hbt.1, hbt.2, hw]; simp [h_103]) (by omega)
            · refine g_iload_n hC dX12_spells_54 rfl 4 rfl ?_
              refine g_goto (tgt := 103) hC dX12_spells_55 (by decide) ?_
              refine g_icmp_neN (tgt := 110) hC dX12_spells_103 (by decide) (by omega) (by omega) (fun h_103 => ?_) (fun h_103 => ?_)
              · refine g_iconst (v := (nI 0)) hC dX12_spells_110 (by decide) ?_
                refine g_istore hC [(8, .int (nI 0)), (9, .int (nI k)), (0, .ref (q 0)), (1, .int (nI sz)), (2, .int (nI c1)), (3, .int (nI c2)), (4, .int (nI c3)), (5, .int (nI c4)), (6, .int (nI c5)), (7, .int (nI c6))] dX12_spells_111 (by decide) rfl ?_
                refine g_iincN hC (q := 1) 1 [(9, .int (nI (k + 1))), (8, .int (nI 0)), (0, .ref (q 0)), (1, .int (nI sz)), (2, .int (nI c1)), (3, .int (nI c2)), (4, .int (nI c3)), (5, .int (nI c4)), (6, .int (nI c5)), (7, .int (nI c6))] dX12_spells_113 rfl rfl (by decide) rfl ?_
                refine g_goto (tgt := 26) hC dX12_spells_116 (by decide) ?_
                refine g_lv (lv' := [(9, .int (nI (k + 1))), (8, .int (nI 0)), (0, .ref (q 0)), (1, .int (nI sz)), (2, .int (nI c1)), (3, .int (nI c2)), (4, .int (nI c3)), (5, .int (nI c4)), (6, .int (nI c5)), (7, .int (nI c6))]) [0, 1, 2, 3, 4, 5, 6, 7, 8, 9] rfl ?_
                exact ih_26 (k + 1) false (by omega) (by have hw : w6 c1 c2 c3 c4 c5 c6 k = c1 := (by unfold w6; simp [h_51]); rw [spF, hbt.1, hbt.2, hw]; simp [h_103]) (by omega)
              · refine g_iconst (v := (nI 1)) hC dX12_spells_106 (by decide) ?_
                refine g_goto (tgt := 111) hC dX12_spells_107 (by decide) ?_
                refine g_istore hC [(8, .int (nI 1)), (9, .int (nI k)), (0, .ref (q 0)), (1, .int (nI sz)), (2, .int (nI c1)), (3, .int (nI c2)), (4, .int (nI c3)), (5, .int (nI c4)), (6, .int (nI c5)), (7, .int (nI c6))] dX12_spells_111 (by decide) rfl ?_
                refine g_iincN hC (q := 1) 1 [(9, .int (nI (k + 1))), (8, .int (nI 1)), (0, .ref (q 0)), (1, .int (nI sz)), (2, .int (nI c1)), (3, .int (nI c2)), (4, .int (nI c3)), (5, .int (nI c4)), (6, .int (nI c5)), (7, .int (nI c6))] dX12_spells_113 rfl rfl (by decide) rfl ?_
                refine g_goto (tgt := 26) hC dX12_spells_116 (by decide) ?_
                refine g_lv (lv' := [(9, .int (nI (k + 1))), (8, .int (nI 1)), (0, .ref (q 0)), (1, .int (nI sz)), (2, .int (nI c1)), (3, .int (nI c2)), (4, .int (nI c3)), (5, .int (nI c4)), (6, .int (nI c5)), (7, .int (nI c6))]) [0, 1, 2, 3, 4, 5, 6, 7, 8, 9] rfl ?_
                exact ih_26 (k + 1) true (by omega) (by have hw : w6 c1 c2 c3 c4 c5 c6 k = c1 := (by unfold w6; simp [h_51]); rw [spF, hbt.1, hbt.2, hw]; simp [h_103]) (by omega)
    refine g_lv (lv' := [(9, .int (nI 0)), (8, .int (bI bz)), (0, .ref (q 0)), (1, .int (nI sz)), (2, .int (nI c1)), (3, .int (nI c2)), (4, .int (nI c3)), (5, .int (nI c4)), (6, .int (nI c5)), (7, .int (nI c6))]) [0, 1, 2, 3, 4, 5, 6, 7, 8, 9] rfl ?_
    exact L_26 ((sz - 0) + 1) 0 bz (by omega) (by simp [spF]) (Nat.lt_succ_self _)
  refine g_aload_n hC dX12_spells_0 rfl 0 rfl ?_
  refine g_get hC 0 12 15 inX12 m3_223 dX12_spells_1 rfl rfl (by decide) rfl ?_
  refine g_iconst (v := (nI 1)) hC dX12_spells_4 (by decide) ?_
  refine g_icmp_neN (tgt := 20) hC dX12_spells_5 (by decide) (by omega) (by omega) (fun h_5 => ?_) (fun h_5 => ?_)
  · refine g_iconst (v := (nI 0)) hC dX12_spells_20 (by decide) ?_
    refine g_lv (lv' := [(0, .ref (q 0)), (1, .int (nI sz)), (2, .int (nI c1)), (3, .int (nI c2)), (4, .int (nI c3)), (5, .int (nI c4)), (6, .int (nI c5)), (7, .int (nI c6))]) [0, 1, 2, 3, 4, 5, 6, 7] rfl ?_
    exact J_21 false (by simp [h_5])
  · refine g_aload_n hC dX12_spells_8 rfl 0 rfl ?_
    refine g_get hC 0 12 14 inX12 m3_222 dX12_spells_9 rfl rfl (by decide) rfl ?_
    refine g_iload_n hC dX12_spells_12 rfl 1 rfl ?_
    refine g_icmp_neN (tgt := 20) hC dX12_spells_13 (by decide) (by omega) (by omega) (fun h_13 => ?_) (fun h_13 => ?_)
    · refine g_iconst (v := (nI 0)) hC dX12_spells_20 (by decide) ?_
      refine g_lv (lv' := [(0, .ref (q 0)), (1, .int (nI sz)), (2, .int (nI c1)), (3, .int (nI c2)), (4, .int (nI c3)), (5, .int (nI c4)), (6, .int (nI c5)), (7, .int (nI c6))]) [0, 1, 2, 3, 4, 5, 6, 7] rfl ?_
      exact J_21 false (by simp [h_5, h_13])
    · refine g_iconst (v := (nI 1)) hC dX12_spells_16 (by decide) ?_
      refine g_goto (tgt := 21) hC dX12_spells_17 (by decide) ?_
      refine g_lv (lv' := [(0, .ref (q 0)), (1, .int (nI sz)), (2, .int (nI c1)), (3, .int (nI c2)), (4, .int (nI c3)), (5, .int (nI c4)), (6, .int (nI c5)), (7, .int (nI c6))]) [0, 1, 2, 3, 4, 5, 6, 7] rfl ?_
      exact J_21 true (by simp [h_5, h_13])
set_option maxHeartbeats 4000000 in
set_option maxRecDepth 100000 in
theorem f_X12_takes_y (l : Launch) (E : Ew) (q : Nat → Nat) (ab : Int64) (be : Int64) (fe : Int32) (fc : Int32) (mo : Int32) (b : Nat → Int32) (T : Nat → Nat) (L : Nat) (i : Nat) (vs : Nat → Int32) (k : Nat) (h : Int32) (B : Nat) (hL : L ≤ 150) (hT : ∀ j, j < L → b j = nI (T j) ∧ T j < 128) (hi : i ≤ L) (hk : k < 2) (hh : h.toInt + 1 = (B : Int)) (hy : nmO T L i B = true) : Fn l E 4 yX12_takes cX12_takes 4 (some .boolean) [.ref (q 0), .int (nI k), .int (nI 0), .int h] [(q 0, .inr (12, oM q ab be fe fc mo (nI L) (nI (tA T L i)) (nI (tE T L i - tA T L i)) (nI (tK T L i)) (nI (tV T L i)))), (q 7, .inl (E.2.1 0, 150, .inl b)), (q 9, .inl (E.2.1 0, 2, .inl vs))] (some (.int (bI true))) [(q 0, .inr (12, oM q ab be fe fc mo (nI L) (nI (tA T L (tE T L i))) (nI (tE T L (tE T L i) - tA T L (tE T L i))) (nI (tK T L (tE T L i))) (nI (tV T L (tE T L i))))), (q 7, .inl (E.2.1 0, 150, .inl b)), (q 9, .inl (E.2.1 0, 2, .inl (upd vs k (nI (tV T L i)))))] := by
  refine fn_Z (by decide) (Nat.le_of_ble_eq_true rfl) rfl (nar_bI _) ?_
  intro K hC hR
  show G K E 4 [(q 0, .inr (12, oM q ab be fe fc mo (nI L) (nI (tA T L i)) (nI (tE T L i - tA T L i)) (nI (tK T L i)) (nI (tV T L i)))), (q 7, .inl (E.2.1 0, 150, .inl b)), (q 9, .inl (E.2.1 0, 2, .inl vs))] [(0, .ref (q 0)), (1, .int (nI k)), (2, .int (nI 0)), (3, .int h)] 0 []
  have hk4 : tK T L i ≤ 4 := tK_le T L i
  have hy2 : tK T L i = 2 ∧ tV T L i < B := by simpa [nmO] using hy
  refine g_aload_n hC dX12_takes_0 rfl 0 rfl ?_
  refine g_get hC 0 12 15 inX12 m3_223 dX12_takes_1 rfl rfl (by decide) rfl ?_
  refine g_iconst (v := (nI 2)) hC dX12_takes_4 (by decide) ?_
  refine g_icmp_neN (tgt := 23) hC dX12_takes_5 (by decide) (by omega) (by omega) (fun h_5 => ?_) (fun h_5 => ?_)
  · omega
  · refine g_aload_n hC dX12_takes_8 rfl 0 rfl ?_
    refine g_get hC 0 12 16 inX12 m3_224 dX12_takes_9 rfl rfl (by decide) rfl ?_
    refine g_i2l hC dX12_takes_12 ?_
    refine g_iload_n hC dX12_takes_13 rfl 2 rfl ?_
    refine g_i2l hC dX12_takes_14 ?_
    refine g_iload_n hC dX12_takes_15 rfl 3 rfl ?_
    refine g_i2l hC dX12_takes_16 ?_
    refine g_callS hC (f_X12_in (kl K) E ((nI (tV T L i)).toInt64) ((nI 0).toInt64) h.toInt64) wX12_in m4_31 dX12_takes_17 [] [(q 0, .inr (12, oM q ab be fe fc mo (nI L) (nI (tA T L i)) (nI (tE T L i - tA T L i)) (nI (tK T L i)) (nI (tV T L i)))), (q 7, .inl (E.2.1 0, 150, .inl b)), (q 9, .inl (E.2.1 0, 2, .inl vs))] (by decide) rfl (Nat.le_of_ble_eq_true rfl) rfl rfl rfl rfl rfl ?_
    refine g_val (v' := .int (bI (decide (tV T L i < B)))) (by rw [tk_val (tV_lt hT hi) hh]) ?_
    refine g_if_neB (tgt := 25) hC dX12_takes_20 (by decide) (fun h_20 => ?_) (fun h_20 => ?_)
    · refine g_aload_n hC dX12_takes_25 rfl 0 rfl ?_
      refine g_get hC 0 12 18 inX12 m3_226 dX12_takes_26 rfl rfl (by decide) rfl ?_
      refine g_iload_n hC dX12_takes_29 rfl 1 rfl ?_
      refine g_aload_n hC dX12_takes_30 rfl 0 rfl ?_
      refine g_get hC 0 12 16 inX12 m3_224 dX12_takes_31 rfl rfl (by decide) rfl ?_
      refine g_iastN hC 2 [(q 0, .inr (12, oM q ab be fe fc mo (nI L) (nI (tA T L i)) (nI (tE T L i - tA T L i)) (nI (tK T L i)) (nI (tV T L i)))), (q 7, .inl (E.2.1 0, 150, .inl b)), (q 9, .inl (E.2.1 0, 2, .inl (upd vs k (nI (tV T L i)))))] dX12_takes_34 rfl (by decide) (by omega) rfl ?_
      refine g_aload_n hC dX12_takes_35 rfl 0 rfl ?_
      refine g_callV hC (f_X12_goBehind (kl K) E q ab be fe fc mo b T L i (by omega) (hT) (by omega)) wX12_goBehind m5_31 dX12_takes_36 [0, 1] [(q 0, .inr (12, oM q ab be fe fc mo (nI L) (nI (tA T L (tE T L i))) (nI (tE T L (tE T L i) - tA T L (tE T L i))) (nI (tK T L (tE T L i))) (nI (tV T L (tE T L i))))), (q 7, .inl (E.2.1 0, 150, .inl b)), (q 9, .inl (E.2.1 0, 2, .inl (upd vs k (nI (tV T L i)))))] 0 12 rfl rfl (by decide) rfl (Nat.le_of_ble_eq_true rfl) rfl rfl rfl rfl rfl ?_
      refine g_iconst (v := (nI 1)) hC dX12_takes_39 (by decide) ?_
      exact g_val (rfl) (g_ws (rfl) (hR _ _ dX12_takes_40))
    · have := of_decide_eq_false h_20; omega
set_option maxHeartbeats 4000000 in
set_option maxRecDepth 100000 in
theorem f_X12_takes_n (l : Launch) (E : Ew) (q : Nat → Nat) (ab : Int64) (be : Int64) (fe : Int32) (fc : Int32) (mo : Int32) (b : Nat → Int32) (T : Nat → Nat) (L : Nat) (i : Nat) (vs : Nat → Int32) (k : Nat) (h : Int32) (B : Nat) (hL : L ≤ 150) (hT : ∀ j, j < L → b j = nI (T j) ∧ T j < 128) (hi : i ≤ L) (hk : k < 2) (hh : h.toInt + 1 = (B : Int)) (hy : nmO T L i B = false) : Fn l E 4 yX12_takes cX12_takes 4 (some .boolean) [.ref (q 0), .int (nI k), .int (nI 0), .int h] [(q 0, .inr (12, oM q ab be fe fc mo (nI L) (nI (tA T L i)) (nI (tE T L i - tA T L i)) (nI (tK T L i)) (nI (tV T L i)))), (q 7, .inl (E.2.1 0, 150, .inl b)), (q 9, .inl (E.2.1 0, 2, .inl vs))] (some (.int (bI false))) [(q 0, .inr (12, oM q ab be fe fc mo (nI L) (nI (tA T L i)) (nI (tE T L i - tA T L i)) (nI (tK T L i)) (nI (tV T L i)))), (q 7, .inl (E.2.1 0, 150, .inl b)), (q 9, .inl (E.2.1 0, 2, .inl vs))] := by
  refine fn_Z (by decide) (Nat.le_of_ble_eq_true rfl) rfl (nar_bI _) ?_
  intro K hC hR
  show G K E 4 [(q 0, .inr (12, oM q ab be fe fc mo (nI L) (nI (tA T L i)) (nI (tE T L i - tA T L i)) (nI (tK T L i)) (nI (tV T L i)))), (q 7, .inl (E.2.1 0, 150, .inl b)), (q 9, .inl (E.2.1 0, 2, .inl vs))] [(0, .ref (q 0)), (1, .int (nI k)), (2, .int (nI 0)), (3, .int h)] 0 []
  have hk4 : tK T L i ≤ 4 := tK_le T L i
  refine g_aload_n hC dX12_takes_0 rfl 0 rfl ?_
  refine g_get hC 0 12 15 inX12 m3_223 dX12_takes_1 rfl rfl (by decide) rfl ?_
  refine g_iconst (v := (nI 2)) hC dX12_takes_4 (by decide) ?_
  refine g_icmp_neN (tgt := 23) hC dX12_takes_5 (by decide) (by omega) (by omega) (fun h_5 => ?_) (fun h_5 => ?_)
  · refine g_iconst (v := (nI 0)) hC dX12_takes_23 (by decide) ?_
    exact g_val (rfl) (g_ws (rfl) (hR _ _ dX12_takes_24))
  · refine g_aload_n hC dX12_takes_8 rfl 0 rfl ?_
    refine g_get hC 0 12 16 inX12 m3_224 dX12_takes_9 rfl rfl (by decide) rfl ?_
    refine g_i2l hC dX12_takes_12 ?_
    refine g_iload_n hC dX12_takes_13 rfl 2 rfl ?_
    refine g_i2l hC dX12_takes_14 ?_
    refine g_iload_n hC dX12_takes_15 rfl 3 rfl ?_
    refine g_i2l hC dX12_takes_16 ?_
    refine g_callS hC (f_X12_in (kl K) E ((nI (tV T L i)).toInt64) ((nI 0).toInt64) h.toInt64) wX12_in m4_31 dX12_takes_17 [] [(q 0, .inr (12, oM q ab be fe fc mo (nI L) (nI (tA T L i)) (nI (tE T L i - tA T L i)) (nI (tK T L i)) (nI (tV T L i)))), (q 7, .inl (E.2.1 0, 150, .inl b)), (q 9, .inl (E.2.1 0, 2, .inl vs))] (by decide) rfl (Nat.le_of_ble_eq_true rfl) rfl rfl rfl rfl rfl ?_
    refine g_val (v' := .int (bI (decide (tV T L i < B)))) (by rw [tk_val (tV_lt hT hi) hh]) ?_
    refine g_if_neB (tgt := 25) hC dX12_takes_20 (by decide) (fun h_20 => ?_) (fun h_20 => ?_)
    · exact absurd hy (by simp [nmO, h_5, of_decide_eq_true h_20])
    · refine g_iconst (v := (nI 0)) hC dX12_takes_23 (by decide) ?_
      exact g_val (rfl) (g_ws (rfl) (hR _ _ dX12_takes_24))
set_option maxHeartbeats 4000000 in
set_option maxRecDepth 100000 in
theorem f_X12_takesHamlet (l : Launch) (E : Ew) (q : Nat → Nat) (ab : Int64) (be : Int64) (fe : Int32) (fc : Int32) (mo : Int32) (b : Nat → Int32) (T : Nat → Nat) (L : Nat) (i : Nat) (w : Nat → Int32) (vs : Nat → Int32) (hL : L ≤ 150) (hT : ∀ j, j < L → b j = nI (T j) ∧ T j < 128) (hi : i ≤ L) : Fe l E 5 yX12_takesHamlet cX12_takesHamlet 1 (some .boolean) [.ref (q 0)] [(q 0, .inr (12, oM q ab be fe fc mo (nI L) (nI (tA T L i)) (nI (tE T L i - tA T L i)) (nI (tK T L i)) (nI (tV T L i)))), (q 7, .inl (E.2.1 0, 150, .inl b)), (q 8, .inl (E.2.1 0, 68, .inl w)), (q 9, .inl (E.2.1 0, 2, .inl vs))] (some (.int (bI ((hmP T L i w).1)))) (fun jj => [(q 0, .inr (12, oM q ab be fe fc mo (nI L) (nI (tA T L ((hmP T L i w).2.1))) (nI (tE T L ((hmP T L i w).2.1) - tA T L ((hmP T L i w).2.1))) (nI (tK T L ((hmP T L i w).2.1))) (nI (tV T L ((hmP T L i w).2.1))))), (q 7, .inl (E.2.1 0, 150, .inl b)), (q 8, .inl (E.2.1 0, 68, .inl ((hmP T L i w).2.2))), (q 9, .inl (E.2.1 0, 2, .inl (jj 0)))]) := by
  refine fe_Z (by decide) (Nat.le_of_ble_eq_true rfl) (fun _ => rfl) (nar_bI _) ?_
  intro K hC hR
  show G K E 1 [(q 0, .inr (12, oM q ab be fe fc mo (nI L) (nI (tA T L i)) (nI (tE T L i - tA T L i)) (nI (tK T L i)) (nI (tV T L i)))), (q 7, .inl (E.2.1 0, 150, .inl b)), (q 8, .inl (E.2.1 0, 68, .inl w)), (q 9, .inl (E.2.1 0, 2, .inl vs))] [(0, .ref (q 0))] 0 []
  have hk4 := tK_le T L (tE T L (tE T L i))
  refine g_aload_n hC dX12_takesHamlet_0 rfl 0 rfl ?_
  refine g_bipush (v := (nI 6)) hC dX12_takesHamlet_1 (by decide) ?_
  refine g_bipush (v := (nI 104)) hC dX12_takesHamlet_3 (by decide) ?_
  refine g_bipush (v := (nI 97)) hC dX12_takesHamlet_5 (by decide) ?_
  refine g_bipush (v := (nI 109)) hC dX12_takesHamlet_7 (by decide) ?_
  refine g_bipush (v := (nI 108)) hC dX12_takesHamlet_9 (by decide) ?_
  refine g_bipush (v := (nI 101)) hC dX12_takesHamlet_11 (by decide) ?_
  refine g_bipush (v := (nI 116)) hC dX12_takesHamlet_13 (by decide) ?_
  refine g_callV hC (f_X12_spells (kl K) E q ab be fe fc mo b T L i 6 104 97 109 108 101 116 (by omega) (hT) (by omega) (by omega) (by omega) (by omega) (by omega) (by omega) (by omega) (by omega)) wX12_spells m5_27 dX12_takesHamlet_15 [0, 1] [(q 0, .inr (12, oM q ab be fe fc mo (nI L) (nI (tA T L i)) (nI (tE T L i - tA T L i)) (nI (tK T L i)) (nI (tV T L i)))), (q 7, .inl (E.2.1 0, 150, .inl b)), (q 8, .inl (E.2.1 0, 68, .inl w)), (q 9, .inl (E.2.1 0, 2, .inl vs))] 0 12 rfl rfl (by decide) rfl (Nat.le_of_ble_eq_true rfl) rfl rfl rfl rfl rfl ?_
  refine g_val (v' := .int (bI (isHam T L i))) (rfl) ?_
  refine g_if_neB (tgt := 23) hC dX12_takesHamlet_18 (by decide) (fun h_18 => ?_) (fun h_18 => ?_)
  · refine g_aload_n hC dX12_takesHamlet_23 rfl 0 rfl ?_
    refine g_callV hC (f_X12_goBehind (kl K) E q ab be fe fc mo b T L i (by omega) (hT) (by omega)) wX12_goBehind m5_31 dX12_takesHamlet_24 [0, 1] [(q 0, .inr (12, oM q ab be fe fc mo (nI L) (nI (tA T L (tE T L i))) (nI (tE T L (tE T L i) - tA T L (tE T L i))) (nI (tK T L (tE T L i))) (nI (tV T L (tE T L i))))), (q 7, .inl (E.2.1 0, 150, .inl b)), (q 8, .inl (E.2.1 0, 68, .inl w)), (q 9, .inl (E.2.1 0, 2, .inl vs))] 0 12 rfl rfl (by decide) rfl (Nat.le_of_ble_eq_true rfl) rfl rfl rfl rfl rfl ?_
    by_cases hy1 : nmO T L (tE T L i) 100 = true
    · refine g_aload_n hC dX12_takesHamlet_27 rfl 0 rfl ?_
      refine g_iconst (v := (nI 0)) hC dX12_takesHamlet_28 (by decide) ?_
      refine g_iconst (v := (nI 0)) hC dX12_takesHamlet_29 (by decide) ?_
      refine g_bipush (v := (nI 99)) hC dX12_takesHamlet_30 (by decide) ?_
      refine g_callV hC (f_X12_takes_y (kl K) E q ab be fe fc mo b T L (tE T L i) vs 0 (nI 99) 100 (by omega) (hT) (tE_le hi) (by omega) (by decide) (hy1)) wX12_takes m5_35 dX12_takesHamlet_32 [0, 1, 3] [(q 0, .inr (12, oM q ab be fe fc mo (nI L) (nI (tA T L (tE T L (tE T L i)))) (nI (tE T L (tE T L (tE T L i)) - tA T L (tE T L (tE T L i)))) (nI (tK T L (tE T L (tE T L i)))) (nI (tV T L (tE T L (tE T L i)))))), (q 7, .inl (E.2.1 0, 150, .inl b)), (q 8, .inl (E.2.1 0, 68, .inl w)), (q 9, .inl (E.2.1 0, 2, .inl (upd vs 0 (nI (tV T L (tE T L i))))))] 0 12 rfl rfl (by decide) rfl (Nat.le_of_ble_eq_true rfl) rfl rfl rfl rfl rfl ?_
      refine g_if_neB (tgt := 40) hC dX12_takesHamlet_35 (by decide) (fun h_35 => ?_) (fun h_35 => ?_)
      · refine g_aload_n hC dX12_takesHamlet_40 rfl 0 rfl ?_
        refine g_get hC 0 12 17 inX12 m3_225 dX12_takesHamlet_41 rfl rfl (by decide) rfl ?_
        refine g_aload_n hC dX12_takesHamlet_44 rfl 0 rfl ?_
        refine g_get hC 0 12 18 inX12 m3_226 dX12_takesHamlet_45 rfl rfl (by decide) rfl ?_
        refine g_iconst (v := (nI 0)) hC dX12_takesHamlet_48 (by decide) ?_
        refine g_ialdN hC 3 dX12_takesHamlet_49 rfl (by decide) (by omega) ?_
        refine g_val (v' := .int (nI (tV T L (tE T L i)))) (by rw [upd_s]) ?_
        refine g_callS hC (f_X12_begin68 (kl K) E (q 8) w (nI (tV T L (tE T L i)))) wX12_begin m3_205 dX12_takesHamlet_50 [2] [(q 0, .inr (12, oM q ab be fe fc mo (nI L) (nI (tA T L (tE T L (tE T L i)))) (nI (tE T L (tE T L (tE T L i)) - tA T L (tE T L (tE T L i)))) (nI (tK T L (tE T L (tE T L i)))) (nI (tV T L (tE T L (tE T L i)))))), (q 7, .inl (E.2.1 0, 150, .inl b)), (q 8, .inl (E.2.1 0, 68, .inl (beg w (nI (tV T L (tE T L i)))))), (q 9, .inl (E.2.1 0, 2, .inl (upd vs 0 (nI (tV T L (tE T L i))))))] (by decide) rfl (Nat.le_of_ble_eq_true rfl) rfl rfl rfl rfl rfl ?_
        refine g_arr 2 [(q 0, .inr (12, oM q ab be fe fc mo (nI L) (nI (tA T L (tE T L (tE T L i)))) (nI (tE T L (tE T L (tE T L i)) - tA T L (tE T L (tE T L i)))) (nI (tK T L (tE T L (tE T L i)))) (nI (tV T L (tE T L (tE T L i)))))), (q 7, .inl (E.2.1 0, 150, .inl b)), (q 8, .inl (E.2.1 0, 68, .inl (beg zz (nI (tV T L (tE T L i)))))), (q 9, .inl (E.2.1 0, 2, .inl (upd vs 0 (nI (tV T L (tE T L i))))))] (beg zz (nI (tV T L (tE T L i)))) rfl (beg_cong) rfl ?_
        refine g_aload_n hC dX12_takesHamlet_53 rfl 0 rfl ?_
        refine g_get hC 0 12 15 inX12 m3_223 dX12_takesHamlet_54 rfl rfl (by decide) rfl ?_
        refine g_iconst (v := (nI 3)) hC dX12_takesHamlet_57 (by decide) ?_
        refine g_icmp_neN (tgt := 65) hC dX12_takesHamlet_58 (by decide) (by omega) (by omega) (fun h_58 => ?_) (fun h_58 => ?_)
        · refine g_iconst (v := (nI 0)) hC dX12_takesHamlet_65 (by decide) ?_
          exact g_val (by unfold hmP; rw [if_neg (by rw [h_18]; decide), if_neg (by rw [hy1]; decide)]; exact bI_0e (by simp [h_58])) (g_ws (by unfold hmP; rw [if_neg (by rw [h_18]; decide), if_neg (by rw [hy1]; decide)] <;> rfl) (hR (fun jx => (upd vs 0 (nI (tV T L (tE T L i))))) _ _ dX12_takesHamlet_66))
        · refine g_iconst (v := (nI 1)) hC dX12_takesHamlet_61 (by decide) ?_
          refine g_goto (tgt := 66) hC dX12_takesHamlet_62 (by decide) ?_
          exact g_val (by unfold hmP; rw [if_neg (by rw [h_18]; decide), if_neg (by rw [hy1]; decide)]; exact bI_1e (by simp [h_58])) (g_ws (by unfold hmP; rw [if_neg (by rw [h_18]; decide), if_neg (by rw [hy1]; decide)] <;> rfl) (hR (fun jx => (upd vs 0 (nI (tV T L (tE T L i))))) _ _ dX12_takesHamlet_66))
      · cases h_35
    · have hy1 : nmO T L (tE T L i) 100 = false := by simpa using hy1
      refine g_aload_n hC dX12_takesHamlet_27 rfl 0 rfl ?_
      refine g_iconst (v := (nI 0)) hC dX12_takesHamlet_28 (by decide) ?_
      refine g_iconst (v := (nI 0)) hC dX12_takesHamlet_29 (by decide) ?_
      refine g_bipush (v := (nI 99)) hC dX12_takesHamlet_30 (by decide) ?_
      refine g_callV hC (f_X12_takes_n (kl K) E q ab be fe fc mo b T L (tE T L i) vs 0 (nI 99) 100 (by omega) (hT) (tE_le hi) (by omega) (by decide) (hy1)) wX12_takes m5_35 dX12_takesHamlet_32 [0, 1, 3] [(q 0, .inr (12, oM q ab be fe fc mo (nI L) (nI (tA T L (tE T L i))) (nI (tE T L (tE T L i) - tA T L (tE T L i))) (nI (tK T L (tE T L i))) (nI (tV T L (tE T L i))))), (q 7, .inl (E.2.1 0, 150, .inl b)), (q 8, .inl (E.2.1 0, 68, .inl w)), (q 9, .inl (E.2.1 0, 2, .inl vs))] 0 12 rfl rfl (by decide) rfl (Nat.le_of_ble_eq_true rfl) rfl rfl rfl rfl rfl ?_
      refine g_if_neB (tgt := 40) hC dX12_takesHamlet_35 (by decide) (fun h_35 => ?_) (fun h_35 => ?_)
      · cases h_35
      · refine g_iconst (v := (nI 0)) hC dX12_takesHamlet_38 (by decide) ?_
        exact g_val (by unfold hmP; rw [if_neg (by rw [h_18]; decide), if_pos hy1] <;> rfl) (g_ws (by unfold hmP; rw [if_neg (by rw [h_18]; decide), if_pos hy1]) (hR (fun jx => vs) _ _ dX12_takesHamlet_39))
  · refine g_iconst (v := (nI 0)) hC dX12_takesHamlet_21 (by decide) ?_
    exact g_val (by unfold hmP; rw [if_pos h_18] <;> rfl) (g_ws (by unfold hmP; rw [if_pos h_18]) (hR (fun jx => vs) _ _ dX12_takesHamlet_22))
set_option maxHeartbeats 4000000 in
set_option maxRecDepth 100000 in
theorem f_X12_takesOne (l : Launch) (E : Ew) (q : Nat → Nat) (ab : Int64) (be : Int64) (fe : Int32) (fc : Int32) (mo : Int32) (b : Nat → Int32) (T : Nat → Nat) (L : Nat) (i : Nat) (w : Nat → Int32) (vs : Nat → Int32) (n : Nat) (hL : L ≤ 150) (hT : ∀ j, j < L → b j = nI (T j) ∧ T j < 128) (hi : i ≤ L) (hn : w 0 = nI n) (hn7 : n ≤ 7) : Fe l E 5 yX12_takesOne cX12_takesOne 1 (some .boolean) [.ref (q 0)] [(q 0, .inr (12, oM q ab be fe fc mo (nI L) (nI (tA T L i)) (nI (tE T L i - tA T L i)) (nI (tK T L i)) (nI (tV T L i)))), (q 7, .inl (E.2.1 0, 150, .inl b)), (q 8, .inl (E.2.1 0, 68, .inl w)), (q 9, .inl (E.2.1 0, 2, .inl vs))] (some (.int (bI ((pO T L i w n).1)))) (fun jj => [(q 0, .inr (12, oM q ab be fe fc mo (nI L) (nI (tA T L ((pO T L i w n).2.1))) (nI (tE T L ((pO T L i w n).2.1) - tA T L ((pO T L i w n).2.1))) (nI (tK T L ((pO T L i w n).2.1))) (nI (tV T L ((pO T L i w n).2.1))))), (q 7, .inl (E.2.1 0, 150, .inl b)), (q 8, .inl (E.2.1 0, 68, .inl ((pO T L i w n).2.2))), (q 9, .inl (E.2.1 0, 2, .inl (jj 0)))]) := by
  refine fe_Z (by decide) (Nat.le_of_ble_eq_true rfl) (fun _ => rfl) (nar_bI _) ?_
  intro K hC hR
  show G K E 1 [(q 0, .inr (12, oM q ab be fe fc mo (nI L) (nI (tA T L i)) (nI (tE T L i - tA T L i)) (nI (tK T L i)) (nI (tV T L i)))), (q 7, .inl (E.2.1 0, 150, .inl b)), (q 8, .inl (E.2.1 0, 68, .inl w)), (q 9, .inl (E.2.1 0, 2, .inl vs))] [(0, .ref (q 0))] 0 []
  have hv1 : tV T L (tE T L i) < 100 := tV_lt'
  have hv2 : tV T L (tE T L (tE T L i)) < 100 := tV_lt'
  refine g_aload_n hC dX12_takesOne_0 rfl 0 rfl ?_
  refine g_get hC 0 12 17 inX12 m3_225 dX12_takesOne_1 rfl rfl (by decide) rfl ?_
  refine g_iconst (v := (nI 0)) hC dX12_takesOne_4 (by decide) ?_
  refine g_ialdN hC 2 dX12_takesOne_5 rfl (by decide) (by omega) ?_
  refine g_val (v' := .int (nI n)) (by rw [hn]) ?_
  refine g_bipush (v := (nI 7)) hC dX12_takesOne_6 (by decide) ?_
  refine g_icmp_neN (tgt := 13) hC dX12_takesOne_8 (by decide) (by omega) (by omega) (fun h_8 => ?_) (fun h_8 => ?_)
  · refine g_aload_n hC dX12_takesOne_13 rfl 0 rfl ?_
    refine g_callV hC (f_X12_goBehind (kl K) E q ab be fe fc mo b T L i (by omega) (hT) (by omega)) wX12_goBehind m5_31 dX12_takesOne_14 [0, 1] [(q 0, .inr (12, oM q ab be fe fc mo (nI L) (nI (tA T L (tE T L i))) (nI (tE T L (tE T L i) - tA T L (tE T L i))) (nI (tK T L (tE T L i))) (nI (tV T L (tE T L i))))), (q 7, .inl (E.2.1 0, 150, .inl b)), (q 8, .inl (E.2.1 0, 68, .inl w)), (q 9, .inl (E.2.1 0, 2, .inl vs))] 0 12 rfl rfl (by decide) rfl (Nat.le_of_ble_eq_true rfl) rfl rfl rfl rfl rfl ?_
    by_cases hy1 : nmO T L (tE T L i) 6 = true
    · refine g_aload_n hC dX12_takesOne_17 rfl 0 rfl ?_
      refine g_iconst (v := (nI 0)) hC dX12_takesOne_18 (by decide) ?_
      refine g_iconst (v := (nI 0)) hC dX12_takesOne_19 (by decide) ?_
      refine g_iconst (v := (nI 5)) hC dX12_takesOne_20 (by decide) ?_
      refine g_callV hC (f_X12_takes_y (kl K) E q ab be fe fc mo b T L (tE T L i) vs 0 (nI 5) 6 (by omega) (hT) (tE_le hi) (by omega) (by decide) (hy1)) wX12_takes m5_35 dX12_takesOne_21 [0, 1, 3] [(q 0, .inr (12, oM q ab be fe fc mo (nI L) (nI (tA T L (tE T L (tE T L i)))) (nI (tE T L (tE T L (tE T L i)) - tA T L (tE T L (tE T L i)))) (nI (tK T L (tE T L (tE T L i)))) (nI (tV T L (tE T L (tE T L i)))))), (q 7, .inl (E.2.1 0, 150, .inl b)), (q 8, .inl (E.2.1 0, 68, .inl w)), (q 9, .inl (E.2.1 0, 2, .inl (upd vs 0 (nI (tV T L (tE T L i))))))] 0 12 rfl rfl (by decide) rfl (Nat.le_of_ble_eq_true rfl) rfl rfl rfl rfl rfl ?_
      refine g_if_eqB (tgt := 38) hC dX12_takesOne_24 (by decide) (fun h_24 => ?_) (fun h_24 => ?_)
      · cases h_24
      · by_cases hy2 : nmO T L (tE T L (tE T L i)) 10 = true
        · refine g_aload_n hC dX12_takesOne_27 rfl 0 rfl ?_
          refine g_iconst (v := (nI 1)) hC dX12_takesOne_28 (by decide) ?_
          refine g_iconst (v := (nI 0)) hC dX12_takesOne_29 (by decide) ?_
          refine g_bipush (v := (nI 9)) hC dX12_takesOne_30 (by decide) ?_
          refine g_callV hC (f_X12_takes_y (kl K) E q ab be fe fc mo b T L (tE T L (tE T L i)) (upd vs 0 (nI (tV T L (tE T L i)))) 1 (nI 9) 10 (by omega) (hT) (tE_le (tE_le hi)) (by omega) (by decide) (hy2)) wX12_takes m5_35 dX12_takesOne_32 [0, 1, 3] [(q 0, .inr (12, oM q ab be fe fc mo (nI L) (nI (tA T L (tE T L (tE T L (tE T L i))))) (nI (tE T L (tE T L (tE T L (tE T L i))) - tA T L (tE T L (tE T L (tE T L i))))) (nI (tK T L (tE T L (tE T L (tE T L i))))) (nI (tV T L (tE T L (tE T L (tE T L i))))))), (q 7, .inl (E.2.1 0, 150, .inl b)), (q 8, .inl (E.2.1 0, 68, .inl w)), (q 9, .inl (E.2.1 0, 2, .inl (upd (upd vs 0 (nI (tV T L (tE T L i)))) 1 (nI (tV T L (tE T L (tE T L i)))))))] 0 12 rfl rfl (by decide) rfl (Nat.le_of_ble_eq_true rfl) rfl rfl rfl rfl rfl ?_
          refine g_if_neB (tgt := 40) hC dX12_takesOne_35 (by decide) (fun h_35 => ?_) (fun h_35 => ?_)
          · refine g_aload_n hC dX12_takesOne_40 rfl 0 rfl ?_
            refine g_get hC 0 12 17 inX12 m3_225 dX12_takesOne_41 rfl rfl (by decide) rfl ?_
            refine g_aload_n hC dX12_takesOne_44 rfl 0 rfl ?_
            refine g_get hC 0 12 18 inX12 m3_226 dX12_takesOne_45 rfl rfl (by decide) rfl ?_
            refine g_iconst (v := (nI 0)) hC dX12_takesOne_48 (by decide) ?_
            refine g_ialdN hC 3 dX12_takesOne_49 rfl (by decide) (by omega) ?_
            refine g_val (v' := .int (nI (tV T L (tE T L i)))) (by rw [upd_n (by decide), upd_s]) ?_
            refine g_aload_n hC dX12_takesOne_50 rfl 0 rfl ?_
            refine g_get hC 0 12 18 inX12 m3_226 dX12_takesOne_51 rfl rfl (by decide) rfl ?_
            refine g_iconst (v := (nI 1)) hC dX12_takesOne_54 (by decide) ?_
            refine g_ialdN hC 3 dX12_takesOne_55 rfl (by decide) (by omega) ?_
            refine g_val (v' := .int (nI (tV T L (tE T L (tE T L i))))) (by rw [upd_s]) ?_
            refine g_callS hC (f_X12_layOne68 (kl K) E (q 8) w (tV T L (tE T L i)) (tV T L (tE T L (tE T L i))) n (hn) (by omega)) wX12_layOne m4_55 dX12_takesOne_56 [2] [(q 0, .inr (12, oM q ab be fe fc mo (nI L) (nI (tA T L (tE T L (tE T L (tE T L i))))) (nI (tE T L (tE T L (tE T L (tE T L i))) - tA T L (tE T L (tE T L (tE T L i))))) (nI (tK T L (tE T L (tE T L (tE T L i))))) (nI (tV T L (tE T L (tE T L (tE T L i))))))), (q 7, .inl (E.2.1 0, 150, .inl b)), (q 8, .inl (E.2.1 0, 68, .inl (layF w (tV T L (tE T L i)) (tV T L (tE T L (tE T L i))) n))), (q 9, .inl (E.2.1 0, 2, .inl (upd (upd vs 0 (nI (tV T L (tE T L i)))) 1 (nI (tV T L (tE T L (tE T L i)))))))] (by decide) rfl (Nat.le_of_ble_eq_true rfl) rfl rfl rfl rfl rfl ?_
            refine g_iconst (v := (nI 1)) hC dX12_takesOne_59 (by decide) ?_
            exact g_val (by unfold pO; rw [if_neg h_8, if_neg (by rw [hy1]; decide), if_neg (by rw [hy2]; decide)] <;> rfl) (g_ws (by unfold pO; rw [if_neg h_8, if_neg (by rw [hy1]; decide), if_neg (by rw [hy2]; decide)] <;> rfl) (hR (fun jx => (upd (upd vs 0 (nI (tV T L (tE T L i)))) 1 (nI (tV T L (tE T L (tE T L i)))))) _ _ dX12_takesOne_60))
          · cases h_35
        · have hy2 : nmO T L (tE T L (tE T L i)) 10 = false := by simpa using hy2
          refine g_aload_n hC dX12_takesOne_27 rfl 0 rfl ?_
          refine g_iconst (v := (nI 1)) hC dX12_takesOne_28 (by decide) ?_
          refine g_iconst (v := (nI 0)) hC dX12_takesOne_29 (by decide) ?_
          refine g_bipush (v := (nI 9)) hC dX12_takesOne_30 (by decide) ?_
          refine g_callV hC (f_X12_takes_n (kl K) E q ab be fe fc mo b T L (tE T L (tE T L i)) (upd vs 0 (nI (tV T L (tE T L i)))) 1 (nI 9) 10 (by omega) (hT) (tE_le (tE_le hi)) (by omega) (by decide) (hy2)) wX12_takes m5_35 dX12_takesOne_32 [0, 1, 3] [(q 0, .inr (12, oM q ab be fe fc mo (nI L) (nI (tA T L (tE T L (tE T L i)))) (nI (tE T L (tE T L (tE T L i)) - tA T L (tE T L (tE T L i)))) (nI (tK T L (tE T L (tE T L i)))) (nI (tV T L (tE T L (tE T L i)))))), (q 7, .inl (E.2.1 0, 150, .inl b)), (q 8, .inl (E.2.1 0, 68, .inl w)), (q 9, .inl (E.2.1 0, 2, .inl (upd vs 0 (nI (tV T L (tE T L i))))))] 0 12 rfl rfl (by decide) rfl (Nat.le_of_ble_eq_true rfl) rfl rfl rfl rfl rfl ?_
          refine g_if_neB (tgt := 40) hC dX12_takesOne_35 (by decide) (fun h_35 => ?_) (fun h_35 => ?_)
          · cases h_35
          · refine g_iconst (v := (nI 0)) hC dX12_takesOne_38 (by decide) ?_
            exact g_val (by unfold pO; rw [if_neg h_8, if_neg (by rw [hy1]; decide), if_pos hy2] <;> rfl) (g_ws (by unfold pO; rw [if_neg h_8, if_neg (by rw [hy1]; decide), if_pos hy2] <;> rfl) (hR (fun jx => (upd vs 0 (nI (tV T L (tE T L i))))) _ _ dX12_takesOne_39))
    · have hy1 : nmO T L (tE T L i) 6 = false := by simpa using hy1
      refine g_aload_n hC dX12_takesOne_17 rfl 0 rfl ?_
      refine g_iconst (v := (nI 0)) hC dX12_takesOne_18 (by decide) ?_
      refine g_iconst (v := (nI 0)) hC dX12_takesOne_19 (by decide) ?_
      refine g_iconst (v := (nI 5)) hC dX12_takesOne_20 (by decide) ?_
      refine g_callV hC (f_X12_takes_n (kl K) E q ab be fe fc mo b T L (tE T L i) vs 0 (nI 5) 6 (by omega) (hT) (tE_le hi) (by omega) (by decide) (hy1)) wX12_takes m5_35 dX12_takesOne_21 [0, 1, 3] [(q 0, .inr (12, oM q ab be fe fc mo (nI L) (nI (tA T L (tE T L i))) (nI (tE T L (tE T L i) - tA T L (tE T L i))) (nI (tK T L (tE T L i))) (nI (tV T L (tE T L i))))), (q 7, .inl (E.2.1 0, 150, .inl b)), (q 8, .inl (E.2.1 0, 68, .inl w)), (q 9, .inl (E.2.1 0, 2, .inl vs))] 0 12 rfl rfl (by decide) rfl (Nat.le_of_ble_eq_true rfl) rfl rfl rfl rfl rfl ?_
      refine g_if_eqB (tgt := 38) hC dX12_takesOne_24 (by decide) (fun h_24 => ?_) (fun h_24 => ?_)
      · refine g_iconst (v := (nI 0)) hC dX12_takesOne_38 (by decide) ?_
        exact g_val (by unfold pO; rw [if_neg h_8, if_pos hy1] <;> rfl) (g_ws (by unfold pO; rw [if_neg h_8, if_pos hy1]) (hR (fun jx => vs) _ _ dX12_takesOne_39))
      · cases h_24
  · refine g_iconst (v := (nI 0)) hC dX12_takesOne_11 (by decide) ?_
    exact g_val (by unfold pO; rw [if_pos h_8] <;> rfl) (g_ws (by unfold pO; rw [if_pos h_8]) (hR (fun jx => vs) _ _ dX12_takesOne_12))
set_option maxHeartbeats 4000000 in
set_option maxRecDepth 100000 in
theorem f_X12_takesBears_bears (l : Launch) (E : Ew) (q : Nat → Nat) (ab : Int64) (be : Int64) (fe : Int32) (fc : Int32) (mo : Int32) (b : Nat → Int32) (T : Nat → Nat) (L : Nat) (i : Nat) (w : Nat → Int32) (vs : Nat → Int32) (n : Nat) (hL : L ≤ 150) (hT : ∀ j, j < L → b j = nI (T j) ∧ T j < 128) (hi : i ≤ L) (hn : w 0 = nI n) (hn7 : n ≤ 7) : Fe l E 5 yX12_takesBears cX12_takesBears 2 (some .boolean) [.ref (q 0), .int (bI false)] [(q 0, .inr (12, oM q ab be fe fc mo (nI L) (nI (tA T L i)) (nI (tE T L i - tA T L i)) (nI (tK T L i)) (nI (tV T L i)))), (q 7, .inl (E.2.1 0, 150, .inl b)), (q 8, .inl (E.2.1 0, 68, .inl w)), (q 9, .inl (E.2.1 0, 2, .inl vs))] (some (.int (bI ((pR T L i w n).1)))) (fun jj => [(q 0, .inr (12, oM q ab be fe fc mo (nI L) (nI (tA T L ((pR T L i w n).2.1))) (nI (tE T L ((pR T L i w n).2.1) - tA T L ((pR T L i w n).2.1))) (nI (tK T L ((pR T L i w n).2.1))) (nI (tV T L ((pR T L i w n).2.1))))), (q 7, .inl (E.2.1 0, 150, .inl b)), (q 8, .inl (E.2.1 0, 68, .inl ((pR T L i w n).2.2))), (q 9, .inl (E.2.1 0, 2, .inl (jj 0)))]) := by
  refine fe_Z (by decide) (Nat.le_of_ble_eq_true rfl) (fun _ => rfl) (nar_bI _) ?_
  intro K hC hR
  show G K E 2 [(q 0, .inr (12, oM q ab be fe fc mo (nI L) (nI (tA T L i)) (nI (tE T L i - tA T L i)) (nI (tK T L i)) (nI (tV T L i)))), (q 7, .inl (E.2.1 0, 150, .inl b)), (q 8, .inl (E.2.1 0, 68, .inl w)), (q 9, .inl (E.2.1 0, 2, .inl vs))] [(0, .ref (q 0)), (1, .int (bI false))] 0 []
  refine g_aload_n hC dX12_takesBears_0 rfl 0 rfl ?_
  refine g_callV hC (f_X12_goBehind (kl K) E q ab be fe fc mo b T L i (by omega) (hT) (by omega)) wX12_goBehind m5_31 dX12_takesBears_1 [0, 1] [(q 0, .inr (12, oM q ab be fe fc mo (nI L) (nI (tA T L (tE T L i))) (nI (tE T L (tE T L i) - tA T L (tE T L i))) (nI (tK T L (tE T L i))) (nI (tV T L (tE T L i))))), (q 7, .inl (E.2.1 0, 150, .inl b)), (q 8, .inl (E.2.1 0, 68, .inl w)), (q 9, .inl (E.2.1 0, 2, .inl vs))] 0 12 rfl rfl (by decide) rfl (Nat.le_of_ble_eq_true rfl) rfl rfl rfl rfl rfl ?_
  refine g_aload_n hC dX12_takesBears_4 rfl 0 rfl ?_
  refine g_get hC 0 12 18 inX12 m3_226 dX12_takesBears_5 rfl rfl (by decide) rfl ?_
  refine g_iconst (v := (nI 1)) hC dX12_takesBears_8 (by decide) ?_
  refine g_iconst (v := (-1)) hC dX12_takesBears_9 (by decide) ?_
  refine g_iastN hC 3 [(q 0, .inr (12, oM q ab be fe fc mo (nI L) (nI (tA T L (tE T L i))) (nI (tE T L (tE T L i) - tA T L (tE T L i))) (nI (tK T L (tE T L i))) (nI (tV T L (tE T L i))))), (q 7, .inl (E.2.1 0, 150, .inl b)), (q 8, .inl (E.2.1 0, 68, .inl w)), (q 9, .inl (E.2.1 0, 2, .inl (upd vs 1 (-1))))] dX12_takesBears_10 rfl (by decide) (by omega) rfl ?_
  by_cases hy1 : nmO T L (tE T L i) n = true
  · refine g_aload_n hC dX12_takesBears_11 rfl 0 rfl ?_
    refine g_iconst (v := (nI 0)) hC dX12_takesBears_12 (by decide) ?_
    refine g_iconst (v := (nI 0)) hC dX12_takesBears_13 (by decide) ?_
    refine g_aload_n hC dX12_takesBears_14 rfl 0 rfl ?_
    refine g_get hC 0 12 17 inX12 m3_225 dX12_takesBears_15 rfl rfl (by decide) rfl ?_
    refine g_iconst (v := (nI 0)) hC dX12_takesBears_18 (by decide) ?_
    refine g_ialdN hC 2 dX12_takesBears_19 rfl (by decide) (by omega) ?_
    refine g_val (v' := .int (nI n)) (by rw [hn]) ?_
    refine g_iconst (v := (nI 1)) hC dX12_takesBears_20 (by decide) ?_
    refine g_isub hC dX12_takesBears_21 ?_
    refine g_callV hC (f_X12_takes_y (kl K) E q ab be fe fc mo b T L (tE T L i) (upd vs 1 (-1)) 0 ((nI n) - (nI 1)) n (by omega) (hT) (tE_le hi) (by omega) (nm1_toInt hn7) (hy1)) wX12_takes m5_35 dX12_takesBears_22 [0, 1, 3] [(q 0, .inr (12, oM q ab be fe fc mo (nI L) (nI (tA T L (tE T L (tE T L i)))) (nI (tE T L (tE T L (tE T L i)) - tA T L (tE T L (tE T L i)))) (nI (tK T L (tE T L (tE T L i)))) (nI (tV T L (tE T L (tE T L i)))))), (q 7, .inl (E.2.1 0, 150, .inl b)), (q 8, .inl (E.2.1 0, 68, .inl w)), (q 9, .inl (E.2.1 0, 2, .inl (upd (upd vs 1 (-1)) 0 (nI (tV T L (tE T L i))))))] 0 12 rfl rfl (by decide) rfl (Nat.le_of_ble_eq_true rfl) rfl rfl rfl rfl rfl ?_
    refine g_if_eqB (tgt := 49) hC dX12_takesBears_25 (by decide) (fun h_25 => ?_) (fun h_25 => ?_)
    · cases h_25
    · have hv1 : tV T L (tE T L i) < n := by have := hy1; simp [nmO] at this; exact this.2
      refine g_iload_n hC dX12_takesBears_28 rfl 1 rfl ?_
      refine g_if_neB (tgt := 51) hC dX12_takesBears_29 (by decide) (fun h_29 => ?_) (fun h_29 => ?_)
      · cases h_29
      · by_cases hy2 : nmO T L (tE T L (tE T L i)) n = true
        · refine g_aload_n hC dX12_takesBears_32 rfl 0 rfl ?_
          refine g_iconst (v := (nI 1)) hC dX12_takesBears_33 (by decide) ?_
          refine g_iconst (v := (nI 0)) hC dX12_takesBears_34 (by decide) ?_
          refine g_aload_n hC dX12_takesBears_35 rfl 0 rfl ?_
          refine g_get hC 0 12 17 inX12 m3_225 dX12_takesBears_36 rfl rfl (by decide) rfl ?_
          refine g_iconst (v := (nI 0)) hC dX12_takesBears_39 (by decide) ?_
          refine g_ialdN hC 2 dX12_takesBears_40 rfl (by decide) (by omega) ?_
          refine g_val (v' := .int (nI n)) (by rw [hn]) ?_
          refine g_iconst (v := (nI 1)) hC dX12_takesBears_41 (by decide) ?_
          refine g_isub hC dX12_takesBears_42 ?_
          refine g_callV hC (f_X12_takes_y (kl K) E q ab be fe fc mo b T L (tE T L (tE T L i)) (upd (upd vs 1 (-1)) 0 (nI (tV T L (tE T L i)))) 1 ((nI n) - (nI 1)) n (by omega) (hT) (tE_le (tE_le hi)) (by omega) (nm1_toInt hn7) (hy2)) wX12_takes m5_35 dX12_takesBears_43 [0, 1, 3] [(q 0, .inr (12, oM q ab be fe fc mo (nI L) (nI (tA T L (tE T L (tE T L (tE T L i))))) (nI (tE T L (tE T L (tE T L (tE T L i))) - tA T L (tE T L (tE T L (tE T L i))))) (nI (tK T L (tE T L (tE T L (tE T L i))))) (nI (tV T L (tE T L (tE T L (tE T L i))))))), (q 7, .inl (E.2.1 0, 150, .inl b)), (q 8, .inl (E.2.1 0, 68, .inl w)), (q 9, .inl (E.2.1 0, 2, .inl (upd (upd (upd vs 1 (-1)) 0 (nI (tV T L (tE T L i)))) 1 (nI (tV T L (tE T L (tE T L i)))))))] 0 12 rfl rfl (by decide) rfl (Nat.le_of_ble_eq_true rfl) rfl rfl rfl rfl rfl ?_
          refine g_if_neB (tgt := 51) hC dX12_takesBears_46 (by decide) (fun h_46 => ?_) (fun h_46 => ?_)
          · refine g_aload_n hC dX12_takesBears_51 rfl 0 rfl ?_
            refine g_get hC 0 12 17 inX12 m3_225 dX12_takesBears_52 rfl rfl (by decide) rfl ?_
            refine g_iconst (v := (nI 5)) hC dX12_takesBears_55 (by decide) ?_
            refine g_aload_n hC dX12_takesBears_56 rfl 0 rfl ?_
            refine g_get hC 0 12 18 inX12 m3_226 dX12_takesBears_57 rfl rfl (by decide) rfl ?_
            refine g_iconst (v := (nI 0)) hC dX12_takesBears_60 (by decide) ?_
            refine g_ialdN hC 3 dX12_takesBears_61 rfl (by decide) (by omega) ?_
            refine g_val (v' := .int (nI (tV T L (tE T L i)))) (by rw [upd_n (by decide), upd_s]) ?_
            refine g_iaddN hC dX12_takesBears_62 ?_
            refine g_aload_n hC dX12_takesBears_63 rfl 0 rfl ?_
            refine g_get hC 0 12 18 inX12 m3_226 dX12_takesBears_64 rfl rfl (by decide) rfl ?_
            refine g_iconst (v := (nI 1)) hC dX12_takesBears_67 (by decide) ?_
            refine g_ialdN hC 3 dX12_takesBears_68 rfl (by decide) (by omega) ?_
            refine g_val (v' := .int (nI (tV T L (tE T L (tE T L i))))) (by rw [upd_s]) ?_
            refine g_iastN hC 2 [(q 0, .inr (12, oM q ab be fe fc mo (nI L) (nI (tA T L (tE T L (tE T L (tE T L i))))) (nI (tE T L (tE T L (tE T L (tE T L i))) - tA T L (tE T L (tE T L (tE T L i))))) (nI (tK T L (tE T L (tE T L (tE T L i))))) (nI (tV T L (tE T L (tE T L (tE T L i))))))), (q 7, .inl (E.2.1 0, 150, .inl b)), (q 8, .inl (E.2.1 0, 68, .inl (upd w (5 + (tV T L (tE T L i))) (nI (tV T L (tE T L (tE T L i))))))), (q 9, .inl (E.2.1 0, 2, .inl (upd (upd (upd vs 1 (-1)) 0 (nI (tV T L (tE T L i)))) 1 (nI (tV T L (tE T L (tE T L i)))))))] dX12_takesBears_69 rfl (by decide) (by omega) rfl ?_
            refine g_iconst (v := (nI 1)) hC dX12_takesBears_70 (by decide) ?_
            exact g_val (by unfold pR; rw [if_neg (by rw [hy1]; decide), if_neg (by rw [hy2]; decide)] <;> rfl) (g_ws (by unfold pR; rw [if_neg (by rw [hy1]; decide), if_neg (by rw [hy2]; decide)] <;> rfl) (hR (fun jx => (upd (upd (upd vs 1 (-1)) 0 (nI (tV T L (tE T L i)))) 1 (nI (tV T L (tE T L (tE T L i)))))) _ _ dX12_takesBears_71))
          · cases h_46
        · have hy2 : nmO T L (tE T L (tE T L i)) n = false := by simpa using hy2
          refine g_aload_n hC dX12_takesBears_32 rfl 0 rfl ?_
          refine g_iconst (v := (nI 1)) hC dX12_takesBears_33 (by decide) ?_
          refine g_iconst (v := (nI 0)) hC dX12_takesBears_34 (by decide) ?_
          refine g_aload_n hC dX12_takesBears_35 rfl 0 rfl ?_
          refine g_get hC 0 12 17 inX12 m3_225 dX12_takesBears_36 rfl rfl (by decide) rfl ?_
          refine g_iconst (v := (nI 0)) hC dX12_takesBears_39 (by decide) ?_
          refine g_ialdN hC 2 dX12_takesBears_40 rfl (by decide) (by omega) ?_
          refine g_val (v' := .int (nI n)) (by rw [hn]) ?_
          refine g_iconst (v := (nI 1)) hC dX12_takesBears_41 (by decide) ?_
          refine g_isub hC dX12_takesBears_42 ?_
          refine g_callV hC (f_X12_takes_n (kl K) E q ab be fe fc mo b T L (tE T L (tE T L i)) (upd (upd vs 1 (-1)) 0 (nI (tV T L (tE T L i)))) 1 ((nI n) - (nI 1)) n (by omega) (hT) (tE_le (tE_le hi)) (by omega) (nm1_toInt hn7) (hy2)) wX12_takes m5_35 dX12_takesBears_43 [0, 1, 3] [(q 0, .inr (12, oM q ab be fe fc mo (nI L) (nI (tA T L (tE T L (tE T L i)))) (nI (tE T L (tE T L (tE T L i)) - tA T L (tE T L (tE T L i)))) (nI (tK T L (tE T L (tE T L i)))) (nI (tV T L (tE T L (tE T L i)))))), (q 7, .inl (E.2.1 0, 150, .inl b)), (q 8, .inl (E.2.1 0, 68, .inl w)), (q 9, .inl (E.2.1 0, 2, .inl (upd (upd vs 1 (-1)) 0 (nI (tV T L (tE T L i))))))] 0 12 rfl rfl (by decide) rfl (Nat.le_of_ble_eq_true rfl) rfl rfl rfl rfl rfl ?_
          refine g_if_neB (tgt := 51) hC dX12_takesBears_46 (by decide) (fun h_46 => ?_) (fun h_46 => ?_)
          · cases h_46
          · refine g_iconst (v := (nI 0)) hC dX12_takesBears_49 (by decide) ?_
            exact g_val (by unfold pR; rw [if_neg (by rw [hy1]; decide), if_pos hy2] <;> rfl) (g_ws (by unfold pR; rw [if_neg (by rw [hy1]; decide), if_pos hy2] <;> rfl) (hR (fun jx => (upd (upd vs 1 (-1)) 0 (nI (tV T L (tE T L i))))) _ _ dX12_takesBears_50))
  · have hy1 : nmO T L (tE T L i) n = false := by simpa using hy1
    refine g_aload_n hC dX12_takesBears_11 rfl 0 rfl ?_
    refine g_iconst (v := (nI 0)) hC dX12_takesBears_12 (by decide) ?_
    refine g_iconst (v := (nI 0)) hC dX12_takesBears_13 (by decide) ?_
    refine g_aload_n hC dX12_takesBears_14 rfl 0 rfl ?_
    refine g_get hC 0 12 17 inX12 m3_225 dX12_takesBears_15 rfl rfl (by decide) rfl ?_
    refine g_iconst (v := (nI 0)) hC dX12_takesBears_18 (by decide) ?_
    refine g_ialdN hC 2 dX12_takesBears_19 rfl (by decide) (by omega) ?_
    refine g_val (v' := .int (nI n)) (by rw [hn]) ?_
    refine g_iconst (v := (nI 1)) hC dX12_takesBears_20 (by decide) ?_
    refine g_isub hC dX12_takesBears_21 ?_
    refine g_callV hC (f_X12_takes_n (kl K) E q ab be fe fc mo b T L (tE T L i) (upd vs 1 (-1)) 0 ((nI n) - (nI 1)) n (by omega) (hT) (tE_le hi) (by omega) (nm1_toInt hn7) (hy1)) wX12_takes m5_35 dX12_takesBears_22 [0, 1, 3] [(q 0, .inr (12, oM q ab be fe fc mo (nI L) (nI (tA T L (tE T L i))) (nI (tE T L (tE T L i) - tA T L (tE T L i))) (nI (tK T L (tE T L i))) (nI (tV T L (tE T L i))))), (q 7, .inl (E.2.1 0, 150, .inl b)), (q 8, .inl (E.2.1 0, 68, .inl w)), (q 9, .inl (E.2.1 0, 2, .inl (upd vs 1 (-1))))] 0 12 rfl rfl (by decide) rfl (Nat.le_of_ble_eq_true rfl) rfl rfl rfl rfl rfl ?_
    refine g_if_eqB (tgt := 49) hC dX12_takesBears_25 (by decide) (fun h_25 => ?_) (fun h_25 => ?_)
    · refine g_iconst (v := (nI 0)) hC dX12_takesBears_49 (by decide) ?_
      exact g_val (by unfold pR; rw [if_pos hy1] <;> rfl) (g_ws (by unfold pR; rw [if_pos hy1] <;> rfl) (hR (fun jx => (upd vs 1 (-1))) _ _ dX12_takesBears_50))
    · cases h_25
set_option maxHeartbeats 4000000 in
set_option maxRecDepth 100000 in
theorem f_X12_takesBears_none (l : Launch) (E : Ew) (q : Nat → Nat) (ab : Int64) (be : Int64) (fe : Int32) (fc : Int32) (mo : Int32) (b : Nat → Int32) (T : Nat → Nat) (L : Nat) (i : Nat) (w : Nat → Int32) (vs : Nat → Int32) (n : Nat) (hL : L ≤ 150) (hT : ∀ j, j < L → b j = nI (T j) ∧ T j < 128) (hi : i ≤ L) (hn : w 0 = nI n) (hn7 : n ≤ 7) : Fe l E 5 yX12_takesBears cX12_takesBears 2 (some .boolean) [.ref (q 0), .int (bI true)] [(q 0, .inr (12, oM q ab be fe fc mo (nI L) (nI (tA T L i)) (nI (tE T L i - tA T L i)) (nI (tK T L i)) (nI (tV T L i)))), (q 7, .inl (E.2.1 0, 150, .inl b)), (q 8, .inl (E.2.1 0, 68, .inl w)), (q 9, .inl (E.2.1 0, 2, .inl vs))] (some (.int (bI ((pZ T L i w n).1)))) (fun jj => [(q 0, .inr (12, oM q ab be fe fc mo (nI L) (nI (tA T L ((pZ T L i w n).2.1))) (nI (tE T L ((pZ T L i w n).2.1) - tA T L ((pZ T L i w n).2.1))) (nI (tK T L ((pZ T L i w n).2.1))) (nI (tV T L ((pZ T L i w n).2.1))))), (q 7, .inl (E.2.1 0, 150, .inl b)), (q 8, .inl (E.2.1 0, 68, .inl ((pZ T L i w n).2.2))), (q 9, .inl (E.2.1 0, 2, .inl (jj 0)))]) := by
  refine fe_Z (by decide) (Nat.le_of_ble_eq_true rfl) (fun _ => rfl) (nar_bI _) ?_
  intro K hC hR
  show G K E 2 [(q 0, .inr (12, oM q ab be fe fc mo (nI L) (nI (tA T L i)) (nI (tE T L i - tA T L i)) (nI (tK T L i)) (nI (tV T L i)))), (q 7, .inl (E.2.1 0, 150, .inl b)), (q 8, .inl (E.2.1 0, 68, .inl w)), (q 9, .inl (E.2.1 0, 2, .inl vs))] [(0, .ref (q 0)), (1, .int (bI true))] 0 []
  refine g_aload_n hC dX12_takesBears_0 rfl 0 rfl ?_
  refine g_callV hC (f_X12_goBehind (kl K) E q ab be fe fc mo b T L i (by omega) (hT) (by omega)) wX12_goBehind m5_31 dX12_takesBears_1 [0, 1] [(q 0, .inr (12, oM q ab be fe fc mo (nI L) (nI (tA T L (tE T L i))) (nI (tE T L (tE T L i) - tA T L (tE T L i))) (nI (tK T L (tE T L i))) (nI (tV T L (tE T L i))))), (q 7, .inl (E.2.1 0, 150, .inl b)), (q 8, .inl (E.2.1 0, 68, .inl w)), (q 9, .inl (E.2.1 0, 2, .inl vs))] 0 12 rfl rfl (by decide) rfl (Nat.le_of_ble_eq_true rfl) rfl rfl rfl rfl rfl ?_
  refine g_aload_n hC dX12_takesBears_4 rfl 0 rfl ?_
  refine g_get hC 0 12 18 inX12 m3_226 dX12_takesBears_5 rfl rfl (by decide) rfl ?_
  refine g_iconst (v := (nI 1)) hC dX12_takesBears_8 (by decide) ?_
  refine g_iconst (v := (-1)) hC dX12_takesBears_9 (by decide) ?_
  refine g_iastN hC 3 [(q 0, .inr (12, oM q ab be fe fc mo (nI L) (nI (tA T L (tE T L i))) (nI (tE T L (tE T L i) - tA T L (tE T L i))) (nI (tK T L (tE T L i))) (nI (tV T L (tE T L i))))), (q 7, .inl (E.2.1 0, 150, .inl b)), (q 8, .inl (E.2.1 0, 68, .inl w)), (q 9, .inl (E.2.1 0, 2, .inl (upd vs 1 (-1))))] dX12_takesBears_10 rfl (by decide) (by omega) rfl ?_
  by_cases hy1 : nmO T L (tE T L i) n = true
  · refine g_aload_n hC dX12_takesBears_11 rfl 0 rfl ?_
    refine g_iconst (v := (nI 0)) hC dX12_takesBears_12 (by decide) ?_
    refine g_iconst (v := (nI 0)) hC dX12_takesBears_13 (by decide) ?_
    refine g_aload_n hC dX12_takesBears_14 rfl 0 rfl ?_
    refine g_get hC 0 12 17 inX12 m3_225 dX12_takesBears_15 rfl rfl (by decide) rfl ?_
    refine g_iconst (v := (nI 0)) hC dX12_takesBears_18 (by decide) ?_
    refine g_ialdN hC 2 dX12_takesBears_19 rfl (by decide) (by omega) ?_
    refine g_val (v' := .int (nI n)) (by rw [hn]) ?_
    refine g_iconst (v := (nI 1)) hC dX12_takesBears_20 (by decide) ?_
    refine g_isub hC dX12_takesBears_21 ?_
    refine g_callV hC (f_X12_takes_y (kl K) E q ab be fe fc mo b T L (tE T L i) (upd vs 1 (-1)) 0 ((nI n) - (nI 1)) n (by omega) (hT) (tE_le hi) (by omega) (nm1_toInt hn7) (hy1)) wX12_takes m5_35 dX12_takesBears_22 [0, 1, 3] [(q 0, .inr (12, oM q ab be fe fc mo (nI L) (nI (tA T L (tE T L (tE T L i)))) (nI (tE T L (tE T L (tE T L i)) - tA T L (tE T L (tE T L i)))) (nI (tK T L (tE T L (tE T L i)))) (nI (tV T L (tE T L (tE T L i)))))), (q 7, .inl (E.2.1 0, 150, .inl b)), (q 8, .inl (E.2.1 0, 68, .inl w)), (q 9, .inl (E.2.1 0, 2, .inl (upd (upd vs 1 (-1)) 0 (nI (tV T L (tE T L i))))))] 0 12 rfl rfl (by decide) rfl (Nat.le_of_ble_eq_true rfl) rfl rfl rfl rfl rfl ?_
    refine g_if_eqB (tgt := 49) hC dX12_takesBears_25 (by decide) (fun h_25 => ?_) (fun h_25 => ?_)
    · cases h_25
    · have hv1 : tV T L (tE T L i) < n := by have := hy1; simp [nmO] at this; exact this.2
      refine g_iload_n hC dX12_takesBears_28 rfl 1 rfl ?_
      refine g_if_neB (tgt := 51) hC dX12_takesBears_29 (by decide) (fun h_29 => ?_) (fun h_29 => ?_)
      · refine g_aload_n hC dX12_takesBears_51 rfl 0 rfl ?_
        refine g_get hC 0 12 17 inX12 m3_225 dX12_takesBears_52 rfl rfl (by decide) rfl ?_
        refine g_iconst (v := (nI 5)) hC dX12_takesBears_55 (by decide) ?_
        refine g_aload_n hC dX12_takesBears_56 rfl 0 rfl ?_
        refine g_get hC 0 12 18 inX12 m3_226 dX12_takesBears_57 rfl rfl (by decide) rfl ?_
        refine g_iconst (v := (nI 0)) hC dX12_takesBears_60 (by decide) ?_
        refine g_ialdN hC 3 dX12_takesBears_61 rfl (by decide) (by omega) ?_
        refine g_val (v' := .int (nI (tV T L (tE T L i)))) (by rw [upd_s]) ?_
        refine g_iaddN hC dX12_takesBears_62 ?_
        refine g_aload_n hC dX12_takesBears_63 rfl 0 rfl ?_
        refine g_get hC 0 12 18 inX12 m3_226 dX12_takesBears_64 rfl rfl (by decide) rfl ?_
        refine g_iconst (v := (nI 1)) hC dX12_takesBears_67 (by decide) ?_
        refine g_ialdN hC 3 dX12_takesBears_68 rfl (by decide) (by omega) ?_
        refine g_val (v' := .int (-1)) (by rw [upd_n (by decide), upd_s]) ?_
        refine g_iastN hC 2 [(q 0, .inr (12, oM q ab be fe fc mo (nI L) (nI (tA T L (tE T L (tE T L i)))) (nI (tE T L (tE T L (tE T L i)) - tA T L (tE T L (tE T L i)))) (nI (tK T L (tE T L (tE T L i)))) (nI (tV T L (tE T L (tE T L i)))))), (q 7, .inl (E.2.1 0, 150, .inl b)), (q 8, .inl (E.2.1 0, 68, .inl (upd w (5 + (tV T L (tE T L i))) (-1)))), (q 9, .inl (E.2.1 0, 2, .inl (upd (upd vs 1 (-1)) 0 (nI (tV T L (tE T L i))))))] dX12_takesBears_69 rfl (by decide) (by omega) rfl ?_
        refine g_iconst (v := (nI 1)) hC dX12_takesBears_70 (by decide) ?_
        exact g_val (by unfold pZ; rw [if_neg (by rw [hy1]; decide)] <;> rfl) (g_ws (by unfold pZ; rw [if_neg (by rw [hy1]; decide)] <;> rfl) (hR (fun jx => (upd (upd vs 1 (-1)) 0 (nI (tV T L (tE T L i))))) _ _ dX12_takesBears_71))
      · cases h_29
  · have hy1 : nmO T L (tE T L i) n = false := by simpa using hy1
    refine g_aload_n hC dX12_takesBears_11 rfl 0 rfl ?_
    refine g_iconst (v := (nI 0)) hC dX12_takesBears_12 (by decide) ?_
    refine g_iconst (v := (nI 0)) hC dX12_takesBears_13 (by decide) ?_
    refine g_aload_n hC dX12_takesBears_14 rfl 0 rfl ?_
    refine g_get hC 0 12 17 inX12 m3_225 dX12_takesBears_15 rfl rfl (by decide) rfl ?_
    refine g_iconst (v := (nI 0)) hC dX12_takesBears_18 (by decide) ?_
    refine g_ialdN hC 2 dX12_takesBears_19 rfl (by decide) (by omega) ?_
    refine g_val (v' := .int (nI n)) (by rw [hn]) ?_
    refine g_iconst (v := (nI 1)) hC dX12_takesBears_20 (by decide) ?_
    refine g_isub hC dX12_takesBears_21 ?_
    refine g_callV hC (f_X12_takes_n (kl K) E q ab be fe fc mo b T L (tE T L i) (upd vs 1 (-1)) 0 ((nI n) - (nI 1)) n (by omega) (hT) (tE_le hi) (by omega) (nm1_toInt hn7) (hy1)) wX12_takes m5_35 dX12_takesBears_22 [0, 1, 3] [(q 0, .inr (12, oM q ab be fe fc mo (nI L) (nI (tA T L (tE T L i))) (nI (tE T L (tE T L i) - tA T L (tE T L i))) (nI (tK T L (tE T L i))) (nI (tV T L (tE T L i))))), (q 7, .inl (E.2.1 0, 150, .inl b)), (q 8, .inl (E.2.1 0, 68, .inl w)), (q 9, .inl (E.2.1 0, 2, .inl (upd vs 1 (-1))))] 0 12 rfl rfl (by decide) rfl (Nat.le_of_ble_eq_true rfl) rfl rfl rfl rfl rfl ?_
    refine g_if_eqB (tgt := 49) hC dX12_takesBears_25 (by decide) (fun h_25 => ?_) (fun h_25 => ?_)
    · refine g_iconst (v := (nI 0)) hC dX12_takesBears_49 (by decide) ?_
      exact g_val (by unfold pZ; rw [if_pos hy1] <;> rfl) (g_ws (by unfold pZ; rw [if_pos hy1] <;> rfl) (hR (fun jx => (upd vs 1 (-1))) _ _ dX12_takesBears_50))
    · cases h_25
set_option maxHeartbeats 4000000 in
set_option maxRecDepth 100000 in
theorem f_X12_takesItem (l : Launch) (E : Ew) (q : Nat → Nat) (ab : Int64) (be : Int64) (fe : Int32) (fc : Int32) (mo : Int32) (b : Nat → Int32) (T : Nat → Nat) (L : Nat) (i : Nat) (w : Nat → Int32) (vs : Nat → Int32) (n : Nat) (hL : L ≤ 150) (hT : ∀ j, j < L → b j = nI (T j) ∧ T j < 128) (hi : i ≤ L) (hn : w 0 = nI n) (hn7 : n ≤ 7) : Fe l E 6 yX12_takesItem cX12_takesItem 1 (some .boolean) [.ref (q 0)] [(q 0, .inr (12, oM q ab be fe fc mo (nI L) (nI (tA T L i)) (nI (tE T L i - tA T L i)) (nI (tK T L i)) (nI (tV T L i)))), (q 7, .inl (E.2.1 0, 150, .inl b)), (q 8, .inl (E.2.1 0, 68, .inl w)), (q 9, .inl (E.2.1 0, 2, .inl vs))] (some (.int (bI ((pI T L i w n).1)))) (fun jj => [(q 0, .inr (12, oM q ab be fe fc mo (nI L) (nI (tA T L ((pI T L i w n).2.1))) (nI (tE T L ((pI T L i w n).2.1) - tA T L ((pI T L i w n).2.1))) (nI (tK T L ((pI T L i w n).2.1))) (nI (tV T L ((pI T L i w n).2.1))))), (q 7, .inl (E.2.1 0, 150, .inl b)), (q 8, .inl (E.2.1 0, 68, .inl ((pI T L i w n).2.2))), (q 9, .inl (E.2.1 0, 2, .inl (jj 0)))]) := by
  refine fe_Z (by decide) (Nat.le_of_ble_eq_true rfl) (fun _ => rfl) (nar_bI _) ?_
  intro K hC hR
  show G K E 1 [(q 0, .inr (12, oM q ab be fe fc mo (nI L) (nI (tA T L i)) (nI (tE T L i - tA T L i)) (nI (tK T L i)) (nI (tV T L i)))), (q 7, .inl (E.2.1 0, 150, .inl b)), (q 8, .inl (E.2.1 0, 68, .inl w)), (q 9, .inl (E.2.1 0, 2, .inl vs))] [(0, .ref (q 0))] 0 []
  refine g_aload_n hC dX12_takesItem_0 rfl 0 rfl ?_
  refine g_iconst (v := (nI 3)) hC dX12_takesItem_1 (by decide) ?_
  refine g_bipush (v := (nI 111)) hC dX12_takesItem_2 (by decide) ?_
  refine g_bipush (v := (nI 110)) hC dX12_takesItem_4 (by decide) ?_
  refine g_bipush (v := (nI 101)) hC dX12_takesItem_6 (by decide) ?_
  refine g_iconst (v := (nI 0)) hC dX12_takesItem_8 (by decide) ?_
  refine g_iconst (v := (nI 0)) hC dX12_takesItem_9 (by decide) ?_
  refine g_iconst (v := (nI 0)) hC dX12_takesItem_10 (by decide) ?_
  refine g_callV hC (f_X12_spells (kl K) E q ab be fe fc mo b T L i 3 111 110 101 0 0 0 (by omega) (hT) (by omega) (by omega) (by omega) (by omega) (by omega) (by omega) (by omega) (by omega)) wX12_spells m5_27 dX12_takesItem_11 [0, 1] [(q 0, .inr (12, oM q ab be fe fc mo (nI L) (nI (tA T L i)) (nI (tE T L i - tA T L i)) (nI (tK T L i)) (nI (tV T L i)))), (q 7, .inl (E.2.1 0, 150, .inl b)), (q 8, .inl (E.2.1 0, 68, .inl w)), (q 9, .inl (E.2.1 0, 2, .inl vs))] 0 12 rfl rfl (by decide) rfl (Nat.le_of_ble_eq_true rfl) rfl rfl rfl rfl rfl ?_
  refine g_val (v' := .int (bI (isOnW T L i))) (rfl) ?_
  refine g_if_eqB (tgt := 22) hC dX12_takesItem_14 (by decide) (fun h_14 => ?_) (fun h_14 => ?_)
  · refine g_aload_n hC dX12_takesItem_22 rfl 0 rfl ?_
    refine g_iconst (v := (nI 5)) hC dX12_takesItem_23 (by decide) ?_
    refine g_bipush (v := (nI 98)) hC dX12_takesItem_24 (by decide) ?_
    refine g_bipush (v := (nI 101)) hC dX12_takesItem_26 (by decide) ?_
    refine g_bipush (v := (nI 97)) hC dX12_takesItem_28 (by decide) ?_
    refine g_bipush (v := (nI 114)) hC dX12_takesItem_30 (by decide) ?_
    refine g_bipush (v := (nI 115)) hC dX12_takesItem_32 (by decide) ?_
    refine g_iconst (v := (nI 0)) hC dX12_takesItem_34 (by decide) ?_
    refine g_callV hC (f_X12_spells (kl K) E q ab be fe fc mo b T L i 5 98 101 97 114 115 0 (by omega) (hT) (by omega) (by omega) (by omega) (by omega) (by omega) (by omega) (by omega) (by omega)) wX12_spells m5_27 dX12_takesItem_35 [0, 1] [(q 0, .inr (12, oM q ab be fe fc mo (nI L) (nI (tA T L i)) (nI (tE T L i - tA T L i)) (nI (tK T L i)) (nI (tV T L i)))), (q 7, .inl (E.2.1 0, 150, .inl b)), (q 8, .inl (E.2.1 0, 68, .inl w)), (q 9, .inl (E.2.1 0, 2, .inl vs))] 0 12 rfl rfl (by decide) rfl (Nat.le_of_ble_eq_true rfl) rfl rfl rfl rfl rfl ?_
    refine g_val (v' := .int (bI (isBea T L i))) (rfl) ?_
    refine g_if_eqB (tgt := 47) hC dX12_takesItem_38 (by decide) (fun h_38 => ?_) (fun h_38 => ?_)
    · refine g_aload_n hC dX12_takesItem_47 rfl 0 rfl ?_
      refine g_iconst (v := (nI 4)) hC dX12_takesItem_48 (by decide) ?_
      refine g_bipush (v := (nI 110)) hC dX12_takesItem_49 (by decide) ?_
      refine g_bipush (v := (nI 111)) hC dX12_takesItem_51 (by decide) ?_
      refine g_bipush (v := (nI 110)) hC dX12_takesItem_53 (by decide) ?_
      refine g_bipush (v := (nI 101)) hC dX12_takesItem_55 (by decide) ?_
      refine g_iconst (v := (nI 0)) hC dX12_takesItem_57 (by decide) ?_
      refine g_iconst (v := (nI 0)) hC dX12_takesItem_58 (by decide) ?_
      refine g_callV hC (f_X12_spells (kl K) E q ab be fe fc mo b T L i 4 110 111 110 101 0 0 (by omega) (hT) (by omega) (by omega) (by omega) (by omega) (by omega) (by omega) (by omega) (by omega)) wX12_spells m5_27 dX12_takesItem_59 [0, 1] [(q 0, .inr (12, oM q ab be fe fc mo (nI L) (nI (tA T L i)) (nI (tE T L i - tA T L i)) (nI (tK T L i)) (nI (tV T L i)))), (q 7, .inl (E.2.1 0, 150, .inl b)), (q 8, .inl (E.2.1 0, 68, .inl w)), (q 9, .inl (E.2.1 0, 2, .inl vs))] 0 12 rfl rfl (by decide) rfl (Nat.le_of_ble_eq_true rfl) rfl rfl rfl rfl rfl ?_
      refine g_val (v' := .int (bI (isNon T L i))) (rfl) ?_
      refine g_if_eqB (tgt := 77) hC dX12_takesItem_62 (by decide) (fun h_62 => ?_) (fun h_62 => ?_)
      · refine g_iconst (v := (nI 0)) hC dX12_takesItem_77 (by decide) ?_
        exact g_val (by unfold pI; rw [if_neg (by rw [h_14]; decide), if_neg (by rw [h_38]; decide), if_neg (by rw [h_62]; decide)] <;> rfl) (g_ws (by unfold pI; rw [if_neg (by rw [h_14]; decide), if_neg (by rw [h_38]; decide), if_neg (by rw [h_62]; decide)] <;> rfl) (hR (fun jx => vs) _ _ dX12_takesItem_78))
      · refine g_aload_n hC dX12_takesItem_65 rfl 0 rfl ?_
        refine g_iconst (v := (nI 1)) hC dX12_takesItem_66 (by decide) ?_
        refine g_callVE hC (f_X12_takesBears_none (kl K) E q ab be fe fc mo b T L i w vs n (by omega) (hT) (by omega) (hn) (by omega)) wX12_takesBears m5_47 dX12_takesItem_67 [0, 1, 2, 3] (fun jj => [(q 0, .inr (12, oM q ab be fe fc mo (nI L) (nI (tA T L ((pZ T L i w n).2.1))) (nI (tE T L ((pZ T L i w n).2.1) - tA T L ((pZ T L i w n).2.1))) (nI (tK T L ((pZ T L i w n).2.1))) (nI (tV T L ((pZ T L i w n).2.1))))), (q 7, .inl (E.2.1 0, 150, .inl b)), (q 8, .inl (E.2.1 0, 68, .inl ((pZ T L i w n).2.2))), (q 9, .inl (E.2.1 0, 2, .inl (jj 0)))]) 0 12 rfl rfl (by decide) rfl (Nat.le_of_ble_eq_true rfl) rfl rfl rfl (fun _ => rfl) (fun _ => rfl) (fun jj_67 => ?_)
        refine g_if_eqB (tgt := 77) hC dX12_takesItem_70 (by decide) (fun h_70 => ?_) (fun h_70 => ?_)
        · refine g_iconst (v := (nI 0)) hC dX12_takesItem_77 (by decide) ?_
          exact g_val (by unfold pI; rw [if_neg (by rw [h_14]; decide), if_neg (by rw [h_38]; decide), if_pos h_62]; exact bI_0e h_70) (g_ws (by unfold pI; rw [if_neg (by rw [h_14]; decide), if_neg (by rw [h_38]; decide), if_pos h_62] <;> rfl) (hR (fun jx => (jj_67 0)) _ _ dX12_takesItem_78))
        · refine g_iconst (v := (nI 1)) hC dX12_takesItem_73 (by decide) ?_
          refine g_goto (tgt := 78) hC dX12_takesItem_74 (by decide) ?_
          exact g_val (by unfold pI; rw [if_neg (by rw [h_14]; decide), if_neg (by rw [h_38]; decide), if_pos h_62]; exact bI_1e h_70) (g_ws (by unfold pI; rw [if_neg (by rw [h_14]; decide), if_neg (by rw [h_38]; decide), if_pos h_62] <;> rfl) (hR (fun jx => (jj_67 0)) _ _ dX12_takesItem_78))
    · refine g_aload_n hC dX12_takesItem_41 rfl 0 rfl ?_
      refine g_iconst (v := (nI 0)) hC dX12_takesItem_42 (by decide) ?_
      refine g_callVE hC (f_X12_takesBears_bears (kl K) E q ab be fe fc mo b T L i w vs n (by omega) (hT) (by omega) (hn) (by omega)) wX12_takesBears m5_47 dX12_takesItem_43 [0, 1, 2, 3] (fun jj => [(q 0, .inr (12, oM q ab be fe fc mo (nI L) (nI (tA T L ((pR T L i w n).2.1))) (nI (tE T L ((pR T L i w n).2.1) - tA T L ((pR T L i w n).2.1))) (nI (tK T L ((pR T L i w n).2.1))) (nI (tV T L ((pR T L i w n).2.1))))), (q 7, .inl (E.2.1 0, 150, .inl b)), (q 8, .inl (E.2.1 0, 68, .inl ((pR T L i w n).2.2))), (q 9, .inl (E.2.1 0, 2, .inl (jj 0)))]) 0 12 rfl rfl (by decide) rfl (Nat.le_of_ble_eq_true rfl) rfl rfl rfl (fun _ => rfl) (fun _ => rfl) (fun jj_43 => ?_)
      exact g_val (by unfold pI; rw [if_neg (by rw [h_14]; decide), if_pos h_38] <;> rfl) (g_ws (by unfold pI; rw [if_neg (by rw [h_14]; decide), if_pos h_38] <;> rfl) (hR (fun jx => (jj_43 0)) _ _ dX12_takesItem_46))
  · refine g_aload_n hC dX12_takesItem_17 rfl 0 rfl ?_
    refine g_callVE hC (f_X12_takesOne (kl K) E q ab be fe fc mo b T L i w vs n (by omega) (hT) (by omega) (hn) (by omega)) wX12_takesOne m5_43 dX12_takesItem_18 [0, 1, 2, 3] (fun jj => [(q 0, .inr (12, oM q ab be fe fc mo (nI L) (nI (tA T L ((pO T L i w n).2.1))) (nI (tE T L ((pO T L i w n).2.1) - tA T L ((pO T L i w n).2.1))) (nI (tK T L ((pO T L i w n).2.1))) (nI (tV T L ((pO T L i w n).2.1))))), (q 7, .inl (E.2.1 0, 150, .inl b)), (q 8, .inl (E.2.1 0, 68, .inl ((pO T L i w n).2.2))), (q 9, .inl (E.2.1 0, 2, .inl (jj 0)))]) 0 12 rfl rfl (by decide) rfl (Nat.le_of_ble_eq_true rfl) rfl rfl rfl (fun _ => rfl) (fun _ => rfl) (fun jj_18 => ?_)
    exact g_val (by unfold pI; rw [if_pos h_14] <;> rfl) (g_ws (by unfold pI; rw [if_pos h_14] <;> rfl) (hR (fun jx => (jj_18 0)) _ _ dX12_takesItem_21))
set_option maxHeartbeats 4000000 in
set_option maxRecDepth 100000 in
theorem f_X12_read (l : Launch) (E : Ew) (q : Nat → Nat) (ab : Int64) (be : Int64) (fe : Int32) (fc : Int32) (mo : Int32) (ta : Int32) (tl : Int32) (tkn : Int32) (va : Int32) (b : Nat → Int32) (T : Nat → Nat) (L : Nat) (a : Nat → Int32) (e : Nat → Int32) (vs : Nat → Int32) (hL : L ≤ 150) (hT : ∀ j, j < L → b j = nI (T j) ∧ T j < 128) : Fe l E 7 yX12_read cX12_read 3 (some .int) [.ref (q 0)] [(q 0, .inr (12, oM q ab be fe fc mo (nI L) ta tl tkn va)), (q 1, .inl (E.2.1 0, 188, .inl a)), (q 7, .inl (E.2.1 0, 150, .inl b)), (q 8, .inl (E.2.1 0, 68, .inl e)), (q 9, .inl (E.2.1 0, 2, .inl vs))] (some (.int (rdR T L))) (fun jj => [(q 0, .inr (12, oM q ab be fe fc mo (nI L) (jj 2 0) (jj 3 0) (jj 4 0) (jj 5 0))), (q 1, .inl (E.2.1 0, 188, .inl (rdN T L a))), (q 7, .inl (E.2.1 0, 150, .inl b)), (q 8, .inl (E.2.1 0, 68, .inl (jj 0))), (q 9, .inl (E.2.1 0, 2, .inl (jj 1)))]) := by
  refine fe_I (by decide) (Nat.le_of_ble_eq_true rfl) (fun _ => rfl) ?_
  intro K hC hR
  show G K E 3 [(q 0, .inr (12, oM q ab be fe fc mo (nI L) ta tl tkn va)), (q 1, .inl (E.2.1 0, 188, .inl a)), (q 7, .inl (E.2.1 0, 150, .inl b)), (q 8, .inl (E.2.1 0, 68, .inl e)), (q 9, .inl (E.2.1 0, 2, .inl vs))] [(0, .ref (q 0))] 0 []
  have hm1 := hmP_w T L 0 e
  have hmi := hmP_in (T := T) (L := L) (i := 0) (w := e) (Nat.zero_le _)
  have hmk := tK_le T L (hmP T L 0 e).2.1
  refine g_aload_n hC dX12_read_0 rfl 0 rfl ?_
  refine g_iconst (v := (nI 0)) hC dX12_read_1 (by decide) ?_
  refine g_callV hC (f_X12_lookAt (kl K) E q ab be fe fc mo ta tl tkn va b T L 0 (by omega) (hT) (by omega)) wX12_lookAt m5_9 dX12_read_2 [0, 2] [(q 0, .inr (12, oM q ab be fe fc mo (nI L) (nI (tA T L 0)) (nI (tE T L 0 - tA T L 0)) (nI (tK T L 0)) (nI (tV T L 0)))), (q 1, .inl (E.2.1 0, 188, .inl a)), (q 7, .inl (E.2.1 0, 150, .inl b)), (q 8, .inl (E.2.1 0, 68, .inl e)), (q 9, .inl (E.2.1 0, 2, .inl vs))] 0 12 rfl rfl (by decide) rfl (Nat.le_of_ble_eq_true rfl) rfl rfl rfl rfl rfl ?_
  refine g_aload_n hC dX12_read_5 rfl 0 rfl ?_
  refine g_callVE hC (f_X12_takesHamlet (kl K) E q ab be fe fc mo b T L 0 e vs (by omega) (hT) (by omega)) wX12_takesHamlet m5_23 dX12_read_6 [0, 2, 3, 4] (fun jj => [(q 0, .inr (12, oM q ab be fe fc mo (nI L) (nI (tA T L ((hmP T L 0 e).2.1))) (nI (tE T L ((hmP T L 0 e).2.1) - tA T L ((hmP T L 0 e).2.1))) (nI (tK T L ((hmP T L 0 e).2.1))) (nI (tV T L ((hmP T L 0 e).2.1))))), (q 1, .inl (E.2.1 0, 188, .inl a)), (q 7, .inl (E.2.1 0, 150, .inl b)), (q 8, .inl (E.2.1 0, 68, .inl ((hmP T L 0 e).2.2))), (q 9, .inl (E.2.1 0, 2, .inl (jj 0)))]) 0 12 rfl rfl (by decide) rfl (Nat.le_of_ble_eq_true rfl) rfl rfl rfl (fun _ => rfl) (fun _ => rfl) (fun jj_6 => ?_)
  refine g_if_neB (tgt := 20) hC dX12_read_9 (by decide) (fun h_9 => ?_) (fun h_9 => ?_)
  · refine g_aload_n hC dX12_read_20 rfl 0 rfl ?_
    refine g_callV hC (f_X12_goBehind (kl K) E q ab be fe fc mo b T L ((hmP T L 0 e).2.1) (by omega) (hT) (hmi.2)) wX12_goBehind m5_31 dX12_read_21 [0, 2] [(q 0, .inr (12, oM q ab be fe fc mo (nI L) (nI (tA T L (tE T L ((hmP T L 0 e).2.1)))) (nI (tE T L (tE T L ((hmP T L 0 e).2.1)) - tA T L (tE T L ((hmP T L 0 e).2.1)))) (nI (tK T L (tE T L ((hmP T L 0 e).2.1)))) (nI (tV T L (tE T L ((hmP T L 0 e).2.1)))))), (q 1, .inl (E.2.1 0, 188, .inl a)), (q 7, .inl (E.2.1 0, 150, .inl b)), (q 8, .inl (E.2.1 0, 68, .inl ((hmP T L 0 e).2.2))), (q 9, .inl (E.2.1 0, 2, .inl (jj_6 0)))] 0 12 rfl rfl (by decide) rfl (Nat.le_of_ble_eq_true rfl) rfl rfl rfl rfl rfl ?_
    refine g_iconst (v := (nI 1)) hC dX12_read_24 (by decide) ?_
    refine g_istore_n hC [(1, .int (nI 1)), (0, .ref (q 0))] dX12_read_25 rfl (by decide) rfl ?_
    have L_26 : ∀ (fu : Nat) (m : Nat) (i : Nat) (w : Nat → Int32) (v2 : Nat → Int32) (f : Nat) (hi : i ≤ L) (hw : isN (w 0) 8) (hf : L + 1 ≤ f + i) (hpl : pL T L f i w m = rdP T L), f < fu → G K E 3 [(q 0, .inr (12, oM q ab be fe fc mo (nI L) (nI (tA T L i)) (nI (tE T L i - tA T L i)) (nI (tK T L i)) (nI (tV T L i)))), (q 1, .inl (E.2.1 0, 188, .inl a)), (q 7, .inl (E.2.1 0, 150, .inl b)), (q 8, .inl (E.2.1 0, 68, .inl w)), (q 9, .inl (E.2.1 0, 2, .inl v2))] [(1, .int (nI m)), (0, .ref (q 0))] 26 [] := by
      intro fu
      induction fu with
      | zero => intro m i w v2 f hi hw hf hpl hm_26; exact absurd hm_26 (Nat.not_lt_zero _)
      | succ fu ih_26 =>
        intro m i w v2 f hi hw hf hpl hm_26
        have hk4 := tK_le T L i
        refine g_aload_n hC dX12_read_26 rfl 1 rfl ?_
        refine g_get hC 0 12 15 inX12 m3_223 dX12_read_27 rfl rfl (by decide) rfl ?_
        refine g_if_eqN (tgt := 66) hC dX12_read_30 (by decide) (by omega) (fun h_30 => ?_) (fun h_30 => ?_)
        · refine g_iconst (v := (nI 0)) hC dX12_read_66 (by decide) ?_
          refine g_istore_n hC [(2, .int (nI 0)), (1, .int (nI m)), (0, .ref (q 0))] dX12_read_67 rfl (by decide) rfl ?_
          have L_68 : ∀ (fu : Nat) (k : Nat) (hk : k ≤ 68), 68 - k < fu → G K E 3 [(q 0, .inr (12, oM q ab be fe fc mo (nI L) (nI (tA T L i)) (nI (tE T L i - tA T L i)) (nI (tK T L i)) (nI (tV T L i)))), (q 1, .inl (E.2.1 0, 188, .inl (nw a w k))), (q 7, .inl (E.2.1 0, 150, .inl b)), (q 8, .inl (E.2.1 0, 68, .inl w)), (q 9, .inl (E.2.1 0, 2, .inl v2))] [(2, .int (nI k)), (1, .int (nI m)), (0, .ref (q 0))] 68 [] := by
            intro fu
            induction fu with
            | zero => intro k hk hm_68; exact absurd hm_68 (Nat.not_lt_zero _)
            | succ fu ih_68 =>
              intro k hk hm_68
              refine g_iload_n hC dX12_read_68 rfl 0 rfl ?_
              refine g_bipush (v := (nI 68)) hC dX12_read_69 (by decide) ?_
              refine g_icmp_geN (tgt := 92) hC dX12_read_71 (by decide) (by omega) (by omega) (fun h_71 => ?_) (fun h_71 => ?_)
              · refine g_iload_n hC dX12_read_92 rfl 1 rfl ?_
                exact g_val (by rw [rdR_y (p := m) (w := w) (by rw [← hpl, show f = (f - 1) + 1 by omega, pL, if_pos h_30])]) (g_ws (by rw [rdN_y (p := m) (w := w) (by rw [← hpl, show f = (f - 1) + 1 by omega, pL, if_pos h_30]), show k = 68 by omega] <;> rfl) (hR (fun jx => if jx = 0 then w else if jx = 1 then v2 else if jx = 2 then (fun _ => (nI (tA T L i))) else if jx = 3 then (fun _ => (nI (tE T L i - tA T L i))) else if jx = 4 then (fun _ => (nI (tK T L i))) else (fun _ => (nI (tV T L i)))) _ _ dX12_read_93))
              · refine g_aload_n hC dX12_read_74 rfl 2 rfl ?_
                refine g_get hC 0 12 0 inX12 m3_208 dX12_read_75 rfl rfl (by decide) rfl ?_
                refine g_iload_n hC dX12_read_78 rfl 0 rfl ?_
                refine g_aload_n hC dX12_read_79 rfl 2 rfl ?_
                refine g_get hC 0 12 17 inX12 m3_225 dX12_read_80 rfl rfl (by decide) rfl ?_
                refine g_iload_n hC dX12_read_83 rfl 0 rfl ?_
                refine g_ialdN hC 3 dX12_read_84 rfl (by decide) (by omega) ?_
                refine g_iastN hC 1 [(q 0, .inr (12, oM q ab be fe fc mo (nI L) (nI (tA T L i)) (nI (tE T L i - tA T L i)) (nI (tK T L i)) (nI (tV T L i)))), (q 1, .inl (E.2.1 0, 188, .inl (upd (nw a w k) k (w k)))), (q 7, .inl (E.2.1 0, 150, .inl b)), (q 8, .inl (E.2.1 0, 68, .inl w)), (q 9, .inl (E.2.1 0, 2, .inl v2))] dX12_read_85 rfl (by decide) (by omega) rfl ?_
                refine g_iincN hC (q := 0) 1 [(2, .int (nI (k + 1))), (1, .int (nI m)), (0, .ref (q 0))] dX12_read_86 rfl rfl (by decide) rfl ?_
                refine g_goto (tgt := 68) hC dX12_read_89 (by decide) ?_
                refine g_lv (lv' := [(2, .int (nI (k + 1))), (1, .int (nI m)), (0, .ref (q 0))]) [0, 1, 2] rfl ?_
                refine g_ws (ws' := [(q 0, .inr (12, oM q ab be fe fc mo (nI L) (nI (tA T L i)) (nI (tE T L i - tA T L i)) (nI (tK T L i)) (nI (tV T L i)))), (q 1, .inl (E.2.1 0, 188, .inl (nw a w (k + 1)))), (q 7, .inl (E.2.1 0, 150, .inl b)), (q 8, .inl (E.2.1 0, 68, .inl w)), (q 9, .inl (E.2.1 0, 2, .inl v2))]) (by rw [nw_s]) ?_
                exact ih_68 (k + 1) (by omega) (by omega)
          refine g_lv (lv' := [(2, .int (nI 0)), (1, .int (nI m)), (0, .ref (q 0))]) [0, 1, 2] rfl ?_
          refine g_ws (ws' := [(q 0, .inr (12, oM q ab be fe fc mo (nI L) (nI (tA T L i)) (nI (tE T L i - tA T L i)) (nI (tK T L i)) (nI (tV T L i)))), (q 1, .inl (E.2.1 0, 188, .inl (nw a w 0))), (q 7, .inl (E.2.1 0, 150, .inl b)), (q 8, .inl (E.2.1 0, 68, .inl w)), (q 9, .inl (E.2.1 0, 2, .inl v2))]) (by rw [nw_0]) ?_
          exact L_68 ((68 - 0) + 1) 0 (by omega) (Nat.lt_succ_self _)
        · have hk4 := tK_le T L (pI T L i w (tn (w 0))).2.1
          have hf1 : f = (f - 1) + 1 := by omega
          have hpi := pI_in (T := T) (L := L) (n := tn (w 0)) (w := w) hi
          rw [hf1, pL, if_neg h_30] at hpl
          refine g_aload_n hC dX12_read_33 rfl 1 rfl ?_
          refine g_callVE hC (f_X12_takesItem (kl K) E q ab be fe fc mo b T L i w v2 (tn (w 0)) (by omega) (hT) (by omega) (hw.1) (by have := hw.2; omega)) wX12_takesItem m5_39 dX12_read_34 [0, 2, 3, 4] (fun jj => [(q 0, .inr (12, oM q ab be fe fc mo (nI L) (nI (tA T L ((pI T L i w (tn (w 0))).2.1))) (nI (tE T L ((pI T L i w (tn (w 0))).2.1) - tA T L ((pI T L i w (tn (w 0))).2.1))) (nI (tK T L ((pI T L i w (tn (w 0))).2.1))) (nI (tV T L ((pI T L i w (tn (w 0))).2.1))))), (q 1, .inl (E.2.1 0, 188, .inl a)), (q 7, .inl (E.2.1 0, 150, .inl b)), (q 8, .inl (E.2.1 0, 68, .inl ((pI T L i w (tn (w 0))).2.2))), (q 9, .inl (E.2.1 0, 2, .inl (jj 0)))]) 0 12 rfl rfl (by decide) rfl (Nat.le_of_ble_eq_true rfl) rfl rfl rfl (fun _ => rfl) (fun _ => rfl) (fun jj_34 => ?_)
          refine g_if_eqB (tgt := 48) hC dX12_read_37 (by decide) (fun h_37 => ?_) (fun h_37 => ?_)
          · refine g_bipush (v := (-10)) hC dX12_read_48 (by decide) ?_
            refine g_aload_n hC dX12_read_50 rfl 1 rfl ?_
            refine g_get hC 0 12 13 inX12 m3_221 dX12_read_51 rfl rfl (by decide) rfl ?_
            refine g_isub hC dX12_read_54 ?_
            exact g_val (by rw [rdR_n (p := tA T L (pI T L i w (tn (w 0))).2.1) (w := w) (by rw [← hpl, if_pos h_37])]) (g_ws (by rw [rdN_n (p := tA T L (pI T L i w (tn (w 0))).2.1) (w := w) (by rw [← hpl, if_pos h_37])] <;> rfl) (hR (fun jx => if jx = 0 then ((pI T L i w (tn (w 0))).2.2) else if jx = 1 then (jj_34 0) else if jx = 2 then (fun _ => (nI (tA T L ((pI T L i w (tn (w 0))).2.1)))) else if jx = 3 then (fun _ => (nI (tE T L ((pI T L i w (tn (w 0))).2.1) - tA T L ((pI T L i w (tn (w 0))).2.1)))) else if jx = 4 then (fun _ => (nI (tK T L ((pI T L i w (tn (w 0))).2.1)))) else (fun _ => (nI (tV T L ((pI T L i w (tn (w 0))).2.1))))) _ _ dX12_read_55))
          · refine g_aload_n hC dX12_read_40 rfl 1 rfl ?_
            refine g_get hC 0 12 15 inX12 m3_223 dX12_read_41 rfl rfl (by decide) rfl ?_
            refine g_iconst (v := (nI 3)) hC dX12_read_44 (by decide) ?_
            refine g_icmp_eqN (tgt := 56) hC dX12_read_45 (by decide) (by omega) (by omega) (fun h_45 => ?_) (fun h_45 => ?_)
            · refine g_aload_n hC dX12_read_56 rfl 1 rfl ?_
              refine g_callV hC (f_X12_goBehind (kl K) E q ab be fe fc mo b T L ((pI T L i w (tn (w 0))).2.1) (by omega) (hT) ((pI_in hi).2)) wX12_goBehind m5_31 dX12_read_57 [0, 2] [(q 0, .inr (12, oM q ab be fe fc mo (nI L) (nI (tA T L (tE T L ((pI T L i w (tn (w 0))).2.1)))) (nI (tE T L (tE T L ((pI T L i w (tn (w 0))).2.1)) - tA T L (tE T L ((pI T L i w (tn (w 0))).2.1)))) (nI (tK T L (tE T L ((pI T L i w (tn (w 0))).2.1)))) (nI (tV T L (tE T L ((pI T L i w (tn (w 0))).2.1)))))), (q 1, .inl (E.2.1 0, 188, .inl a)), (q 7, .inl (E.2.1 0, 150, .inl b)), (q 8, .inl (E.2.1 0, 68, .inl ((pI T L i w (tn (w 0))).2.2))), (q 9, .inl (E.2.1 0, 2, .inl (jj_34 0)))] 0 12 rfl rfl (by decide) rfl (Nat.le_of_ble_eq_true rfl) rfl rfl rfl rfl rfl ?_
              refine g_iincN hC (q := 0) 1 [(1, .int (nI (m + 1))), (0, .ref (q 0))] dX12_read_60 rfl rfl (by decide) rfl ?_
              refine g_goto (tgt := 26) hC dX12_read_63 (by decide) ?_
              refine g_lv (lv' := [(1, .int (nI (m + 1))), (0, .ref (q 0))]) [0, 1] rfl ?_
              exact ih_26 (m + 1) (tE T L (pI T L i w (tn (w 0))).2.1) ((pI T L i w (tn (w 0))).2.2) (jj_34 0) (f - 1) (tE_le (pI_in hi).2) (pI_0 hw.1 (by have := hw.2; omega)) (by have h1 := tK_3 h_45; have h2 := tA_ge T L (pI T L i w (tn (w 0))).2.1; omega) (by rw [if_neg (by rw [h_37]; decide), if_pos h_45] at hpl; exact hpl) (by omega)
            · refine g_bipush (v := (-10)) hC dX12_read_48 (by decide) ?_
              refine g_aload_n hC dX12_read_50 rfl 1 rfl ?_
              refine g_get hC 0 12 13 inX12 m3_221 dX12_read_51 rfl rfl (by decide) rfl ?_
              refine g_isub hC dX12_read_54 ?_
              exact g_val (by rw [rdR_n (p := tA T L (pI T L i w (tn (w 0))).2.1) (w := w) (by rw [← hpl, if_neg (show ¬ (pI T L i w (tn (w 0))).1 = false by rw [h_37]; decide), if_neg h_45])]) (g_ws (by rw [rdN_n (p := tA T L (pI T L i w (tn (w 0))).2.1) (w := w) (by rw [← hpl, if_neg (show ¬ (pI T L i w (tn (w 0))).1 = false by rw [h_37]; decide), if_neg h_45])] <;> rfl) (hR (fun jx => if jx = 0 then ((pI T L i w (tn (w 0))).2.2) else if jx = 1 then (jj_34 0) else if jx = 2 then (fun _ => (nI (tA T L ((pI T L i w (tn (w 0))).2.1)))) else if jx = 3 then (fun _ => (nI (tE T L ((pI T L i w (tn (w 0))).2.1) - tA T L ((pI T L i w (tn (w 0))).2.1)))) else if jx = 4 then (fun _ => (nI (tK T L ((pI T L i w (tn (w 0))).2.1)))) else (fun _ => (nI (tV T L ((pI T L i w (tn (w 0))).2.1))))) _ _ dX12_read_55))
    refine g_lv (lv' := [(1, .int (nI 1)), (0, .ref (q 0))]) [0, 1] rfl ?_
    exact L_26 ((L + 1) + 1) 1 (tE T L (hmP T L 0 e).2.1) ((hmP T L 0 e).2.2) (jj_6 0) (L + 1) (tE_le hmi.2) (hmP_0 h_9) (by omega) (by unfold rdP; rw [if_pos (hm1.1.symm.trans h_9), ← hm1.2.1, ← hm1.2.2 h_9]) (Nat.lt_succ_self _)
  · refine g_bipush (v := (-10)) hC dX12_read_12 (by decide) ?_
    refine g_aload_n hC dX12_read_14 rfl 0 rfl ?_
    refine g_get hC 0 12 13 inX12 m3_221 dX12_read_15 rfl rfl (by decide) rfl ?_
    refine g_isub hC dX12_read_18 ?_
    exact g_val (by rw [rdR_n (p := tA T L (hmP T L 0 e).2.1) (w := zz) (by unfold rdP; rw [if_neg (by rw [← hm1.1, h_9]; decide), ← hm1.2.1])]) (g_ws (by rw [rdN_n (p := tA T L (hmP T L 0 e).2.1) (w := zz) (by unfold rdP; rw [if_neg (by rw [← hm1.1, h_9]; decide), ← hm1.2.1])] <;> rfl) (hR (fun jx => if jx = 0 then ((hmP T L 0 e).2.2) else if jx = 1 then (jj_6 0) else if jx = 2 then (fun _ => (nI (tA T L ((hmP T L 0 e).2.1)))) else if jx = 3 then (fun _ => (nI (tE T L ((hmP T L 0 e).2.1) - tA T L ((hmP T L 0 e).2.1)))) else if jx = 4 then (fun _ => (nI (tK T L ((hmP T L 0 e).2.1)))) else (fun _ => (nI (tV T L ((hmP T L 0 e).2.1))))) _ _ dX12_read_19))
