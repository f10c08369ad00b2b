set_option maxHeartbeats 2000000 in
set_option maxRecDepth 100000 in
theorem j_deed {K : Kx} {E : Ew} {cc : ByteArray} {nL : Nat} {own : String} {x h dr g0 g1 q : Nat → Nat} {ws : va_W} (hC : Cx K E cc nL own 8) (hR : Rw E x h dr g0 g1 q ws) (p1 p2 : Int32) : Jt K E cc nL own (Rw E x h dr g0 g1 q) (x 0) (q 0) yX11_deed yX12_deed [.int p1, .int p2] ws := by
  refine Rw_el hR ?_
  intro ik r L sr sa en vl T ab be ao at1 an fw ft mt bh da n u v w kd pl bn dn dp nt ps da2 pe2 de2 no2 pa2 kd2 pl2 bn2 dn2 dp2 nt2 ps2 da3 pe3 de3 no3 pa3 kd3 pl3 bn3 dn3 dp3 nt3 ps3 da4 pe4 de4 no4 pa4 kd4 pl4 bn4 dn4 dp4 nt4 ps4 fe fc mo ta tl tkn va a kp g bg b e vs hw hH hda rL hT hI0 hI1
  subst hw
  subst hda
  obtain ⟨h0, h2, h3, h4, hu6, hv6, hw8, rB, rK, hDd, hNn, hPp⟩ := id hH
  have hn7 := rB.2.2
  have hbn := RB_lt rB
  have hb128 := RB_128 rB
  have hb31 := RB_31 rB
  have hkd : ∀ p, p < n → kd p < 6 := fun p hp => (rK p hp).2.2.1
  have hpl : ∀ p, p < n → pl p < 10 := fun p hp => (rK p hp).2.2.2
  have hpk := RH_pk rK
  have hu9 := RH_u9 h4 hw8
  have hnm := RH_nm rB
  have hddM := RH_dd hDd
  have hntM := RH_ntM hNn
  have hntC := RH_ntC hNn
  have hdn : ∀ k, k < u → dn k < 7 := fun k hk => (hDd k hk).2.2.1
  have hdp : ∀ k, k < u → dp k ≤ 60 := fun k hk => (hDd k hk).2.2.2
  have hTc : ∀ j, j < L → T j < 128 := fun j hj => (hT j hj).2
  by_cases hb : (inB p1 n && pB p2) = true
  · skip
    simp only [Bool.and_eq_true] at hb
    obtain ⟨hc1, hc2⟩ := hb
    obtain ⟨k1, hk1, rfl⟩ := inB_ex (by omega) hc1
    obtain ⟨k2, hk2, hk3, rfl⟩ := pB_ex hc2
    by_cases hf : u = 6
    · skip
      subst hf
      refine ⟨_, _, sc_V hC (f_X11_deed_full (kl K) E x h dr (a 1) (nI v) (nI w) n r k1 k2 (by first | assumption | omega) (by first | assumption | omega) (⟨hk2, hk3⟩)) wX11_deed [0, 20, 3] (WW E x h dr g0 g1 q ik (upd r 2 (r 2 + nI 1)) (nI L) sr sa en vl T ab be ao at1 an fw ft mt bh (a 1) (nI n) (nI 6) (nI v) (nI w) kd pl bn dn dp nt ps da2 pe2 de2 no2 pa2 kd2 pl2 bn2 dn2 dp2 nt2 ps2 da3 pe3 de3 no3 pa3 kd3 pl3 bn3 dn3 dp3 nt3 ps3 da4 pe4 de4 no4 pa4 kd4 pl4 bn4 dn4 dp4 nt4 ps4 ab be fe fc mo (nI L) ta tl tkn va a kp ik r g bg b e vs) 0 11 rfl rfl (by decide) rfl rfl rfl (by simp only [WW, wput, List.set]) rfl (rfl), ?_⟩
      rintro w1 rfl
      refine ⟨_, sc_V hC (f_X12_deed_full (kl K) E q ab be fe fc mo (nI L) ta tl tkn va a r n k1 k2 (by first | assumption | omega) (by first | assumption | omega) (by first | assumption | omega) (by first | assumption | omega) (by first | assumption | omega) (by first | assumption | omega)) wX12_deed [52, 53, 56] (WW E x h dr g0 g1 q ik (upd r 2 (r 2 + nI 1)) (nI L) sr sa en vl T ab be ao at1 an fw ft mt bh (a 1) (nI n) (nI 6) (nI v) (nI w) kd pl bn dn dp nt ps da2 pe2 de2 no2 pa2 kd2 pl2 bn2 dn2 dp2 nt2 ps2 da3 pe3 de3 no3 pa3 kd3 pl3 bn3 dn3 dp3 nt3 ps3 da4 pe4 de4 no4 pa4 kd4 pl4 bn4 dn4 dp4 nt4 ps4 ab be fe fc mo (nI L) ta tl tkn va a kp ik (upd r 2 (r 2 + nI 1)) g bg b e vs) 52 12 rfl rfl (by decide) rfl rfl rfl (by simp only [WW, wput, List.set]) rfl (rfl), ?_⟩
      rintro w2 rfl
      exact Rw_in (hH) (rfl) (rL) (hT) (hI0) (hI1)
    · skip
      refine ⟨_, _, sc_V hC (f_X11_deed_ok (kl K) E x h dr (a 1) (nI v) (nI w) n u dn dp k1 k2 (by first | assumption | omega) (by first | assumption | omega) (⟨hk2, hk3⟩) (by first | assumption | omega)) wX11_deed [0, 20, 24, 25] (WW E x h dr g0 g1 q ik r (nI L) sr sa en vl T ab be ao at1 an fw ft mt bh (a 1) (nI n) (nI (u + 1)) (nI v) (nI w) kd pl bn (un dn u k1) (un dp u k2) nt ps da2 pe2 de2 no2 pa2 kd2 pl2 bn2 dn2 dp2 nt2 ps2 da3 pe3 de3 no3 pa3 kd3 pl3 bn3 dn3 dp3 nt3 ps3 da4 pe4 de4 no4 pa4 kd4 pl4 bn4 dn4 dp4 nt4 ps4 ab be fe fc mo (nI L) ta tl tkn va a kp ik r g bg b e vs) 0 11 rfl rfl (by decide) rfl rfl rfl (by simp only [WW, wput, List.set]) rfl (rfl), ?_⟩
      rintro w1 rfl
      refine ⟨_, sc_V hC (f_X12_deed_ok (kl K) E q ab be fe fc mo (nI L) ta tl tkn va a r n u k1 k2 (by first | assumption | omega) (by first | assumption | omega) (by first | assumption | omega) (by first | assumption | omega) (by first | assumption | omega) (by first | assumption | omega) (by first | assumption | omega)) wX12_deed [52, 53, 56] (WW E x h dr g0 g1 q ik r (nI L) sr sa en vl T ab be ao at1 an fw ft mt bh (a 1) (nI n) (nI (u + 1)) (nI v) (nI w) kd pl bn (un dn u k1) (un dp u k2) nt ps da2 pe2 de2 no2 pa2 kd2 pl2 bn2 dn2 dp2 nt2 ps2 da3 pe3 de3 no3 pa3 kd3 pl3 bn3 dn3 dp3 nt3 ps3 da4 pe4 de4 no4 pa4 kd4 pl4 bn4 dn4 dp4 nt4 ps4 ab be fe fc mo (nI L) ta tl tkn va (ddF a k1 k2 u) kp ik r g bg b e vs) 52 12 rfl rfl (by decide) rfl rfl rfl (by simp only [WW, wput, List.set]) rfl (rfl), ?_⟩
      rintro w2 rfl
      exact Rw_in (RH_deed hH hk1 hk3 (by omega)) (ddF_1) (rL) (hT) (hI0) (hI1)
  · skip
    have hb := (Bool.not_eq_true _).mp hb
    refine ⟨_, _, sc_V hC (f_X11_deed_bad (kl K) E x h dr (a 1) (nI u) (nI v) (nI w) n r p1 p2 (by first | assumption | omega) (by first | assumption | omega)) wX11_deed [0, 20, 3] (WW E x h dr g0 g1 q ik (upd r 0 (r 0 + nI 1)) (nI L) sr sa en vl T ab be ao at1 an fw ft mt bh (a 1) (nI n) (nI u) (nI v) (nI w) kd pl bn dn dp nt ps da2 pe2 de2 no2 pa2 kd2 pl2 bn2 dn2 dp2 nt2 ps2 da3 pe3 de3 no3 pa3 kd3 pl3 bn3 dn3 dp3 nt3 ps3 da4 pe4 de4 no4 pa4 kd4 pl4 bn4 dn4 dp4 nt4 ps4 ab be fe fc mo (nI L) ta tl tkn va a kp ik r g bg b e vs) 0 11 rfl rfl (by decide) rfl rfl rfl (by simp only [WW, wput, List.set]) rfl (rfl), ?_⟩
    rintro w1 rfl
    refine ⟨_, sc_V hC (f_X12_deed_bad (kl K) E q ab be fe fc mo (nI L) ta tl tkn va a r n p1 p2 (by first | assumption | omega) (by first | assumption | omega) (by first | assumption | omega)) wX12_deed [52, 53, 56] (WW E x h dr g0 g1 q ik (upd r 0 (r 0 + nI 1)) (nI L) sr sa en vl T ab be ao at1 an fw ft mt bh (a 1) (nI n) (nI u) (nI v) (nI w) kd pl bn dn dp nt ps da2 pe2 de2 no2 pa2 kd2 pl2 bn2 dn2 dp2 nt2 ps2 da3 pe3 de3 no3 pa3 kd3 pl3 bn3 dn3 dp3 nt3 ps3 da4 pe4 de4 no4 pa4 kd4 pl4 bn4 dn4 dp4 nt4 ps4 ab be fe fc mo (nI L) ta tl tkn va a kp ik (upd r 0 (r 0 + nI 1)) g bg b e vs) 52 12 rfl rfl (by decide) rfl rfl rfl (by simp only [WW, wput, List.set]) rfl (rfl), ?_⟩
    rintro w2 rfl
    exact Rw_in (hH) (rfl) (rL) (hT) (hI0) (hI1)
set_option maxHeartbeats 2000000 in
set_option maxRecDepth 100000 in
theorem j_owes {K : Kx} {E : Ew} {cc : ByteArray} {nL : Nat} {own : String} {x h dr g0 g1 q : Nat → Nat} {ws : va_W} (hC : Cx K E cc nL own 8) (hR : Rw E x h dr g0 g1 q ws) (p1 : Int32) : Jt K E cc nL own (Rw E x h dr g0 g1 q) (x 0) (q 0) yX11_owes yX12_owes [.int p1] ws := by
  refine Rw_el hR ?_
  intro ik r L sr sa en vl T ab be ao at1 an fw ft mt bh da n u v w kd pl bn dn dp nt ps da2 pe2 de2 no2 pa2 kd2 pl2 bn2 dn2 dp2 nt2 ps2 da3 pe3 de3 no3 pa3 kd3 pl3 bn3 dn3 dp3 nt3 ps3 da4 pe4 de4 no4 pa4 kd4 pl4 bn4 dn4 dp4 nt4 ps4 fe fc mo ta tl tkn va a kp g bg b e vs hw hH hda rL hT hI0 hI1
  subst hw
  subst hda
  obtain ⟨h0, h2, h3, h4, hu6, hv6, hw8, rB, rK, hDd, hNn, hPp⟩ := id hH
  have hn7 := rB.2.2
  have hbn := RB_lt rB
  have hb128 := RB_128 rB
  have hb31 := RB_31 rB
  have hkd : ∀ p, p < n → kd p < 6 := fun p hp => (rK p hp).2.2.1
  have hpl : ∀ p, p < n → pl p < 10 := fun p hp => (rK p hp).2.2.2
  have hpk := RH_pk rK
  have hu9 := RH_u9 h4 hw8
  have hnm := RH_nm rB
  have hddM := RH_dd hDd
  have hntM := RH_ntM hNn
  have hntC := RH_ntC hNn
  have hdn : ∀ k, k < u → dn k < 7 := fun k hk => (hDd k hk).2.2.1
  have hdp : ∀ k, k < u → dp k ≤ 60 := fun k hk => (hDd k hk).2.2.2
  have hTc : ∀ j, j < L → T j < 128 := fun j hj => (hT j hj).2
  by_cases hb : (inB p1 n) = true
  · skip
    have hc1 := hb
    obtain ⟨k1, hk1, rfl⟩ := inB_ex (by omega) hc1
    by_cases hf : a (5 + k1) = -1
    · skip
      refine ⟨_, _, sc_V hC (f_X11_owes_none (kl K) E x h dr (a 1) (nI u) (nI v) (nI w) n bn ab be k1 (by first | assumption | omega) (by first | assumption | omega) (by first | assumption | omega) (by rw [RB_nm rB hk1]; exact hf)) wX11_owes [0, 20, 23, 6] (WW E x h dr g0 g1 q ik r (nI L) sr sa en vl T (lN 0) (lN 1) ao at1 an fw ft mt bh (a 1) (nI n) (nI u) (nI v) (nI w) kd pl bn dn dp nt ps da2 pe2 de2 no2 pa2 kd2 pl2 bn2 dn2 dp2 nt2 ps2 da3 pe3 de3 no3 pa3 kd3 pl3 bn3 dn3 dp3 nt3 ps3 da4 pe4 de4 no4 pa4 kd4 pl4 bn4 dn4 dp4 nt4 ps4 ab be fe fc mo (nI L) ta tl tkn va a kp ik r g bg b e vs) 0 11 rfl rfl (by decide) rfl rfl rfl (by simp only [WW, wput, List.set]) rfl (rfl), ?_⟩
      rintro w1 rfl
      refine ⟨_, sc_V hC (f_X12_owes_none (kl K) E q ab be fe fc mo (nI L) ta tl tkn va a r g n k1 (by first | assumption | omega) (by first | assumption | omega) (by first | assumption | omega) (hf)) wX12_owes [52, 53, 56, 57] (WW E x h dr g0 g1 q ik r (nI L) sr sa en vl T (lN 0) (lN 1) ao at1 an fw ft mt bh (a 1) (nI n) (nI u) (nI v) (nI w) kd pl bn dn dp nt ps da2 pe2 de2 no2 pa2 kd2 pl2 bn2 dn2 dp2 nt2 ps2 da3 pe3 de3 no3 pa3 kd3 pl3 bn3 dn3 dp3 nt3 ps3 da4 pe4 de4 no4 pa4 kd4 pl4 bn4 dn4 dp4 nt4 ps4 (lN 0) (lN 1) fe fc mo (nI L) ta tl tkn va a kp ik r (hnd a g n) bg b e vs) 52 12 rfl rfl (by decide) rfl rfl rfl (by simp only [WW, wput, List.set]) rfl (rfl), ?_⟩
      rintro w2 rfl
      exact Rw_in (hH) (rfl) (rL) (hT) (hI0) (hI1)
    · skip
      obtain ⟨m, hm, he⟩ : ∃ m, m < n ∧ a (5 + k1) = nI m := by
        rcases rB.2.1 k1 hk1 with q | q
        · exact absurd q hf
        · exact q
      have hmt : (bn m).testBit k1 = true := by rw [RB_tb rB (by omega), decide_eq_true hk1]; exact decide_eq_true he
      have e1 : pC dn dp m u = pN a (nI m) u := RD_pC (by omega) hDd
      have e2 : bn m = BO a (nI m) n := rB.1 m (by omega)
      refine ⟨_, _, sc_V hC (f_X11_owes_ok (kl K) E x h dr (a 1) (nI v) (nI w) n u bn dn dp ab be k1 m (by first | assumption | omega) (by first | assumption | omega) (by first | assumption | omega) (by first | assumption | omega) (by first | assumption | omega) (by first | assumption | omega) (by rw [RB_nm rB hk1]; exact he) (by first | assumption | omega) (by first | assumption | omega)) wX11_owes [0, 20, 23, 24, 25, 6] (WW E x h dr g0 g1 q ik r (nI L) sr sa en vl T (lN ((pC dn dp m u) / Nat.gcd (pC dn dp m u) (ct (bn m).testBit 31))) (lN ((ct (bn m).testBit 31) / Nat.gcd (pC dn dp m u) (ct (bn m).testBit 31))) ao at1 an fw ft mt bh (a 1) (nI n) (nI u) (nI v) (nI w) kd pl bn dn dp nt ps da2 pe2 de2 no2 pa2 kd2 pl2 bn2 dn2 dp2 nt2 ps2 da3 pe3 de3 no3 pa3 kd3 pl3 bn3 dn3 dp3 nt3 ps3 da4 pe4 de4 no4 pa4 kd4 pl4 bn4 dn4 dp4 nt4 ps4 ab be fe fc mo (nI L) ta tl tkn va a kp ik r g bg b e vs) 0 11 rfl rfl (by decide) rfl rfl rfl (by simp only [WW, wput, List.set]) rfl (rfl), ?_⟩
      rintro w1 rfl
      rw [e1, e2]
      refine ⟨_, sc_V hC (f_X12_owes_ok (kl K) E q ab be fe fc mo (nI L) ta tl tkn va a r g n k1 u m (by first | assumption | omega) (by first | assumption | omega) (by first | assumption | omega) (by first | assumption | omega) (by first | assumption | omega) (by first | assumption | omega) (by first | assumption | omega) (by first | assumption | omega)) wX12_owes [52, 53, 56, 57] (WW E x h dr g0 g1 q ik r (nI L) sr sa en vl T (lN ((pN a (nI m) u) / Nat.gcd (pN a (nI m) u) (ct (BO a (nI m) n).testBit 31))) (lN ((ct (BO a (nI m) n).testBit 31) / Nat.gcd (pN a (nI m) u) (ct (BO a (nI m) n).testBit 31))) ao at1 an fw ft mt bh (a 1) (nI n) (nI u) (nI v) (nI w) kd pl bn dn dp nt ps da2 pe2 de2 no2 pa2 kd2 pl2 bn2 dn2 dp2 nt2 ps2 da3 pe3 de3 no3 pa3 kd3 pl3 bn3 dn3 dp3 nt3 ps3 da4 pe4 de4 no4 pa4 kd4 pl4 bn4 dn4 dp4 nt4 ps4 (lN (pN a (nI m) u / Nat.gcd (pN a (nI m) u) (ct (BO a (nI m) n).testBit 31))) (lN (ct (BO a (nI m) n).testBit 31 / Nat.gcd (pN a (nI m) u) (ct (BO a (nI m) n).testBit 31))) fe fc mo (nI L) ta tl tkn va a kp ik r (hnd a g n) bg b e vs) 52 12 rfl rfl (by decide) rfl rfl rfl (by simp only [WW, wput, List.set]) rfl (rfl), ?_⟩
      rintro w2 rfl
      exact Rw_in (hH) (rfl) (rL) (hT) (hI0) (hI1)
  · skip
    have hb := (Bool.not_eq_true _).mp hb
    refine ⟨_, _, sc_V hC (f_X11_owes_bad (kl K) E x h dr (a 1) (nI u) (nI v) (nI w) n r p1 (by first | assumption | omega) (by first | assumption | omega)) wX11_owes [0, 20, 3] (WW E x h dr g0 g1 q ik (upd r 0 (r 0 + nI 1)) (nI L) sr sa en vl T ab be ao at1 an fw ft mt bh (a 1) (nI n) (nI u) (nI v) (nI w) kd pl bn dn dp nt ps da2 pe2 de2 no2 pa2 kd2 pl2 bn2 dn2 dp2 nt2 ps2 da3 pe3 de3 no3 pa3 kd3 pl3 bn3 dn3 dp3 nt3 ps3 da4 pe4 de4 no4 pa4 kd4 pl4 bn4 dn4 dp4 nt4 ps4 ab be fe fc mo (nI L) ta tl tkn va a kp ik r g bg b e vs) 0 11 rfl rfl (by decide) rfl rfl rfl (by simp only [WW, wput, List.set]) rfl (rfl), ?_⟩
    rintro w1 rfl
    refine ⟨_, sc_V hC (f_X12_owes_bad (kl K) E q ab be fe fc mo (nI L) ta tl tkn va a r n p1 (by first | assumption | omega) (by first | assumption | omega) (by first | assumption | omega)) wX12_owes [52, 53, 56] (WW E x h dr g0 g1 q ik (upd r 0 (r 0 + nI 1)) (nI L) sr sa en vl T ab be ao at1 an fw ft mt bh (a 1) (nI n) (nI u) (nI v) (nI w) kd pl bn dn dp nt ps da2 pe2 de2 no2 pa2 kd2 pl2 bn2 dn2 dp2 nt2 ps2 da3 pe3 de3 no3 pa3 kd3 pl3 bn3 dn3 dp3 nt3 ps3 da4 pe4 de4 no4 pa4 kd4 pl4 bn4 dn4 dp4 nt4 ps4 ab be fe fc mo (nI L) ta tl tkn va a kp ik (upd r 0 (r 0 + nI 1)) g bg b e vs) 52 12 rfl rfl (by decide) rfl rfl rfl (by simp only [WW, wput, List.set]) rfl (rfl), ?_⟩
    rintro w2 rfl
    exact Rw_in (hH) (rfl) (rL) (hT) (hI0) (hI1)
set_option maxHeartbeats 2000000 in
set_option maxRecDepth 100000 in
theorem j_unpaid {K : Kx} {E : Ew} {cc : ByteArray} {nL : Nat} {own : String} {x h dr g0 g1 q : Nat → Nat} {ws : va_W} (hC : Cx K E cc nL own 8) (hR : Rw E x h dr g0 g1 q ws) : Jt K E cc nL own (Rw E x h dr g0 g1 q) (x 0) (q 0) yX11_unpaid yX12_unpaid [] ws := by
  refine Rw_el hR ?_
  intro ik r L sr sa en vl T ab be ao at1 an fw ft mt bh da n u v w kd pl bn dn dp nt ps da2 pe2 de2 no2 pa2 kd2 pl2 bn2 dn2 dp2 nt2 ps2 da3 pe3 de3 no3 pa3 kd3 pl3 bn3 dn3 dp3 nt3 ps3 da4 pe4 de4 no4 pa4 kd4 pl4 bn4 dn4 dp4 nt4 ps4 fe fc mo ta tl tkn va a kp g bg b e vs hw hH hda rL hT hI0 hI1
  subst hw
  subst hda
  obtain ⟨h0, h2, h3, h4, hu6, hv6, hw8, rB, rK, hDd, hNn, hPp⟩ := id hH
  have hn7 := rB.2.2
  have hbn := RB_lt rB
  have hb128 := RB_128 rB
  have hb31 := RB_31 rB
  have hkd : ∀ p, p < n → kd p < 6 := fun p hp => (rK p hp).2.2.1
  have hpl : ∀ p, p < n → pl p < 10 := fun p hp => (rK p hp).2.2.2
  have hpk := RH_pk rK
  have hu9 := RH_u9 h4 hw8
  have hnm := RH_nm rB
  have hddM := RH_dd hDd
  have hntM := RH_ntM hNn
  have hntC := RH_ntC hNn
  have hdn : ∀ k, k < u → dn k < 7 := fun k hk => (hDd k hk).2.2.1
  have hdp : ∀ k, k < u → dp k ≤ 60 := fun k hk => (hDd k hk).2.2.2
  have hTc : ∀ j, j < L → T j < 128 := fun j hj => (hT j hj).2
  refine ⟨_, _, sc_V hC (f_X11_unpaid (kl K) E x h dr (a 1) (nI v) (nI w) n u bn dn dp (by first | assumption | omega) (by first | assumption | omega) (by first | assumption | omega) (by first | assumption | omega) (by first | assumption | omega)) wX11_unpaid [0, 20, 23, 24, 25] (WW E x h dr g0 g1 q ik r (nI L) sr sa en vl T ab be ao at1 an fw ft mt bh (a 1) (nI n) (nI u) (nI v) (nI w) kd pl bn dn dp nt ps da2 pe2 de2 no2 pa2 kd2 pl2 bn2 dn2 dp2 nt2 ps2 da3 pe3 de3 no3 pa3 kd3 pl3 bn3 dn3 dp3 nt3 ps3 da4 pe4 de4 no4 pa4 kd4 pl4 bn4 dn4 dp4 nt4 ps4 ab be fe fc mo (nI L) ta tl tkn va a kp ik r g bg b e vs) 0 11 rfl rfl (by decide) rfl rfl rfl (by simp only [WW, wput, List.set]) rfl (rfl), ?_⟩
  rintro w1 rfl
  refine ⟨_, sc_V hC (f_X12_unpaid (kl K) E q ab be fe fc mo (nI L) ta tl tkn va a r g n u (by first | assumption | omega) (by first | assumption | omega) (by first | assumption | omega) (by first | assumption | omega) (by first | assumption | omega)) wX12_unpaid [52, 53, 56, 57] (WW E x h dr g0 g1 q ik r (nI L) sr sa en vl T ab be ao at1 an fw ft mt bh (a 1) (nI n) (nI u) (nI v) (nI w) kd pl bn dn dp nt ps da2 pe2 de2 no2 pa2 kd2 pl2 bn2 dn2 dp2 nt2 ps2 da3 pe3 de3 no3 pa3 kd3 pl3 bn3 dn3 dp3 nt3 ps3 da4 pe4 de4 no4 pa4 kd4 pl4 bn4 dn4 dp4 nt4 ps4 ab be fe fc mo (nI L) ta tl tkn va a kp ik r (hnd a g n) bg b e vs) 52 12 rfl rfl (by decide) rfl rfl rfl (by simp only [WW, wput, List.set]) rfl (by rw [RD_up rB hDd n (Nat.le_refl n)]), ?_⟩
  rintro w2 rfl
  exact Rw_in (hH) (rfl) (rL) (hT) (hI0) (hI1)
set_option maxHeartbeats 2000000 in
set_option maxRecDepth 100000 in
theorem j_ears {K : Kx} {E : Ew} {cc : ByteArray} {nL : Nat} {own : String} {x h dr g0 g1 q : Nat → Nat} {ws : va_W} (hC : Cx K E cc nL own 8) (hR : Rw E x h dr g0 g1 q ws) (p1 p2 p3 p4 : Int32) : Jt K E cc nL own (Rw E x h dr g0 g1 q) (x 0) (q 0) yX11_ears yX12_ears [.int p1, .int p2, .int p3, .int p4] ws := by
  refine Rw_el hR ?_
  intro ik r L sr sa en vl T ab be ao at1 an fw ft mt bh da n u v w kd pl bn dn dp nt ps da2 pe2 de2 no2 pa2 kd2 pl2 bn2 dn2 dp2 nt2 ps2 da3 pe3 de3 no3 pa3 kd3 pl3 bn3 dn3 dp3 nt3 ps3 da4 pe4 de4 no4 pa4 kd4 pl4 bn4 dn4 dp4 nt4 ps4 fe fc mo ta tl tkn va a kp g bg b e vs hw hH hda rL hT hI0 hI1
  subst hw
  subst hda
  obtain ⟨h0, h2, h3, h4, hu6, hv6, hw8, rB, rK, hDd, hNn, hPp⟩ := id hH
  have hn7 := rB.2.2
  have hbn := RB_lt rB
  have hb128 := RB_128 rB
  have hb31 := RB_31 rB
  have hkd : ∀ p, p < n → kd p < 6 := fun p hp => (rK p hp).2.2.1
  have hpl : ∀ p, p < n → pl p < 10 := fun p hp => (rK p hp).2.2.2
  have hpk := RH_pk rK
  have hu9 := RH_u9 h4 hw8
  have hnm := RH_nm rB
  have hddM := RH_dd hDd
  have hntM := RH_ntM hNn
  have hntC := RH_ntC hNn
  have hdn : ∀ k, k < u → dn k < 7 := fun k hk => (hDd k hk).2.2.1
  have hdp : ∀ k, k < u → dp k ≤ 60 := fun k hk => (hDd k hk).2.2.2
  have hTc : ∀ j, j < L → T j < 128 := fun j hj => (hT j hj).2
  by_cases hb : (inB p1 n && inB p2 n && decide (¬ p1 = p2) && inB p3 n && inB p4 10) = true
  · skip
    simp only [Bool.and_eq_true] at hb
    obtain ⟨⟨⟨⟨hc1, hc2⟩, hc3⟩, hc4⟩, hc5⟩ := hb
    obtain ⟨k1, hk1, rfl⟩ := inB_ex (by omega) hc1
    obtain ⟨k2, hk2, rfl⟩ := inB_ex (by omega) hc2
    obtain ⟨k3, hk3, rfl⟩ := inB_ex (by omega) hc4
    obtain ⟨k4, hk4, rfl⟩ := inB_ex (by omega) hc5
    have hne : k1 ≠ k2 := fun q => (of_decide_eq_true hc3) (by rw [q])
    refine ⟨_, _, sc_V hC (f_X11_ears_ok (kl K) E x h dr (a 1) (nI u) (nI v) (nI w) n kd pl bn ao at1 an k1 k2 k3 k4 (by first | assumption | omega) (by first | assumption | omega) (by first | assumption | omega) (by first | assumption | omega) (by first | assumption | omega) (by first | assumption | omega) (by first | assumption | omega) (by first | assumption | omega) (by first | assumption | omega) (by first | assumption | omega)) wX11_ears [0, 7, 8, 14, 15, 16, 17, 18, 19, 9, 10, 11, 20, 21, 22, 23] (WW E x h dr g0 g1 q ik r (nI L) sr sa en vl T ab be (un ao k4 (hB kd pl k4 (a 1) true false n)) (un at1 k4 (hB kd pl k4 (a 1) false false n)) (un an k4 (hB kd pl k4 (a 1) false true n)) fw ft mt bh (a 1) (nI n) (nI u) (nI v) (nI w) kd pl bn dn dp nt ps da2 pe2 de2 no2 pa2 kd2 pl2 bn2 dn2 dp2 nt2 ps2 da3 pe3 de3 no3 pa3 kd3 pl3 bn3 dn3 dp3 nt3 ps3 da4 pe4 de4 no4 pa4 kd4 pl4 bn4 dn4 dp4 nt4 ps4 ab be fe fc mo (nI L) ta tl tkn va a kp ik r g bg b e vs) 0 11 rfl rfl (by decide) rfl rfl rfl (by simp only [WW, wput, List.set]) rfl (rfl), ?_⟩
    rintro w1 rfl
    refine ⟨_, sc_VE hC (f_X12_ears_ok (kl K) E q ab be fe fc mo (nI L) ta tl tkn va a r g bg n k1 k2 k3 k4 (by first | assumption | omega) (by first | assumption | omega) (by first | assumption | omega) (by first | assumption | omega) (by first | assumption | omega) (by first | assumption | omega) (by first | assumption | omega) (by first | assumption | omega)) wX12_ears [52, 53, 56, 57, 58] (fun jj => WW E x h dr g0 g1 q ik r (nI L) sr sa en vl T ab be (un ao k4 (hB kd pl k4 (a 1) true false n)) (un at1 k4 (hB kd pl k4 (a 1) false false n)) (un an k4 (hB kd pl k4 (a 1) false true n)) fw ft mt bh (a 1) (nI n) (nI u) (nI v) (nI w) kd pl bn dn dp nt ps da2 pe2 de2 no2 pa2 kd2 pl2 bn2 dn2 dp2 nt2 ps2 da3 pe3 de3 no3 pa3 kd3 pl3 bn3 dn3 dp3 nt3 ps3 da4 pe4 de4 no4 pa4 kd4 pl4 bn4 dn4 dp4 nt4 ps4 ab be fe fc mo (nI L) ta tl tkn va a kp ik r (jj 0) (jj 1) b e vs) 52 12 rfl rfl (by decide) rfl rfl rfl (fun jj => by simp only [WW, wput, List.set]) (fun _ => rfl) (by rw [RB_ears rB rK hk3]), ?_⟩
    rintro w2 ⟨jj2, rfl⟩
    exact Rw_in (hH) (rfl) (rL) (hT) (hI0) (hI1)
  · skip
    have hb := (Bool.not_eq_true _).mp hb
    refine ⟨_, _, sc_V hC (f_X11_ears_bad (kl K) E x h dr (a 1) (nI u) (nI v) (nI w) n r p1 p2 p3 p4 (by first | assumption | omega) (by first | assumption | omega)) wX11_ears [0, 20, 3] (WW E x h dr g0 g1 q ik (upd r 0 (r 0 + nI 1)) (nI L) sr sa en vl T ab be ao at1 an fw ft mt bh (a 1) (nI n) (nI u) (nI v) (nI w) kd pl bn dn dp nt ps da2 pe2 de2 no2 pa2 kd2 pl2 bn2 dn2 dp2 nt2 ps2 da3 pe3 de3 no3 pa3 kd3 pl3 bn3 dn3 dp3 nt3 ps3 da4 pe4 de4 no4 pa4 kd4 pl4 bn4 dn4 dp4 nt4 ps4 ab be fe fc mo (nI L) ta tl tkn va a kp ik r g bg b e vs) 0 11 rfl rfl (by decide) rfl rfl rfl (by simp only [WW, wput, List.set]) rfl (rfl), ?_⟩
    rintro w1 rfl
    refine ⟨_, sc_V hC (f_X12_ears_bad (kl K) E q ab be fe fc mo (nI L) ta tl tkn va a r n p1 p2 p3 p4 (by first | assumption | omega) (by first | assumption | omega) (by first | assumption | omega)) wX12_ears [52, 53, 56] (WW E x h dr g0 g1 q ik (upd r 0 (r 0 + nI 1)) (nI L) sr sa en vl T ab be ao at1 an fw ft mt bh (a 1) (nI n) (nI u) (nI v) (nI w) kd pl bn dn dp nt ps da2 pe2 de2 no2 pa2 kd2 pl2 bn2 dn2 dp2 nt2 ps2 da3 pe3 de3 no3 pa3 kd3 pl3 bn3 dn3 dp3 nt3 ps3 da4 pe4 de4 no4 pa4 kd4 pl4 bn4 dn4 dp4 nt4 ps4 ab be fe fc mo (nI L) ta tl tkn va a kp ik (upd r 0 (r 0 + nI 1)) g bg b e vs) 52 12 rfl rfl (by decide) rfl rfl rfl (by simp only [WW, wput, List.set]) rfl (rfl), ?_⟩
    rintro w2 rfl
    exact Rw_in (hH) (rfl) (rL) (hT) (hI0) (hI1)
set_option maxHeartbeats 2000000 in
set_option maxRecDepth 100000 in
theorem j_note {K : Kx} {E : Ew} {cc : ByteArray} {nL : Nat} {own : String} {x h dr g0 g1 q : Nat → Nat} {ws : va_W} (hC : Cx K E cc nL own 8) (hR : Rw E x h dr g0 g1 q ws) (p1 p2 p3 p4 p5 : Int32) : Jt K E cc nL own (Rw E x h dr g0 g1 q) (x 0) (q 0) yX11_note yX12_note [.int p1, .int p2, .int p3, .int p4, .int p5] ws := by
  refine Rw_el hR ?_
  intro ik r L sr sa en vl T ab be ao at1 an fw ft mt bh da n u v w kd pl bn dn dp nt ps da2 pe2 de2 no2 pa2 kd2 pl2 bn2 dn2 dp2 nt2 ps2 da3 pe3 de3 no3 pa3 kd3 pl3 bn3 dn3 dp3 nt3 ps3 da4 pe4 de4 no4 pa4 kd4 pl4 bn4 dn4 dp4 nt4 ps4 fe fc mo ta tl tkn va a kp g bg b e vs hw hH hda rL hT hI0 hI1
  subst hw
  subst hda
  obtain ⟨h0, h2, h3, h4, hu6, hv6, hw8, rB, rK, hDd, hNn, hPp⟩ := id hH
  have hn7 := rB.2.2
  have hbn := RB_lt rB
  have hb128 := RB_128 rB
  have hb31 := RB_31 rB
  have hkd : ∀ p, p < n → kd p < 6 := fun p hp => (rK p hp).2.2.1
  have hpl : ∀ p, p < n → pl p < 10 := fun p hp => (rK p hp).2.2.2
  have hpk := RH_pk rK
  have hu9 := RH_u9 h4 hw8
  have hnm := RH_nm rB
  have hddM := RH_dd hDd
  have hntM := RH_ntM hNn
  have hntC := RH_ntC hNn
  have hdn : ∀ k, k < u → dn k < 7 := fun k hk => (hDd k hk).2.2.1
  have hdp : ∀ k, k < u → dp k ≤ 60 := fun k hk => (hDd k hk).2.2.2
  have hTc : ∀ j, j < L → T j < 128 := fun j hj => (hT j hj).2
  by_cases hb : (inB p1 n && inB p2 10 && inB p3 100 && inB p4 2 && inB p5 2) = true
  · skip
    simp only [Bool.and_eq_true] at hb
    obtain ⟨⟨⟨⟨hc1, hc2⟩, hc3⟩, hc4⟩, hc5⟩ := hb
    obtain ⟨k1, hk1, rfl⟩ := inB_ex (by omega) hc1
    obtain ⟨k2, hk2, rfl⟩ := inB_ex (by omega) hc2
    obtain ⟨k3, hk3, rfl⟩ := inB_ex (by omega) hc3
    obtain ⟨k4, hk4, rfl⟩ := inB_ex (by omega) hc4
    obtain ⟨k5, hk5, rfl⟩ := inB_ex (by omega) hc5
    by_cases hf : v = 6
    · skip
      subst hf
      refine ⟨_, _, sc_V hC (f_X11_note_full (kl K) E x h dr (a 1) (nI u) (nI w) n r k1 k2 k3 k4 k5 (by first | assumption | omega) (by first | assumption | omega) (by first | assumption | omega) (by first | assumption | omega) (by first | assumption | omega) (by first | assumption | omega)) wX11_note [0, 20, 3] (WW E x h dr g0 g1 q ik (upd r 2 (r 2 + nI 1)) (nI L) sr sa en vl T ab be ao at1 an fw ft mt bh (a 1) (nI n) (nI u) (nI 6) (nI w) kd pl bn dn dp nt ps da2 pe2 de2 no2 pa2 kd2 pl2 bn2 dn2 dp2 nt2 ps2 da3 pe3 de3 no3 pa3 kd3 pl3 bn3 dn3 dp3 nt3 ps3 da4 pe4 de4 no4 pa4 kd4 pl4 bn4 dn4 dp4 nt4 ps4 ab be fe fc mo (nI L) ta tl tkn va a kp ik r g bg b e vs) 0 11 rfl rfl (by decide) rfl rfl rfl (by simp only [WW, wput, List.set]) rfl (rfl), ?_⟩
      rintro w1 rfl
      refine ⟨_, sc_V hC (f_X12_note_full (kl K) E q ab be fe fc mo (nI L) ta tl tkn va a r n k1 k2 k3 k4 k5 (by first | assumption | omega) (by first | assumption | omega) (by first | assumption | omega) (by first | assumption | omega) (by first | assumption | omega) (by first | assumption | omega) (by first | assumption | omega) (by first | assumption | omega)) wX12_note [52, 53, 56] (WW E x h dr g0 g1 q ik (upd r 2 (r 2 + nI 1)) (nI L) sr sa en vl T ab be ao at1 an fw ft mt bh (a 1) (nI n) (nI u) (nI 6) (nI w) kd pl bn dn dp nt ps da2 pe2 de2 no2 pa2 kd2 pl2 bn2 dn2 dp2 nt2 ps2 da3 pe3 de3 no3 pa3 kd3 pl3 bn3 dn3 dp3 nt3 ps3 da4 pe4 de4 no4 pa4 kd4 pl4 bn4 dn4 dp4 nt4 ps4 ab be fe fc mo (nI L) ta tl tkn va a kp ik (upd r 2 (r 2 + nI 1)) g bg b e vs) 52 12 rfl rfl (by decide) rfl rfl rfl (by simp only [WW, wput, List.set]) rfl (rfl), ?_⟩
      rintro w2 rfl
      exact Rw_in (hH) (rfl) (rL) (hT) (hI0) (hI1)
    · skip
      refine ⟨_, _, sc_V hC (f_X11_note_ok (kl K) E x h dr (a 1) (nI u) (nI w) n v nt k1 k2 k3 k4 k5 (by first | assumption | omega) (by first | assumption | omega) (by first | assumption | omega) (by first | assumption | omega) (by first | assumption | omega) (by first | assumption | omega) (by first | assumption | omega)) wX11_note [0, 20, 26] (WW E x h dr g0 g1 q ik r (nI L) sr sa en vl T ab be ao at1 an fw ft mt bh (a 1) (nI n) (nI u) (nI (v + 1)) (nI w) kd pl bn dn dp (wrN nt k1 k2 k3 k4 k5 v) ps da2 pe2 de2 no2 pa2 kd2 pl2 bn2 dn2 dp2 nt2 ps2 da3 pe3 de3 no3 pa3 kd3 pl3 bn3 dn3 dp3 nt3 ps3 da4 pe4 de4 no4 pa4 kd4 pl4 bn4 dn4 dp4 nt4 ps4 ab be fe fc mo (nI L) ta tl tkn va a kp ik r g bg b e vs) 0 11 rfl rfl (by decide) rfl rfl rfl (by simp only [WW, wput, List.set]) rfl (rfl), ?_⟩
      rintro w1 rfl
      refine ⟨_, sc_V hC (f_X12_note_ok (kl K) E q ab be fe fc mo (nI L) ta tl tkn va a r n v k1 k2 k3 k4 k5 (by first | assumption | omega) (by first | assumption | omega) (by first | assumption | omega) (by first | assumption | omega) (by first | assumption | omega) (by first | assumption | omega) (by first | assumption | omega) (by first | assumption | omega) (by first | assumption | omega)) wX12_note [52, 53, 56] (WW E x h dr g0 g1 q ik r (nI L) sr sa en vl T ab be ao at1 an fw ft mt bh (a 1) (nI n) (nI u) (nI (v + 1)) (nI w) kd pl bn dn dp (wrN nt k1 k2 k3 k4 k5 v) ps da2 pe2 de2 no2 pa2 kd2 pl2 bn2 dn2 dp2 nt2 ps2 da3 pe3 de3 no3 pa3 kd3 pl3 bn3 dn3 dp3 nt3 ps3 da4 pe4 de4 no4 pa4 kd4 pl4 bn4 dn4 dp4 nt4 ps4 ab be fe fc mo (nI L) ta tl tkn va (ntF a k1 k2 k3 k4 k5 v) kp ik r g bg b e vs) 52 12 rfl rfl (by decide) rfl rfl rfl (by simp only [WW, wput, List.set]) rfl (rfl), ?_⟩
      rintro w2 rfl
      exact Rw_in (RH_note hH (by omega) hk1 hk2 hk3 hk4 hk5) (ntF_1) (rL) (hT) (hI0) (hI1)
  · skip
    have hb := (Bool.not_eq_true _).mp hb
    refine ⟨_, _, sc_V hC (f_X11_note_bad (kl K) E x h dr (a 1) (nI u) (nI v) (nI w) n r p1 p2 p3 p4 p5 (by first | assumption | omega) (by first | assumption | omega)) wX11_note [0, 20, 3] (WW E x h dr g0 g1 q ik (upd r 0 (r 0 + nI 1)) (nI L) sr sa en vl T ab be ao at1 an fw ft mt bh (a 1) (nI n) (nI u) (nI v) (nI w) kd pl bn dn dp nt ps da2 pe2 de2 no2 pa2 kd2 pl2 bn2 dn2 dp2 nt2 ps2 da3 pe3 de3 no3 pa3 kd3 pl3 bn3 dn3 dp3 nt3 ps3 da4 pe4 de4 no4 pa4 kd4 pl4 bn4 dn4 dp4 nt4 ps4 ab be fe fc mo (nI L) ta tl tkn va a kp ik r g bg b e vs) 0 11 rfl rfl (by decide) rfl rfl rfl (by simp only [WW, wput, List.set]) rfl (rfl), ?_⟩
    rintro w1 rfl
    refine ⟨_, sc_V hC (f_X12_note_bad (kl K) E q ab be fe fc mo (nI L) ta tl tkn va a r n p1 p2 p3 p4 p5 (by first | assumption | omega) (by first | assumption | omega) (by first | assumption | omega)) wX12_note [52, 53, 56] (WW E x h dr g0 g1 q ik (upd r 0 (r 0 + nI 1)) (nI L) sr sa en vl T ab be ao at1 an fw ft mt bh (a 1) (nI n) (nI u) (nI v) (nI w) kd pl bn dn dp nt ps da2 pe2 de2 no2 pa2 kd2 pl2 bn2 dn2 dp2 nt2 ps2 da3 pe3 de3 no3 pa3 kd3 pl3 bn3 dn3 dp3 nt3 ps3 da4 pe4 de4 no4 pa4 kd4 pl4 bn4 dn4 dp4 nt4 ps4 ab be fe fc mo (nI L) ta tl tkn va a kp ik (upd r 0 (r 0 + nI 1)) g bg b e vs) 52 12 rfl rfl (by decide) rfl rfl rfl (by simp only [WW, wput, List.set]) rfl (rfl), ?_⟩
    rintro w2 rfl
    exact Rw_in (hH) (rfl) (rL) (hT) (hI0) (hI1)
set_option maxHeartbeats 2000000 in
set_option maxRecDepth 100000 in
theorem j_forget {K : Kx} {E : Ew} {cc : ByteArray} {nL : Nat} {own : String} {x h dr g0 g1 q : Nat → Nat} {ws : va_W} (hC : Cx K E cc nL own 8) (hR : Rw E x h dr g0 g1 q ws) (p1 : Int32) : Jt K E cc nL own (Rw E x h dr g0 g1 q) (x 0) (q 0) yX11_forget yX12_forget [.int p1] ws := by
  refine Rw_el hR ?_
  intro ik r L sr sa en vl T ab be ao at1 an fw ft mt bh da n u v w kd pl bn dn dp nt ps da2 pe2 de2 no2 pa2 kd2 pl2 bn2 dn2 dp2 nt2 ps2 da3 pe3 de3 no3 pa3 kd3 pl3 bn3 dn3 dp3 nt3 ps3 da4 pe4 de4 no4 pa4 kd4 pl4 bn4 dn4 dp4 nt4 ps4 fe fc mo ta tl tkn va a kp g bg b e vs hw hH hda rL hT hI0 hI1
  subst hw
  subst hda
  obtain ⟨h0, h2, h3, h4, hu6, hv6, hw8, rB, rK, hDd, hNn, hPp⟩ := id hH
  have hn7 := rB.2.2
  have hbn := RB_lt rB
  have hb128 := RB_128 rB
  have hb31 := RB_31 rB
  have hkd : ∀ p, p < n → kd p < 6 := fun p hp => (rK p hp).2.2.1
  have hpl : ∀ p, p < n → pl p < 10 := fun p hp => (rK p hp).2.2.2
  have hpk := RH_pk rK
  have hu9 := RH_u9 h4 hw8
  have hnm := RH_nm rB
  have hddM := RH_dd hDd
  have hntM := RH_ntM hNn
  have hntC := RH_ntC hNn
  have hdn : ∀ k, k < u → dn k < 7 := fun k hk => (hDd k hk).2.2.1
  have hdp : ∀ k, k < u → dp k ≤ 60 := fun k hk => (hDd k hk).2.2.2
  have hTc : ∀ j, j < L → T j < 128 := fun j hj => (hT j hj).2
  by_cases hb : (inB p1 2) = true
  · skip
    have hc1 := hb
    obtain ⟨k1, hk1, rfl⟩ := inB_ex (by omega) hc1
    rcases (show k1 = 0 ∨ k1 = 1 by omega) with rfl | rfl
    · skip
      refine ⟨_, _, sc_V hC (f_X11_forget_0 (kl K) E x h dr (a 1) (nI n) (nI u) (nI v) (nI w)) wX11_forget [0, 20] (WW E x h dr g0 g1 q ik r (nI L) sr sa en vl T ab be ao at1 an fw ft mt bh (a 1) (nI n) (nI 0) (nI v) (nI w) kd pl bn dn dp nt ps da2 pe2 de2 no2 pa2 kd2 pl2 bn2 dn2 dp2 nt2 ps2 da3 pe3 de3 no3 pa3 kd3 pl3 bn3 dn3 dp3 nt3 ps3 da4 pe4 de4 no4 pa4 kd4 pl4 bn4 dn4 dp4 nt4 ps4 ab be fe fc mo (nI L) ta tl tkn va a kp ik r g bg b e vs) 0 11 rfl rfl (by decide) rfl rfl rfl (by simp only [WW, wput, List.set]) rfl (rfl), ?_⟩
      rintro w1 rfl
      refine ⟨_, sc_V hC (f_X12_forget_ok (kl K) E q ab be fe fc mo (nI L) ta tl tkn va a r 0 (by first | assumption | omega)) wX12_forget [52, 53, 56] (WW E x h dr g0 g1 q ik r (nI L) sr sa en vl T ab be ao at1 an fw ft mt bh (a 1) (nI n) (nI 0) (nI v) (nI w) kd pl bn dn dp nt ps da2 pe2 de2 no2 pa2 kd2 pl2 bn2 dn2 dp2 nt2 ps2 da3 pe3 de3 no3 pa3 kd3 pl3 bn3 dn3 dp3 nt3 ps3 da4 pe4 de4 no4 pa4 kd4 pl4 bn4 dn4 dp4 nt4 ps4 ab be fe fc mo (nI L) ta tl tkn va (upd a (2 + 0) (nI 0)) kp ik r g bg b e vs) 52 12 rfl rfl (by decide) rfl rfl rfl (by simp only [WW, wput, List.set]) rfl (by rw [show 2 + 0 = 2 from rfl, h2]), ?_⟩
      rintro w2 rfl
      exact Rw_in (RH_forget0 hH) (by rw [upd_n (by decide)]) (rL) (hT) (hI0) (hI1)
    · skip
      refine ⟨_, _, sc_V hC (f_X11_forget_1 (kl K) E x h dr (a 1) (nI n) (nI u) (nI v) (nI w)) wX11_forget [0, 20] (WW E x h dr g0 g1 q ik r (nI L) sr sa en vl T ab be ao at1 an fw ft mt bh (a 1) (nI n) (nI u) (nI 0) (nI w) kd pl bn dn dp nt ps da2 pe2 de2 no2 pa2 kd2 pl2 bn2 dn2 dp2 nt2 ps2 da3 pe3 de3 no3 pa3 kd3 pl3 bn3 dn3 dp3 nt3 ps3 da4 pe4 de4 no4 pa4 kd4 pl4 bn4 dn4 dp4 nt4 ps4 ab be fe fc mo (nI L) ta tl tkn va a kp ik r g bg b e vs) 0 11 rfl rfl (by decide) rfl rfl rfl (by simp only [WW, wput, List.set]) rfl (rfl), ?_⟩
      rintro w1 rfl
      refine ⟨_, sc_V hC (f_X12_forget_ok (kl K) E q ab be fe fc mo (nI L) ta tl tkn va a r 1 (by first | assumption | omega)) wX12_forget [52, 53, 56] (WW E x h dr g0 g1 q ik r (nI L) sr sa en vl T ab be ao at1 an fw ft mt bh (a 1) (nI n) (nI u) (nI 0) (nI w) kd pl bn dn dp nt ps da2 pe2 de2 no2 pa2 kd2 pl2 bn2 dn2 dp2 nt2 ps2 da3 pe3 de3 no3 pa3 kd3 pl3 bn3 dn3 dp3 nt3 ps3 da4 pe4 de4 no4 pa4 kd4 pl4 bn4 dn4 dp4 nt4 ps4 ab be fe fc mo (nI L) ta tl tkn va (upd a (2 + 1) (nI 0)) kp ik r g bg b e vs) 52 12 rfl rfl (by decide) rfl rfl rfl (by simp only [WW, wput, List.set]) rfl (by rw [show 2 + 1 = 3 from rfl, h3]), ?_⟩
      rintro w2 rfl
      exact Rw_in (RH_forget1 hH) (by rw [upd_n (by decide)]) (rL) (hT) (hI0) (hI1)
  · skip
    have hb := (Bool.not_eq_true _).mp hb
    refine ⟨_, _, sc_V hC (f_X11_forget_bad (kl K) E x h dr r p1 (by first | assumption | omega)) wX11_forget [0, 3] (WW E x h dr g0 g1 q ik (upd r 0 (r 0 + nI 1)) (nI L) sr sa en vl T ab be ao at1 an fw ft mt bh (a 1) (nI n) (nI u) (nI v) (nI w) kd pl bn dn dp nt ps da2 pe2 de2 no2 pa2 kd2 pl2 bn2 dn2 dp2 nt2 ps2 da3 pe3 de3 no3 pa3 kd3 pl3 bn3 dn3 dp3 nt3 ps3 da4 pe4 de4 no4 pa4 kd4 pl4 bn4 dn4 dp4 nt4 ps4 ab be fe fc mo (nI L) ta tl tkn va a kp ik r g bg b e vs) 0 11 rfl rfl (by decide) rfl rfl rfl (by simp only [WW, wput, List.set]) rfl (rfl), ?_⟩
    rintro w1 rfl
    refine ⟨_, sc_V hC (f_X12_forget_bad (kl K) E q ab be fe fc mo (nI L) ta tl tkn va a r p1 (by first | assumption | omega)) wX12_forget [52, 53, 56] (WW E x h dr g0 g1 q ik (upd r 0 (r 0 + nI 1)) (nI L) sr sa en vl T ab be ao at1 an fw ft mt bh (a 1) (nI n) (nI u) (nI v) (nI w) kd pl bn dn dp nt ps da2 pe2 de2 no2 pa2 kd2 pl2 bn2 dn2 dp2 nt2 ps2 da3 pe3 de3 no3 pa3 kd3 pl3 bn3 dn3 dp3 nt3 ps3 da4 pe4 de4 no4 pa4 kd4 pl4 bn4 dn4 dp4 nt4 ps4 ab be fe fc mo (nI L) ta tl tkn va a kp ik (upd r 0 (r 0 + nI 1)) g bg b e vs) 52 12 rfl rfl (by decide) rfl rfl rfl (by simp only [WW, wput, List.set]) rfl (rfl), ?_⟩
    rintro w2 rfl
    exact Rw_in (hH) (rfl) (rL) (hT) (hI0) (hI1)
set_option maxHeartbeats 2000000 in
set_option maxRecDepth 100000 in
theorem j_is {K : Kx} {E : Ew} {cc : ByteArray} {nL : Nat} {own : String} {x h dr g0 g1 q : Nat → Nat} {ws : va_W} (hC : Cx K E cc nL own 8) (hR : Rw E x h dr g0 g1 q ws) (p1 : Int32) : Jt K E cc nL own (Rw E x h dr g0 g1 q) (x 0) (q 0) yX11_is yX12_is [.int p1] ws := by
  refine Rw_el hR ?_
  intro ik r L sr sa en vl T ab be ao at1 an fw ft mt bh da n u v w kd pl bn dn dp nt ps da2 pe2 de2 no2 pa2 kd2 pl2 bn2 dn2 dp2 nt2 ps2 da3 pe3 de3 no3 pa3 kd3 pl3 bn3 dn3 dp3 nt3 ps3 da4 pe4 de4 no4 pa4 kd4 pl4 bn4 dn4 dp4 nt4 ps4 fe fc mo ta tl tkn va a kp g bg b e vs hw hH hda rL hT hI0 hI1
  subst hw
  subst hda
  obtain ⟨h0, h2, h3, h4, hu6, hv6, hw8, rB, rK, hDd, hNn, hPp⟩ := id hH
  have hn7 := rB.2.2
  have hbn := RB_lt rB
  have hb128 := RB_128 rB
  have hb31 := RB_31 rB
  have hkd : ∀ p, p < n → kd p < 6 := fun p hp => (rK p hp).2.2.1
  have hpl : ∀ p, p < n → pl p < 10 := fun p hp => (rK p hp).2.2.2
  have hpk := RH_pk rK
  have hu9 := RH_u9 h4 hw8
  have hnm := RH_nm rB
  have hddM := RH_dd hDd
  have hntM := RH_ntM hNn
  have hntC := RH_ntC hNn
  have hdn : ∀ k, k < u → dn k < 7 := fun k hk => (hDd k hk).2.2.1
  have hdp : ∀ k, k < u → dp k ≤ 60 := fun k hk => (hDd k hk).2.2.2
  have hTc : ∀ j, j < L → T j < 128 := fun j hj => (hT j hj).2
  by_cases hb : (inB p1 n) = true
  · skip
    have hc1 := hb
    obtain ⟨k1, hk1, rfl⟩ := inB_ex (by omega) hc1
    refine ⟨_, _, sc_V hC (f_X11_is_ok (kl K) E x h dr (a 1) (nI u) (nI w) n v nt pl k1 (by first | assumption | omega) (by first | assumption | omega) (by first | assumption | omega) (by first | assumption | omega) (hpl k1 hk1)) wX11_is [0, 7, 8, 14, 15, 16, 17, 18, 19, 20, 26, 22] (WW E x h dr g0 g1 q ik r (nI L) sr sa en vl T ab be ao at1 an fw ft mt bh (a 1) (nI n) (nI u) (nI v) (nI w) kd pl bn dn dp nt ps da2 pe2 de2 no2 pa2 kd2 pl2 bn2 dn2 dp2 nt2 ps2 da3 pe3 de3 no3 pa3 kd3 pl3 bn3 dn3 dp3 nt3 ps3 da4 pe4 de4 no4 pa4 kd4 pl4 bn4 dn4 dp4 nt4 ps4 ab be fe fc mo (nI L) ta tl tkn va a kp ik r g bg b e vs) 0 11 rfl rfl (by decide) rfl rfl rfl (by simp only [WW, wput, List.set]) rfl (rfl), ?_⟩
    rintro w1 rfl
    refine ⟨_, sc_V hC (f_X12_is_ok (kl K) E q ab be fe fc mo (nI L) ta tl tkn va a r n v k1 (by first | assumption | omega) (by first | assumption | omega) (by first | assumption | omega) (by first | assumption | omega) (by first | assumption | omega) (by first | assumption | omega) ((hpk k1 hk1).1)) wX12_is [52, 53, 56] (WW E x h dr g0 g1 q ik r (nI L) sr sa en vl T ab be ao at1 an fw ft mt bh (a 1) (nI n) (nI u) (nI v) (nI w) kd pl bn dn dp nt ps da2 pe2 de2 no2 pa2 kd2 pl2 bn2 dn2 dp2 nt2 ps2 da3 pe3 de3 no3 pa3 kd3 pl3 bn3 dn3 dp3 nt3 ps3 da4 pe4 de4 no4 pa4 kd4 pl4 bn4 dn4 dp4 nt4 ps4 ab be fe fc mo (nI L) ta tl tkn va a kp ik r g bg b e vs) 52 12 rfl rfl (by decide) rfl rfl rfl (by simp only [WW, wput, List.set]) rfl (by rw [RN_is hn7 hk1 hNn rK]), ?_⟩
    rintro w2 rfl
    exact Rw_in (hH) (rfl) (rL) (hT) (hI0) (hI1)
  · skip
    have hb := (Bool.not_eq_true _).mp hb
    refine ⟨_, _, sc_V hC (f_X11_is_bad (kl K) E x h dr (a 1) (nI u) (nI v) (nI w) n r p1 (by first | assumption | omega) (by first | assumption | omega)) wX11_is [0, 20, 3] (WW E x h dr g0 g1 q ik (upd r 0 (r 0 + nI 1)) (nI L) sr sa en vl T ab be ao at1 an fw ft mt bh (a 1) (nI n) (nI u) (nI v) (nI w) kd pl bn dn dp nt ps da2 pe2 de2 no2 pa2 kd2 pl2 bn2 dn2 dp2 nt2 ps2 da3 pe3 de3 no3 pa3 kd3 pl3 bn3 dn3 dp3 nt3 ps3 da4 pe4 de4 no4 pa4 kd4 pl4 bn4 dn4 dp4 nt4 ps4 ab be fe fc mo (nI L) ta tl tkn va a kp ik r g bg b e vs) 0 11 rfl rfl (by decide) rfl rfl rfl (by simp only [WW, wput, List.set]) rfl (rfl), ?_⟩
    rintro w1 rfl
    refine ⟨_, sc_V hC (f_X12_is_bad (kl K) E q ab be fe fc mo (nI L) ta tl tkn va a r n p1 (by first | assumption | omega) (by first | assumption | omega) (by first | assumption | omega)) wX12_is [52, 53, 56] (WW E x h dr g0 g1 q ik (upd r 0 (r 0 + nI 1)) (nI L) sr sa en vl T ab be ao at1 an fw ft mt bh (a 1) (nI n) (nI u) (nI v) (nI w) kd pl bn dn dp nt ps da2 pe2 de2 no2 pa2 kd2 pl2 bn2 dn2 dp2 nt2 ps2 da3 pe3 de3 no3 pa3 kd3 pl3 bn3 dn3 dp3 nt3 ps3 da4 pe4 de4 no4 pa4 kd4 pl4 bn4 dn4 dp4 nt4 ps4 ab be fe fc mo (nI L) ta tl tkn va a kp ik (upd r 0 (r 0 + nI 1)) g bg b e vs) 52 12 rfl rfl (by decide) rfl rfl rfl (by simp only [WW, wput, List.set]) rfl (rfl), ?_⟩
    rintro w2 rfl
    exact Rw_in (hH) (rfl) (rL) (hT) (hI0) (hI1)
set_option maxHeartbeats 2000000 in
set_option maxRecDepth 100000 in
theorem j_stood {K : Kx} {E : Ew} {cc : ByteArray} {nL : Nat} {own : String} {x h dr g0 g1 q : Nat → Nat} {ws : va_W} (hC : Cx K E cc nL own 8) (hR : Rw E x h dr g0 g1 q ws) (p1 : Int32) : Jt K E cc nL own (Rw E x h dr g0 g1 q) (x 0) (q 0) yX11_stood yX12_stood [.int p1] ws := by
  refine Rw_el hR ?_
  intro ik r L sr sa en vl T ab be ao at1 an fw ft mt bh da n u v w kd pl bn dn dp nt ps da2 pe2 de2 no2 pa2 kd2 pl2 bn2 dn2 dp2 nt2 ps2 da3 pe3 de3 no3 pa3 kd3 pl3 bn3 dn3 dp3 nt3 ps3 da4 pe4 de4 no4 pa4 kd4 pl4 bn4 dn4 dp4 nt4 ps4 fe fc mo ta tl tkn va a kp g bg b e vs hw hH hda rL hT hI0 hI1
  subst hw
  subst hda
  obtain ⟨h0, h2, h3, h4, hu6, hv6, hw8, rB, rK, hDd, hNn, hPp⟩ := id hH
  have hn7 := rB.2.2
  have hbn := RB_lt rB
  have hb128 := RB_128 rB
  have hb31 := RB_31 rB
  have hkd : ∀ p, p < n → kd p < 6 := fun p hp => (rK p hp).2.2.1
  have hpl : ∀ p, p < n → pl p < 10 := fun p hp => (rK p hp).2.2.2
  have hpk := RH_pk rK
  have hu9 := RH_u9 h4 hw8
  have hnm := RH_nm rB
  have hddM := RH_dd hDd
  have hntM := RH_ntM hNn
  have hntC := RH_ntC hNn
  have hdn : ∀ k, k < u → dn k < 7 := fun k hk => (hDd k hk).2.2.1
  have hdp : ∀ k, k < u → dp k ≤ 60 := fun k hk => (hDd k hk).2.2.2
  have hTc : ∀ j, j < L → T j < 128 := fun j hj => (hT j hj).2
  by_cases hb : (inB p1 n) = true
  · skip
    have hc1 := hb
    obtain ⟨k1, hk1, rfl⟩ := inB_ex (by omega) hc1
    refine ⟨_, _, sc_V hC (f_X11_stood_ok (kl K) E x h dr (a 1) (nI u) (nI w) n v nt kd k1 (by first | assumption | omega) (by first | assumption | omega) (by first | assumption | omega) (by first | assumption | omega) (hkd k1 hk1)) wX11_stood [0, 7, 8, 14, 15, 16, 17, 18, 19, 20, 26, 21] (WW E x h dr g0 g1 q ik r (nI L) sr sa en vl T ab be ao at1 an fw ft mt bh (a 1) (nI n) (nI u) (nI v) (nI w) kd pl bn dn dp nt ps da2 pe2 de2 no2 pa2 kd2 pl2 bn2 dn2 dp2 nt2 ps2 da3 pe3 de3 no3 pa3 kd3 pl3 bn3 dn3 dp3 nt3 ps3 da4 pe4 de4 no4 pa4 kd4 pl4 bn4 dn4 dp4 nt4 ps4 ab be fe fc mo (nI L) ta tl tkn va a kp ik r g bg b e vs) 0 11 rfl rfl (by decide) rfl rfl rfl (by simp only [WW, wput, List.set]) rfl (rfl), ?_⟩
    rintro w1 rfl
    refine ⟨_, sc_V hC (f_X12_stood_ok (kl K) E q ab be fe fc mo (nI L) ta tl tkn va a r n v k1 (by first | assumption | omega) (by first | assumption | omega) (by first | assumption | omega) (by first | assumption | omega) (by first | assumption | omega) (by first | assumption | omega) ((hpk k1 hk1).2)) wX12_stood [52, 53, 56] (WW E x h dr g0 g1 q ik r (nI L) sr sa en vl T ab be ao at1 an fw ft mt bh (a 1) (nI n) (nI u) (nI v) (nI w) kd pl bn dn dp nt ps da2 pe2 de2 no2 pa2 kd2 pl2 bn2 dn2 dp2 nt2 ps2 da3 pe3 de3 no3 pa3 kd3 pl3 bn3 dn3 dp3 nt3 ps3 da4 pe4 de4 no4 pa4 kd4 pl4 bn4 dn4 dp4 nt4 ps4 ab be fe fc mo (nI L) ta tl tkn va a kp ik r g bg b e vs) 52 12 rfl rfl (by decide) rfl rfl rfl (by simp only [WW, wput, List.set]) rfl (by rw [RN_pl hn7 hk1 hNn rK]), ?_⟩
    rintro w2 rfl
    exact Rw_in (hH) (rfl) (rL) (hT) (hI0) (hI1)
  · skip
    have hb := (Bool.not_eq_true _).mp hb
    refine ⟨_, _, sc_V hC (f_X11_stood_bad (kl K) E x h dr (a 1) (nI u) (nI v) (nI w) n r p1 (by first | assumption | omega) (by first | assumption | omega)) wX11_stood [0, 20, 3] (WW E x h dr g0 g1 q ik (upd r 0 (r 0 + nI 1)) (nI L) sr sa en vl T ab be ao at1 an fw ft mt bh (a 1) (nI n) (nI u) (nI v) (nI w) kd pl bn dn dp nt ps da2 pe2 de2 no2 pa2 kd2 pl2 bn2 dn2 dp2 nt2 ps2 da3 pe3 de3 no3 pa3 kd3 pl3 bn3 dn3 dp3 nt3 ps3 da4 pe4 de4 no4 pa4 kd4 pl4 bn4 dn4 dp4 nt4 ps4 ab be fe fc mo (nI L) ta tl tkn va a kp ik r g bg b e vs) 0 11 rfl rfl (by decide) rfl rfl rfl (by simp only [WW, wput, List.set]) rfl (rfl), ?_⟩
    rintro w1 rfl
    refine ⟨_, sc_V hC (f_X12_stood_bad (kl K) E q ab be fe fc mo (nI L) ta tl tkn va a r n p1 (by first | assumption | omega) (by first | assumption | omega) (by first | assumption | omega)) wX12_stood [52, 53, 56] (WW E x h dr g0 g1 q ik (upd r 0 (r 0 + nI 1)) (nI L) sr sa en vl T ab be ao at1 an fw ft mt bh (a 1) (nI n) (nI u) (nI v) (nI w) kd pl bn dn dp nt ps da2 pe2 de2 no2 pa2 kd2 pl2 bn2 dn2 dp2 nt2 ps2 da3 pe3 de3 no3 pa3 kd3 pl3 bn3 dn3 dp3 nt3 ps3 da4 pe4 de4 no4 pa4 kd4 pl4 bn4 dn4 dp4 nt4 ps4 ab be fe fc mo (nI L) ta tl tkn va a kp ik (upd r 0 (r 0 + nI 1)) g bg b e vs) 52 12 rfl rfl (by decide) rfl rfl rfl (by simp only [WW, wput, List.set]) rfl (rfl), ?_⟩
    rintro w2 rfl
    exact Rw_in (hH) (rfl) (rL) (hT) (hI0) (hI1)
set_option maxHeartbeats 2000000 in
set_option maxRecDepth 100000 in
theorem j_next {K : Kx} {E : Ew} {cc : ByteArray} {nL : Nat} {own : String} {x h dr g0 g1 q : Nat → Nat} {ws : va_W} (hC : Cx K E cc nL own 8) (hR : Rw E x h dr g0 g1 q ws) (p1 : Int32) : Jt K E cc nL own (Rw E x h dr g0 g1 q) (x 0) (q 0) yX11_next yX12_next [.int p1] ws := by
  refine Rw_el hR ?_
  intro ik r L sr sa en vl T ab be ao at1 an fw ft mt bh da n u v w kd pl bn dn dp nt ps da2 pe2 de2 no2 pa2 kd2 pl2 bn2 dn2 dp2 nt2 ps2 da3 pe3 de3 no3 pa3 kd3 pl3 bn3 dn3 dp3 nt3 ps3 da4 pe4 de4 no4 pa4 kd4 pl4 bn4 dn4 dp4 nt4 ps4 fe fc mo ta tl tkn va a kp g bg b e vs hw hH hda rL hT hI0 hI1
  subst hw
  subst hda
  obtain ⟨h0, h2, h3, h4, hu6, hv6, hw8, rB, rK, hDd, hNn, hPp⟩ := id hH
  have hn7 := rB.2.2
  have hbn := RB_lt rB
  have hb128 := RB_128 rB
  have hb31 := RB_31 rB
  have hkd : ∀ p, p < n → kd p < 6 := fun p hp => (rK p hp).2.2.1
  have hpl : ∀ p, p < n → pl p < 10 := fun p hp => (rK p hp).2.2.2
  have hpk := RH_pk rK
  have hu9 := RH_u9 h4 hw8
  have hnm := RH_nm rB
  have hddM := RH_dd hDd
  have hntM := RH_ntM hNn
  have hntC := RH_ntC hNn
  have hdn : ∀ k, k < u → dn k < 7 := fun k hk => (hDd k hk).2.2.1
  have hdp : ∀ k, k < u → dp k ≤ 60 := fun k hk => (hDd k hk).2.2.2
  have hTc : ∀ j, j < L → T j < 128 := fun j hj => (hT j hj).2
  by_cases hb : (inB p1 n) = true
  · skip
    have hc1 := hb
    obtain ⟨k1, hk1, rfl⟩ := inB_ex (by omega) hc1
    refine ⟨_, _, sc_V hC (f_X11_next_ok (kl K) E x h dr (a 1) (nI u) (nI w) n v nt kd k1 (by first | assumption | omega) (by first | assumption | omega) (by first | assumption | omega) (by first | assumption | omega) (hkd k1 hk1)) wX11_next [0, 7, 8, 14, 15, 16, 17, 18, 19, 20, 26, 21] (WW E x h dr g0 g1 q ik r (nI L) sr sa en vl T ab be ao at1 an fw ft mt bh (a 1) (nI n) (nI u) (nI v) (nI w) kd pl bn dn dp nt ps da2 pe2 de2 no2 pa2 kd2 pl2 bn2 dn2 dp2 nt2 ps2 da3 pe3 de3 no3 pa3 kd3 pl3 bn3 dn3 dp3 nt3 ps3 da4 pe4 de4 no4 pa4 kd4 pl4 bn4 dn4 dp4 nt4 ps4 ab be fe fc mo (nI L) ta tl tkn va a kp ik r g bg b e vs) 0 11 rfl rfl (by decide) rfl rfl rfl (by simp only [WW, wput, List.set]) rfl (rfl), ?_⟩
    rintro w1 rfl
    refine ⟨_, sc_V hC (f_X12_next_ok (kl K) E q ab be fe fc mo (nI L) ta tl tkn va a r n v k1 (by first | assumption | omega) (by first | assumption | omega) (by first | assumption | omega) (by first | assumption | omega) (by first | assumption | omega) (by first | assumption | omega) ((hpk k1 hk1).2)) wX12_next [52, 53, 56] (WW E x h dr g0 g1 q ik r (nI L) sr sa en vl T ab be ao at1 an fw ft mt bh (a 1) (nI n) (nI u) (nI v) (nI w) kd pl bn dn dp nt ps da2 pe2 de2 no2 pa2 kd2 pl2 bn2 dn2 dp2 nt2 ps2 da3 pe3 de3 no3 pa3 kd3 pl3 bn3 dn3 dp3 nt3 ps3 da4 pe4 de4 no4 pa4 kd4 pl4 bn4 dn4 dp4 nt4 ps4 ab be fe fc mo (nI L) ta tl tkn va a kp ik r g bg b e vs) 52 12 rfl rfl (by decide) rfl rfl rfl (by simp only [WW, wput, List.set]) rfl (by rw [RN_pl hn7 hk1 hNn rK, RN_next hn7 hk1 hNn rK 9]), ?_⟩
    rintro w2 rfl
    exact Rw_in (hH) (rfl) (rL) (hT) (hI0) (hI1)
  · skip
    have hb := (Bool.not_eq_true _).mp hb
    refine ⟨_, _, sc_V hC (f_X11_next_bad (kl K) E x h dr (a 1) (nI u) (nI v) (nI w) n r p1 (by first | assumption | omega) (by first | assumption | omega)) wX11_next [0, 20, 3] (WW E x h dr g0 g1 q ik (upd r 0 (r 0 + nI 1)) (nI L) sr sa en vl T ab be ao at1 an fw ft mt bh (a 1) (nI n) (nI u) (nI v) (nI w) kd pl bn dn dp nt ps da2 pe2 de2 no2 pa2 kd2 pl2 bn2 dn2 dp2 nt2 ps2 da3 pe3 de3 no3 pa3 kd3 pl3 bn3 dn3 dp3 nt3 ps3 da4 pe4 de4 no4 pa4 kd4 pl4 bn4 dn4 dp4 nt4 ps4 ab be fe fc mo (nI L) ta tl tkn va a kp ik r g bg b e vs) 0 11 rfl rfl (by decide) rfl rfl rfl (by simp only [WW, wput, List.set]) rfl (rfl), ?_⟩
    rintro w1 rfl
    refine ⟨_, sc_V hC (f_X12_next_bad (kl K) E q ab be fe fc mo (nI L) ta tl tkn va a r n p1 (by first | assumption | omega) (by first | assumption | omega) (by first | assumption | omega)) wX12_next [52, 53, 56] (WW E x h dr g0 g1 q ik (upd r 0 (r 0 + nI 1)) (nI L) sr sa en vl T ab be ao at1 an fw ft mt bh (a 1) (nI n) (nI u) (nI v) (nI w) kd pl bn dn dp nt ps da2 pe2 de2 no2 pa2 kd2 pl2 bn2 dn2 dp2 nt2 ps2 da3 pe3 de3 no3 pa3 kd3 pl3 bn3 dn3 dp3 nt3 ps3 da4 pe4 de4 no4 pa4 kd4 pl4 bn4 dn4 dp4 nt4 ps4 ab be fe fc mo (nI L) ta tl tkn va a kp ik (upd r 0 (r 0 + nI 1)) g bg b e vs) 52 12 rfl rfl (by decide) rfl rfl rfl (by simp only [WW, wput, List.set]) rfl (rfl), ?_⟩
    rintro w2 rfl
    exact Rw_in (hH) (rfl) (rL) (hT) (hI0) (hI1)
