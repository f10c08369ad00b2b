set_option maxHeartbeats 2000000 in
set_option maxRecDepth 100000 in
theorem j_trippers {K : Kx} {E : Ew} {cc : ByteArray} {nL : Nat} {own : String} {x h dr g0 g1 q : Nat → Nat} {ws : va_W} (hC : Cx K E cc nL own 8) (hR : Rw E x h dr g0 g1 q ws) (p1 p2 p3 p4 : Int32) : Jt K E cc nL own (Rw E x h dr g0 g1 q) (x 0) (q 0) yX11_trippers yX12_trippers [.int p1, .int p2, .int p3, .int p4] ws := by
  refine Rw_el hR ?_
  intro ik r L sr sa en vl T ab be ao at1 an fw ft mt bh da n u v w kd pl bn dn dp nt ps da2 pe2 de2 no2 pa2 kd2 pl2 bn2 dn2 dp2 nt2 ps2 da3 pe3 de3 no3 pa3 kd3 pl3 bn3 dn3 dp3 nt3 ps3 da4 pe4 de4 no4 pa4 kd4 pl4 bn4 dn4 dp4 nt4 ps4 fe fc mo ta tl tkn va a kp g bg b e vs hw hH hda rL hT hI0 hI1
  subst hw
  subst hda
  obtain ⟨h0, h2, h3, h4, hu6, hv6, hw8, rB, rK, hDd, hNn, hPp⟩ := id hH
  have hn7 := rB.2.2
  have hbn := RB_lt rB
  have hb128 := RB_128 rB
  have hb31 := RB_31 rB
  have hkd : ∀ p, p < n → kd p < 6 := fun p hp => (rK p hp).2.2.1
  have hpl : ∀ p, p < n → pl p < 10 := fun p hp => (rK p hp).2.2.2
  have hpk := RH_pk rK
  have hu9 := RH_u9 h4 hw8
  have hnm := RH_nm rB
  have hddM := RH_dd hDd
  have hntM := RH_ntM hNn
  have hntC := RH_ntC hNn
  have hdn : ∀ k, k < u → dn k < 7 := fun k hk => (hDd k hk).2.2.1
  have hdp : ∀ k, k < u → dp k ≤ 60 := fun k hk => (hDd k hk).2.2.2
  have hTc : ∀ j, j < L → T j < 128 := fun j hj => (hT j hj).2
  by_cases hb : (inB p1 n && inB p2 n && inB p3 10 && inB p4 11) = true
  · skip
    simp only [Bool.and_eq_true] at hb
    obtain ⟨⟨⟨hc1, hc2⟩, hc3⟩, hc4⟩ := hb
    obtain ⟨k1, hk1, rfl⟩ := inB_ex (by omega) hc1
    obtain ⟨k2, hk2, rfl⟩ := inB_ex (by omega) hc2
    obtain ⟨k3, hk3, rfl⟩ := inB_ex (by omega) hc3
    obtain ⟨k4, hk4, rfl⟩ := inB_ex (by omega) hc4
    have eH : HT kd pl bn (a 1) k2 k3 n = TS a (nI k2) k3 n := RB_HT rB rK (by omega)
    have eT := fr_red (o1 := tpS a k1 k2 k3 n k4 (2 ^ n)) (w1 := 10 ^ n) (o2 := trC (TS a (nI k2) k3 n) (bn k2) k1 k4 (ct (TS a (nI k2) k3 n).testBit 31)) (w2 := 10 ^ (ct (TS a (nI k2) k3 n).testBit 31)) (Nat.pow_pos (by decide)) (Nat.pow_pos (by decide)) (RB_trip rB hk1 hk2 (by omega))
    refine ⟨_, _, sc_V hC (f_X11_trippers_ok (kl K) E x h dr (a 1) (nI u) (nI v) (nI w) n kd pl bn ao at1 an ab be k1 k2 k3 k4 (by first | assumption | omega) (by first | assumption | omega) (by first | assumption | omega) (by first | assumption | omega) (by first | assumption | omega) (by first | assumption | omega) (by first | assumption | omega) (by first | assumption | omega) (by first | assumption | omega)) wX11_trippers [0, 7, 8, 14, 15, 16, 17, 18, 19, 9, 10, 11, 20, 21, 22, 23, 6] (WW E x h dr g0 g1 q ik r (nI L) sr sa en vl T (lN ((trC (HT kd pl bn (a 1) k2 k3 n) (bn k2) k1 k4 (ct (HT kd pl bn (a 1) k2 k3 n).testBit 31)) / Nat.gcd (trC (HT kd pl bn (a 1) k2 k3 n) (bn k2) k1 k4 (ct (HT kd pl bn (a 1) k2 k3 n).testBit 31)) (10 ^ (ct (HT kd pl bn (a 1) k2 k3 n).testBit 31)))) (lN ((10 ^ (ct (HT kd pl bn (a 1) k2 k3 n).testBit 31)) / Nat.gcd (trC (HT kd pl bn (a 1) k2 k3 n) (bn k2) k1 k4 (ct (HT kd pl bn (a 1) k2 k3 n).testBit 31)) (10 ^ (ct (HT kd pl bn (a 1) k2 k3 n).testBit 31)))) (un ao k3 (hB kd pl k3 (a 1) true false n)) (un at1 k3 (hB kd pl k3 (a 1) false false n)) (un an k3 (hB kd pl k3 (a 1) false true n)) fw ft mt bh (a 1) (nI n) (nI u) (nI v) (nI w) kd pl bn dn dp nt ps da2 pe2 de2 no2 pa2 kd2 pl2 bn2 dn2 dp2 nt2 ps2 da3 pe3 de3 no3 pa3 kd3 pl3 bn3 dn3 dp3 nt3 ps3 da4 pe4 de4 no4 pa4 kd4 pl4 bn4 dn4 dp4 nt4 ps4 ab be fe fc mo (nI L) ta tl tkn va a kp ik r g bg b e vs) 0 11 rfl rfl (by decide) rfl rfl rfl (by simp only [WW, wput, List.set]) rfl (rfl), ?_⟩
    rintro w1 rfl
    rw [eH, ← eT.1, ← eT.2]
    refine ⟨_, sc_VE hC (f_X12_trippers_ok (kl K) E q ab be fe fc mo (nI L) ta tl tkn va a r g n k1 k2 k3 k4 (by first | assumption | omega) (by first | assumption | omega) (by first | assumption | omega) (by first | assumption | omega) (by first | assumption | omega) (by first | assumption | omega) (by first | assumption | omega)) wX12_trippers [52, 53, 56, 57] (fun jj => WW E x h dr g0 g1 q ik r (nI L) sr sa en vl T (lN (tpS a k1 k2 k3 n k4 (2 ^ n) / Nat.gcd (tpS a k1 k2 k3 n k4 (2 ^ n)) (10 ^ n))) (lN (10 ^ n / Nat.gcd (tpS a k1 k2 k3 n k4 (2 ^ n)) (10 ^ n))) (un ao k3 (hB kd pl k3 (a 1) true false n)) (un at1 k3 (hB kd pl k3 (a 1) false false n)) (un an k3 (hB kd pl k3 (a 1) false true n)) fw ft mt bh (a 1) (nI n) (nI u) (nI v) (nI w) kd pl bn dn dp nt ps da2 pe2 de2 no2 pa2 kd2 pl2 bn2 dn2 dp2 nt2 ps2 da3 pe3 de3 no3 pa3 kd3 pl3 bn3 dn3 dp3 nt3 ps3 da4 pe4 de4 no4 pa4 kd4 pl4 bn4 dn4 dp4 nt4 ps4 (lN (tpS a k1 k2 k3 n k4 (2 ^ n) / Nat.gcd (tpS a k1 k2 k3 n k4 (2 ^ n)) (10 ^ n))) (lN (10 ^ n / Nat.gcd (tpS a k1 k2 k3 n k4 (2 ^ n)) (10 ^ n))) fe fc mo (nI L) ta tl tkn va a kp ik r (jj 0) bg b e vs) 52 12 rfl rfl (by decide) rfl rfl rfl (fun jj => by simp only [WW, wput, List.set]) (fun _ => rfl) (rfl), ?_⟩
    rintro w2 ⟨jj2, rfl⟩
    exact Rw_in (hH) (rfl) (rL) (hT) (hI0) (hI1)
  · skip
    have hb := (Bool.not_eq_true _).mp hb
    refine ⟨_, _, sc_V hC (f_X11_trippers_bad (kl K) E x h dr (a 1) (nI u) (nI v) (nI w) n r p1 p2 p3 p4 (by first | assumption | omega) (by first | assumption | omega)) wX11_trippers [0, 20, 3] (WW E x h dr g0 g1 q ik (upd r 0 (r 0 + nI 1)) (nI L) sr sa en vl T ab be ao at1 an fw ft mt bh (a 1) (nI n) (nI u) (nI v) (nI w) kd pl bn dn dp nt ps da2 pe2 de2 no2 pa2 kd2 pl2 bn2 dn2 dp2 nt2 ps2 da3 pe3 de3 no3 pa3 kd3 pl3 bn3 dn3 dp3 nt3 ps3 da4 pe4 de4 no4 pa4 kd4 pl4 bn4 dn4 dp4 nt4 ps4 ab be fe fc mo (nI L) ta tl tkn va a kp ik r g bg b e vs) 0 11 rfl rfl (by decide) rfl rfl rfl (by simp only [WW, wput, List.set]) rfl (rfl), ?_⟩
    rintro w1 rfl
    refine ⟨_, sc_V hC (f_X12_trippers_bad (kl K) E q ab be fe fc mo (nI L) ta tl tkn va a r n p1 p2 p3 p4 (by first | assumption | omega) (by first | assumption | omega) (by first | assumption | omega)) wX12_trippers [52, 53, 56] (WW E x h dr g0 g1 q ik (upd r 0 (r 0 + nI 1)) (nI L) sr sa en vl T ab be ao at1 an fw ft mt bh (a 1) (nI n) (nI u) (nI v) (nI w) kd pl bn dn dp nt ps da2 pe2 de2 no2 pa2 kd2 pl2 bn2 dn2 dp2 nt2 ps2 da3 pe3 de3 no3 pa3 kd3 pl3 bn3 dn3 dp3 nt3 ps3 da4 pe4 de4 no4 pa4 kd4 pl4 bn4 dn4 dp4 nt4 ps4 ab be fe fc mo (nI L) ta tl tkn va a kp ik (upd r 0 (r 0 + nI 1)) g bg b e vs) 52 12 rfl rfl (by decide) rfl rfl rfl (by simp only [WW, wput, List.set]) rfl (rfl), ?_⟩
    rintro w2 rfl
    exact Rw_in (hH) (rfl) (rL) (hT) (hI0) (hI1)
set_option maxHeartbeats 2000000 in
set_option maxRecDepth 100000 in
theorem j_weeks {K : Kx} {E : Ew} {cc : ByteArray} {nL : Nat} {own : String} {x h dr g0 g1 q : Nat → Nat} {ws : va_W} (hC : Cx K E cc nL own 8) (hR : Rw E x h dr g0 g1 q ws) (p1 p2 : Int32) : Jt K E cc nL own (Rw E x h dr g0 g1 q) (x 0) (q 0) yX11_weeks yX12_weeks [.int p1, .int p2] ws := by
  refine Rw_el hR ?_
  intro ik r L sr sa en vl T ab be ao at1 an fw ft mt bh da n u v w kd pl bn dn dp nt ps da2 pe2 de2 no2 pa2 kd2 pl2 bn2 dn2 dp2 nt2 ps2 da3 pe3 de3 no3 pa3 kd3 pl3 bn3 dn3 dp3 nt3 ps3 da4 pe4 de4 no4 pa4 kd4 pl4 bn4 dn4 dp4 nt4 ps4 fe fc mo ta tl tkn va a kp g bg b e vs hw hH hda rL hT hI0 hI1
  subst hw
  subst hda
  obtain ⟨h0, h2, h3, h4, hu6, hv6, hw8, rB, rK, hDd, hNn, hPp⟩ := id hH
  have hn7 := rB.2.2
  have hbn := RB_lt rB
  have hb128 := RB_128 rB
  have hb31 := RB_31 rB
  have hkd : ∀ p, p < n → kd p < 6 := fun p hp => (rK p hp).2.2.1
  have hpl : ∀ p, p < n → pl p < 10 := fun p hp => (rK p hp).2.2.2
  have hpk := RH_pk rK
  have hu9 := RH_u9 h4 hw8
  have hnm := RH_nm rB
  have hddM := RH_dd hDd
  have hntM := RH_ntM hNn
  have hntC := RH_ntC hNn
  have hdn : ∀ k, k < u → dn k < 7 := fun k hk => (hDd k hk).2.2.1
  have hdp : ∀ k, k < u → dp k ≤ 60 := fun k hk => (hDd k hk).2.2.2
  have hTc : ∀ j, j < L → T j < 128 := fun j hj => (hT j hj).2
  by_cases hb : (inB p1 1000000 && inB p2 61) = true
  · skip
    simp only [Bool.and_eq_true] at hb
    obtain ⟨hc1, hc2⟩ := hb
    obtain ⟨k1, hk1, rfl⟩ := inB_ex (by omega) hc1
    obtain ⟨k2, hk2, rfl⟩ := inB_ex (by omega) hc2
    obtain ⟨bh, rfl⟩ := nf_ex bh
    by_cases hf : n = 0
    · skip
      subst hf
      refine ⟨_, _, sc_V hC (f_X11_weeks_no (kl K) E x h dr (a 1) (nI u) (nI v) (nI w) r k1 k2 (by first | assumption | omega) (by first | assumption | omega)) wX11_weeks [0, 20, 3] (WW E x h dr g0 g1 q ik (upd r 1 (r 1 + nI 1)) (nI L) sr sa en vl T ab be ao at1 an fw ft mt (nf bh) (a 1) (nI 0) (nI u) (nI v) (nI w) kd pl bn dn dp nt ps da2 pe2 de2 no2 pa2 kd2 pl2 bn2 dn2 dp2 nt2 ps2 da3 pe3 de3 no3 pa3 kd3 pl3 bn3 dn3 dp3 nt3 ps3 da4 pe4 de4 no4 pa4 kd4 pl4 bn4 dn4 dp4 nt4 ps4 ab be fe fc mo (nI L) ta tl tkn va a kp ik r g bg b e vs) 0 11 rfl rfl (by decide) rfl rfl rfl (by simp only [WW, wput, List.set]) rfl (rfl), ?_⟩
      rintro w1 rfl
      refine ⟨_, sc_V hC (f_X12_weeks_no (kl K) E q ab be fe fc mo (nI L) ta tl tkn va a r k1 k2 (by first | assumption | omega) (by first | assumption | omega) (by first | assumption | omega)) wX12_weeks [52, 53, 56] (WW E x h dr g0 g1 q ik (upd r 1 (r 1 + nI 1)) (nI L) sr sa en vl T ab be ao at1 an fw ft mt (nf bh) (a 1) (nI 0) (nI u) (nI v) (nI w) kd pl bn dn dp nt ps da2 pe2 de2 no2 pa2 kd2 pl2 bn2 dn2 dp2 nt2 ps2 da3 pe3 de3 no3 pa3 kd3 pl3 bn3 dn3 dp3 nt3 ps3 da4 pe4 de4 no4 pa4 kd4 pl4 bn4 dn4 dp4 nt4 ps4 ab be fe fc mo (nI L) ta tl tkn va a kp ik (upd r 1 (r 1 + nI 1)) g bg b e vs) 52 12 rfl rfl (by decide) rfl rfl rfl (by simp only [WW, wput, List.set]) rfl (rfl), ?_⟩
      rintro w2 rfl
      exact Rw_in (hH) (rfl) (rL) (hT) (hI0) (hI1)
    · skip
      refine ⟨_, _, sc_V hC (f_X11_weeks_ok (kl K) E x h dr (a 1) (nI u) (nI v) (nI w) n kd pl bn ao at1 an fw ft mt bh k1 k2 (by first | assumption | omega) (by first | assumption | omega) (by first | assumption | omega) (by first | assumption | omega) (by first | assumption | omega) (by first | assumption | omega) (by first | assumption | omega)) wX11_weeks [0, 7, 8, 14, 15, 16, 17, 18, 19, 9, 10, 11, 20, 21, 22, 23, 12, 13] (WW E x h dr g0 g1 q ik r (nI L) sr sa en vl T ab be (hL kd pl (a 1) true false n ao 10) (hL kd pl (a 1) false false n at1 10) (hL kd pl (a 1) false true n an 10) fw ft mt (nf (wB (hL kd pl (a 1) true false n ao 10) (hL kd pl (a 1) false false n at1 10) (hL kd pl (a 1) false true n an 10) bn n k1 k2)) (a 1) (nI n) (nI u) (nI v) (nI w) kd pl bn dn dp nt ps da2 pe2 de2 no2 pa2 kd2 pl2 bn2 dn2 dp2 nt2 ps2 da3 pe3 de3 no3 pa3 kd3 pl3 bn3 dn3 dp3 nt3 ps3 da4 pe4 de4 no4 pa4 kd4 pl4 bn4 dn4 dp4 nt4 ps4 ab be fe fc mo (nI L) ta tl tkn va a kp ik r g bg b e vs) 0 11 rfl rfl (by decide) rfl rfl rfl (by simp only [WW, wput, List.set]) rfl (rfl), ?_⟩
      rintro w1 rfl
      refine ⟨_, sc_V hC (f_X12_weeks_ok (kl K) E q ab be fe fc mo (nI L) ta tl tkn va a r g n k1 k2 (by first | assumption | omega) (by first | assumption | omega) (by first | assumption | omega) (by first | assumption | omega) (by first | assumption | omega) (by first | assumption | omega)) wX12_weeks [52, 53, 56, 57] (WW E x h dr g0 g1 q ik r (nI L) sr sa en vl T ab be (hL kd pl (a 1) true false n ao 10) (hL kd pl (a 1) false false n at1 10) (hL kd pl (a 1) false true n an 10) fw ft mt (nf (wB (hL kd pl (a 1) true false n ao 10) (hL kd pl (a 1) false false n at1 10) (hL kd pl (a 1) false true n an 10) bn n k1 k2)) (a 1) (nI n) (nI u) (nI v) (nI w) kd pl bn dn dp nt ps da2 pe2 de2 no2 pa2 kd2 pl2 bn2 dn2 dp2 nt2 ps2 da3 pe3 de3 no3 pa3 kd3 pl3 bn3 dn3 dp3 nt3 ps3 da4 pe4 de4 no4 pa4 kd4 pl4 bn4 dn4 dp4 nt4 ps4 ab be fe fc mo (nI L) ta tl tkn va a kp ik r (wG a (hnd a g n) n k1 k2) bg b e vs) 52 12 rfl rfl (by decide) rfl rfl rfl (by simp only [WW, wput, List.set]) rfl (by rw [RB_ow (RB_wB rB rK (by omega) k2)]), ?_⟩
      rintro w2 rfl
      exact Rw_in (hH) (rfl) (rL) (hT) (hI0) (hI1)
  · skip
    have hb := (Bool.not_eq_true _).mp hb
    refine ⟨_, _, sc_V hC (f_X11_weeks_bad (kl K) E x h dr r p1 p2 (by first | assumption | omega)) wX11_weeks [0, 3] (WW E x h dr g0 g1 q ik (upd r 0 (r 0 + nI 1)) (nI L) sr sa en vl T ab be ao at1 an fw ft mt bh (a 1) (nI n) (nI u) (nI v) (nI w) kd pl bn dn dp nt ps da2 pe2 de2 no2 pa2 kd2 pl2 bn2 dn2 dp2 nt2 ps2 da3 pe3 de3 no3 pa3 kd3 pl3 bn3 dn3 dp3 nt3 ps3 da4 pe4 de4 no4 pa4 kd4 pl4 bn4 dn4 dp4 nt4 ps4 ab be fe fc mo (nI L) ta tl tkn va a kp ik r g bg b e vs) 0 11 rfl rfl (by decide) rfl rfl rfl (by simp only [WW, wput, List.set]) rfl (rfl), ?_⟩
    rintro w1 rfl
    refine ⟨_, sc_V hC (f_X12_weeks_bad (kl K) E q ab be fe fc mo (nI L) ta tl tkn va a r p1 p2 (by first | assumption | omega)) wX12_weeks [52, 53, 56] (WW E x h dr g0 g1 q ik (upd r 0 (r 0 + nI 1)) (nI L) sr sa en vl T ab be ao at1 an fw ft mt bh (a 1) (nI n) (nI u) (nI v) (nI w) kd pl bn dn dp nt ps da2 pe2 de2 no2 pa2 kd2 pl2 bn2 dn2 dp2 nt2 ps2 da3 pe3 de3 no3 pa3 kd3 pl3 bn3 dn3 dp3 nt3 ps3 da4 pe4 de4 no4 pa4 kd4 pl4 bn4 dn4 dp4 nt4 ps4 ab be fe fc mo (nI L) ta tl tkn va a kp ik (upd r 0 (r 0 + nI 1)) g bg b e vs) 52 12 rfl rfl (by decide) rfl rfl rfl (by simp only [WW, wput, List.set]) rfl (rfl), ?_⟩
    rintro w2 rfl
    exact Rw_in (hH) (rfl) (rL) (hT) (hI0) (hI1)
set_option maxHeartbeats 2000000 in
set_option maxRecDepth 100000 in
theorem j_part {K : Kx} {E : Ew} {cc : ByteArray} {nL : Nat} {own : String} {x h dr g0 g1 q : Nat → Nat} {ws : va_W} (hC : Cx K E cc nL own 8) (hR : Rw E x h dr g0 g1 q ws) (p1 : Int32) : JtL K E cc nL own (Rw E x h dr g0 g1 q) (x 0) (q 0) yX11_part yX12_part [.int p1] ws := by
  refine Rw_el hR ?_
  intro ik r L sr sa en vl T ab be ao at1 an fw ft mt bh da n u v w kd pl bn dn dp nt ps da2 pe2 de2 no2 pa2 kd2 pl2 bn2 dn2 dp2 nt2 ps2 da3 pe3 de3 no3 pa3 kd3 pl3 bn3 dn3 dp3 nt3 ps3 da4 pe4 de4 no4 pa4 kd4 pl4 bn4 dn4 dp4 nt4 ps4 fe fc mo ta tl tkn va a kp g bg b e vs hw hH hda rL hT hI0 hI1
  subst hw
  subst hda
  obtain ⟨h0, h2, h3, h4, hu6, hv6, hw8, rB, rK, hDd, hNn, hPp⟩ := id hH
  have hn7 := rB.2.2
  have hbn := RB_lt rB
  have hb128 := RB_128 rB
  have hb31 := RB_31 rB
  have hkd : ∀ p, p < n → kd p < 6 := fun p hp => (rK p hp).2.2.1
  have hpl : ∀ p, p < n → pl p < 10 := fun p hp => (rK p hp).2.2.2
  have hpk := RH_pk rK
  have hu9 := RH_u9 h4 hw8
  have hnm := RH_nm rB
  have hddM := RH_dd hDd
  have hntM := RH_ntM hNn
  have hntC := RH_ntC hNn
  have hdn : ∀ k, k < u → dn k < 7 := fun k hk => (hDd k hk).2.2.1
  have hdp : ∀ k, k < u → dp k ≤ 60 := fun k hk => (hDd k hk).2.2.2
  have hTc : ∀ j, j < L → T j < 128 := fun j hj => (hT j hj).2
  by_cases hb : (inB p1 2) = true
  · skip
    have hc1 := hb
    obtain ⟨k1, hk1, rfl⟩ := inB_ex (by omega) hc1
    rcases (show k1 = 0 ∨ k1 = 1 by omega) with rfl | rfl
    · skip
      refine ⟨_, _, sc_V hC (f_X11_part_0 (kl K) E x h dr ab be) wX11_part [0, 6] (WW E x h dr g0 g1 q ik r (nI L) sr sa en vl T ab be ao at1 an fw ft mt bh (a 1) (nI n) (nI u) (nI v) (nI w) kd pl bn dn dp nt ps da2 pe2 de2 no2 pa2 kd2 pl2 bn2 dn2 dp2 nt2 ps2 da3 pe3 de3 no3 pa3 kd3 pl3 bn3 dn3 dp3 nt3 ps3 da4 pe4 de4 no4 pa4 kd4 pl4 bn4 dn4 dp4 nt4 ps4 ab be fe fc mo (nI L) ta tl tkn va a kp ik r g bg b e vs) 0 11 rfl rfl (by decide) rfl rfl rfl (by simp only [WW, wput, List.set]) rfl (rfl), ?_⟩
      rintro w1 rfl
      refine ⟨_, sc_V hC (f_X12_part_0 (kl K) E q ab be fe fc mo (nI L) ta tl tkn va r) wX12_part [52, 56] (WW E x h dr g0 g1 q ik r (nI L) sr sa en vl T ab be ao at1 an fw ft mt bh (a 1) (nI n) (nI u) (nI v) (nI w) kd pl bn dn dp nt ps da2 pe2 de2 no2 pa2 kd2 pl2 bn2 dn2 dp2 nt2 ps2 da3 pe3 de3 no3 pa3 kd3 pl3 bn3 dn3 dp3 nt3 ps3 da4 pe4 de4 no4 pa4 kd4 pl4 bn4 dn4 dp4 nt4 ps4 ab be fe fc mo (nI L) ta tl tkn va a kp ik r g bg b e vs) 52 12 rfl rfl (by decide) rfl rfl rfl (by simp only [WW, wput, List.set]) rfl (rfl), ?_⟩
      rintro w2 rfl
      exact Rw_in (hH) (rfl) (rL) (hT) (hI0) (hI1)
    · skip
      refine ⟨_, _, sc_V hC (f_X11_part_1 (kl K) E x h dr ab be) wX11_part [0, 6] (WW E x h dr g0 g1 q ik r (nI L) sr sa en vl T ab be ao at1 an fw ft mt bh (a 1) (nI n) (nI u) (nI v) (nI w) kd pl bn dn dp nt ps da2 pe2 de2 no2 pa2 kd2 pl2 bn2 dn2 dp2 nt2 ps2 da3 pe3 de3 no3 pa3 kd3 pl3 bn3 dn3 dp3 nt3 ps3 da4 pe4 de4 no4 pa4 kd4 pl4 bn4 dn4 dp4 nt4 ps4 ab be fe fc mo (nI L) ta tl tkn va a kp ik r g bg b e vs) 0 11 rfl rfl (by decide) rfl rfl rfl (by simp only [WW, wput, List.set]) rfl (rfl), ?_⟩
      rintro w1 rfl
      refine ⟨_, sc_V hC (f_X12_part_1 (kl K) E q ab be fe fc mo (nI L) ta tl tkn va r) wX12_part [52, 56] (WW E x h dr g0 g1 q ik r (nI L) sr sa en vl T ab be ao at1 an fw ft mt bh (a 1) (nI n) (nI u) (nI v) (nI w) kd pl bn dn dp nt ps da2 pe2 de2 no2 pa2 kd2 pl2 bn2 dn2 dp2 nt2 ps2 da3 pe3 de3 no3 pa3 kd3 pl3 bn3 dn3 dp3 nt3 ps3 da4 pe4 de4 no4 pa4 kd4 pl4 bn4 dn4 dp4 nt4 ps4 ab be fe fc mo (nI L) ta tl tkn va a kp ik r g bg b e vs) 52 12 rfl rfl (by decide) rfl rfl rfl (by simp only [WW, wput, List.set]) rfl (rfl), ?_⟩
      rintro w2 rfl
      exact Rw_in (hH) (rfl) (rL) (hT) (hI0) (hI1)
  · skip
    have hb := (Bool.not_eq_true _).mp hb
    refine ⟨_, _, sc_V hC (f_X11_part_bad (kl K) E x h dr r p1 (by first | assumption | omega)) wX11_part [0, 3] (WW E x h dr g0 g1 q ik (upd r 0 (r 0 + nI 1)) (nI L) sr sa en vl T ab be ao at1 an fw ft mt bh (a 1) (nI n) (nI u) (nI v) (nI w) kd pl bn dn dp nt ps da2 pe2 de2 no2 pa2 kd2 pl2 bn2 dn2 dp2 nt2 ps2 da3 pe3 de3 no3 pa3 kd3 pl3 bn3 dn3 dp3 nt3 ps3 da4 pe4 de4 no4 pa4 kd4 pl4 bn4 dn4 dp4 nt4 ps4 ab be fe fc mo (nI L) ta tl tkn va a kp ik r g bg b e vs) 0 11 rfl rfl (by decide) rfl rfl rfl (by simp only [WW, wput, List.set]) rfl (rfl), ?_⟩
    rintro w1 rfl
    refine ⟨_, sc_V hC (f_X12_part_bad (kl K) E q ab be fe fc mo (nI L) ta tl tkn va r p1 (by first | assumption | omega)) wX12_part [52, 56] (WW E x h dr g0 g1 q ik (upd r 0 (r 0 + nI 1)) (nI L) sr sa en vl T ab be ao at1 an fw ft mt bh (a 1) (nI n) (nI u) (nI v) (nI w) kd pl bn dn dp nt ps da2 pe2 de2 no2 pa2 kd2 pl2 bn2 dn2 dp2 nt2 ps2 da3 pe3 de3 no3 pa3 kd3 pl3 bn3 dn3 dp3 nt3 ps3 da4 pe4 de4 no4 pa4 kd4 pl4 bn4 dn4 dp4 nt4 ps4 ab be fe fc mo (nI L) ta tl tkn va a kp ik (upd r 0 (r 0 + nI 1)) g bg b e vs) 52 12 rfl rfl (by decide) rfl rfl rfl (by simp only [WW, wput, List.set]) rfl (rfl), ?_⟩
    rintro w2 rfl
    exact Rw_in (hH) (rfl) (rL) (hT) (hI0) (hI1)
set_option maxHeartbeats 2000000 in
set_option maxRecDepth 100000 in
theorem j_image {K : Kx} {E : Ew} {cc : ByteArray} {nL : Nat} {own : String} {x h dr g0 g1 q : Nat → Nat} {ws : va_W} (hC : Cx K E cc nL own 8) (hR : Rw E x h dr g0 g1 q ws) (p1 : Int32) : Jt K E cc nL own (Rw E x h dr g0 g1 q) (x 0) (q 0) yX11_image yX12_image [.int p1] ws := by
  refine Rw_el hR ?_
  intro ik r L sr sa en vl T ab be ao at1 an fw ft mt bh da n u v w kd pl bn dn dp nt ps da2 pe2 de2 no2 pa2 kd2 pl2 bn2 dn2 dp2 nt2 ps2 da3 pe3 de3 no3 pa3 kd3 pl3 bn3 dn3 dp3 nt3 ps3 da4 pe4 de4 no4 pa4 kd4 pl4 bn4 dn4 dp4 nt4 ps4 fe fc mo ta tl tkn va a kp g bg b e vs hw hH hda rL hT hI0 hI1
  subst hw
  subst hda
  obtain ⟨h0, h2, h3, h4, hu6, hv6, hw8, rB, rK, hDd, hNn, hPp⟩ := id hH
  have hn7 := rB.2.2
  have hbn := RB_lt rB
  have hb128 := RB_128 rB
  have hb31 := RB_31 rB
  have hkd : ∀ p, p < n → kd p < 6 := fun p hp => (rK p hp).2.2.1
  have hpl : ∀ p, p < n → pl p < 10 := fun p hp => (rK p hp).2.2.2
  have hpk := RH_pk rK
  have hu9 := RH_u9 h4 hw8
  have hnm := RH_nm rB
  have hddM := RH_dd hDd
  have hntM := RH_ntM hNn
  have hntC := RH_ntC hNn
  have hdn : ∀ k, k < u → dn k < 7 := fun k hk => (hDd k hk).2.2.1
  have hdp : ∀ k, k < u → dp k ≤ 60 := fun k hk => (hDd k hk).2.2.2
  have hTc : ∀ j, j < L → T j < 128 := fun j hj => (hT j hj).2
  by_cases hb : (inB p1 2) = true
  · skip
    have hc1 := hb
    obtain ⟨k1, hk1, rfl⟩ := inB_ex (by omega) hc1
    rcases (show k1 = 0 ∨ k1 = 1 by omega) with rfl | rfl
    · skip
      refine ⟨_, _, sc_V hC (f_X11_image_0 (kl K) E x h dr g0 g1 ik (a 1) (nI n) (nI u) (nI v) (nI w) kd pl bn dn dp nt ps da3 pe3 de3 no3 pa3 kd3 pl3 bn3 dn3 dp3 nt3 ps3) wX11_image [0, 1, 2, 20, 21, 22, 23, 24, 25, 26, 27, 36, 37, 38, 39, 40, 41, 42, 43] (WW E x h dr g0 g1 q (upd ik 0 (nI 1)) r (nI L) sr sa en vl T ab be ao at1 an fw ft mt bh (a 1) (nI n) (nI u) (nI v) (nI w) kd pl bn dn dp nt ps da2 pe2 de2 no2 pa2 kd2 pl2 bn2 dn2 dp2 nt2 ps2 (a 1) (nI n) (nI u) (nI v) (nI w) kd pl bn dn dp nt ps da4 pe4 de4 no4 pa4 kd4 pl4 bn4 dn4 dp4 nt4 ps4 ab be fe fc mo (nI L) ta tl tkn va a kp ik r g bg b e vs) 0 11 rfl rfl (by decide) rfl rfl rfl (by simp only [WW, wput, List.set]) rfl (rfl), ?_⟩
      rintro w1 rfl
      refine ⟨_, sc_V hC (f_X12_image_ok (kl K) E q ab be fe fc mo (nI L) ta tl tkn va a r kp ik 0 (by first | assumption | omega)) wX12_image [52, 53, 56, 54, 55] (WW E x h dr g0 g1 q (upd ik 0 (nI 1)) r (nI L) sr sa en vl T ab be ao at1 an fw ft mt bh (a 1) (nI n) (nI u) (nI v) (nI w) kd pl bn dn dp nt ps da2 pe2 de2 no2 pa2 kd2 pl2 bn2 dn2 dp2 nt2 ps2 (a 1) (nI n) (nI u) (nI v) (nI w) kd pl bn dn dp nt ps da4 pe4 de4 no4 pa4 kd4 pl4 bn4 dn4 dp4 nt4 ps4 ab be fe fc mo (nI L) ta tl tkn va a (imK kp a 0 188) (upd ik 0 (nI 1)) r g bg b e vs) 52 12 rfl rfl (by decide) rfl rfl rfl (by simp only [WW, wput, List.set]) rfl (rfl), ?_⟩
      rintro w2 rfl
      exact Rw_in (hH) (rfl) (rL) (hT) (Or.inr ⟨upd_s _ _ _, n, u, v, w, rfl, rfl, rfl, rfl, RH_image hH, imR_new (by decide)⟩) (Ri_keep (i := 0) (by decide) hI1)
    · skip
      refine ⟨_, _, sc_V hC (f_X11_image_1 (kl K) E x h dr g0 g1 ik (a 1) (nI n) (nI u) (nI v) (nI w) kd pl bn dn dp nt ps da4 pe4 de4 no4 pa4 kd4 pl4 bn4 dn4 dp4 nt4 ps4) wX11_image [0, 1, 2, 20, 21, 22, 23, 24, 25, 26, 27, 44, 45, 46, 47, 48, 49, 50, 51] (WW E x h dr g0 g1 q (upd ik 1 (nI 1)) r (nI L) sr sa en vl T ab be ao at1 an fw ft mt bh (a 1) (nI n) (nI u) (nI v) (nI w) kd pl bn dn dp nt ps da2 pe2 de2 no2 pa2 kd2 pl2 bn2 dn2 dp2 nt2 ps2 da3 pe3 de3 no3 pa3 kd3 pl3 bn3 dn3 dp3 nt3 ps3 (a 1) (nI n) (nI u) (nI v) (nI w) kd pl bn dn dp nt ps ab be fe fc mo (nI L) ta tl tkn va a kp ik r g bg b e vs) 0 11 rfl rfl (by decide) rfl rfl rfl (by simp only [WW, wput, List.set]) rfl (rfl), ?_⟩
      rintro w1 rfl
      refine ⟨_, sc_V hC (f_X12_image_ok (kl K) E q ab be fe fc mo (nI L) ta tl tkn va a r kp ik 1 (by first | assumption | omega)) wX12_image [52, 53, 56, 54, 55] (WW E x h dr g0 g1 q (upd ik 1 (nI 1)) r (nI L) sr sa en vl T ab be ao at1 an fw ft mt bh (a 1) (nI n) (nI u) (nI v) (nI w) kd pl bn dn dp nt ps da2 pe2 de2 no2 pa2 kd2 pl2 bn2 dn2 dp2 nt2 ps2 da3 pe3 de3 no3 pa3 kd3 pl3 bn3 dn3 dp3 nt3 ps3 (a 1) (nI n) (nI u) (nI v) (nI w) kd pl bn dn dp nt ps ab be fe fc mo (nI L) ta tl tkn va a (imK kp a 1 188) (upd ik 1 (nI 1)) r g bg b e vs) 52 12 rfl rfl (by decide) rfl rfl rfl (by simp only [WW, wput, List.set]) rfl (rfl), ?_⟩
      rintro w2 rfl
      exact Rw_in (hH) (rfl) (rL) (hT) (Ri_keep (i := 1) (by decide) hI0) (Or.inr ⟨upd_s _ _ _, n, u, v, w, rfl, rfl, rfl, rfl, RH_image hH, imR_new (by decide)⟩)
  · skip
    have hb := (Bool.not_eq_true _).mp hb
    refine ⟨_, _, sc_V hC (f_X11_image_bad (kl K) E x h dr r p1 (by first | assumption | omega)) wX11_image [0, 3] (WW E x h dr g0 g1 q ik (upd r 0 (r 0 + nI 1)) (nI L) sr sa en vl T ab be ao at1 an fw ft mt bh (a 1) (nI n) (nI u) (nI v) (nI w) kd pl bn dn dp nt ps da2 pe2 de2 no2 pa2 kd2 pl2 bn2 dn2 dp2 nt2 ps2 da3 pe3 de3 no3 pa3 kd3 pl3 bn3 dn3 dp3 nt3 ps3 da4 pe4 de4 no4 pa4 kd4 pl4 bn4 dn4 dp4 nt4 ps4 ab be fe fc mo (nI L) ta tl tkn va a kp ik r g bg b e vs) 0 11 rfl rfl (by decide) rfl rfl rfl (by simp only [WW, wput, List.set]) rfl (rfl), ?_⟩
    rintro w1 rfl
    refine ⟨_, sc_V hC (f_X12_image_bad (kl K) E q ab be fe fc mo (nI L) ta tl tkn va r p1 (by first | assumption | omega)) wX12_image [52, 56] (WW E x h dr g0 g1 q ik (upd r 0 (r 0 + nI 1)) (nI L) sr sa en vl T ab be ao at1 an fw ft mt bh (a 1) (nI n) (nI u) (nI v) (nI w) kd pl bn dn dp nt ps da2 pe2 de2 no2 pa2 kd2 pl2 bn2 dn2 dp2 nt2 ps2 da3 pe3 de3 no3 pa3 kd3 pl3 bn3 dn3 dp3 nt3 ps3 da4 pe4 de4 no4 pa4 kd4 pl4 bn4 dn4 dp4 nt4 ps4 ab be fe fc mo (nI L) ta tl tkn va a kp ik (upd r 0 (r 0 + nI 1)) g bg b e vs) 52 12 rfl rfl (by decide) rfl rfl rfl (by simp only [WW, wput, List.set]) rfl (rfl), ?_⟩
    rintro w2 rfl
    exact Rw_in (hH) (rfl) (rL) (hT) (hI0) (hI1)
set_option maxHeartbeats 2000000 in
set_option maxRecDepth 100000 in
theorem j_from {K : Kx} {E : Ew} {cc : ByteArray} {nL : Nat} {own : String} {x h dr g0 g1 q : Nat → Nat} {ws : va_W} (hC : Cx K E cc nL own 8) (hR : Rw E x h dr g0 g1 q ws) (p1 : Int32) : Jt K E cc nL own (Rw E x h dr g0 g1 q) (x 0) (q 0) yX11_from yX12_from [.int p1] ws := by
  refine Rw_el hR ?_
  intro ik r L sr sa en vl T ab be ao at1 an fw ft mt bh da n u v w kd pl bn dn dp nt ps da2 pe2 de2 no2 pa2 kd2 pl2 bn2 dn2 dp2 nt2 ps2 da3 pe3 de3 no3 pa3 kd3 pl3 bn3 dn3 dp3 nt3 ps3 da4 pe4 de4 no4 pa4 kd4 pl4 bn4 dn4 dp4 nt4 ps4 fe fc mo ta tl tkn va a kp g bg b e vs hw hH hda rL hT hI0 hI1
  subst hw
  subst hda
  obtain ⟨h0, h2, h3, h4, hu6, hv6, hw8, rB, rK, hDd, hNn, hPp⟩ := id hH
  have hn7 := rB.2.2
  have hbn := RB_lt rB
  have hb128 := RB_128 rB
  have hb31 := RB_31 rB
  have hkd : ∀ p, p < n → kd p < 6 := fun p hp => (rK p hp).2.2.1
  have hpl : ∀ p, p < n → pl p < 10 := fun p hp => (rK p hp).2.2.2
  have hpk := RH_pk rK
  have hu9 := RH_u9 h4 hw8
  have hnm := RH_nm rB
  have hddM := RH_dd hDd
  have hntM := RH_ntM hNn
  have hntC := RH_ntC hNn
  have hdn : ∀ k, k < u → dn k < 7 := fun k hk => (hDd k hk).2.2.1
  have hdp : ∀ k, k < u → dp k ≤ 60 := fun k hk => (hDd k hk).2.2.2
  have hTc : ∀ j, j < L → T j < 128 := fun j hj => (hT j hj).2
  by_cases hb : (inB p1 2) = true
  · skip
    have hc1 := hb
    obtain ⟨k1, hk1, rfl⟩ := inB_ex (by omega) hc1
    rcases (show k1 = 0 ∨ k1 = 1 by omega) with rfl | rfl
    · skip
      rcases id hI0 with hk0 | ⟨hk1, n1, u1, v1, w1, rfl, rfl, rfl, rfl, hH1, hd1⟩
      · skip
        refine ⟨_, _, sc_V hC (f_X11_from_no0 (kl K) E x h dr r ik (by first | assumption | omega)) wX11_from [0, 2, 3] (WW E x h dr g0 g1 q ik (upd r 1 (r 1 + nI 1)) (nI L) sr sa en vl T ab be ao at1 an fw ft mt bh (a 1) (nI n) (nI u) (nI v) (nI w) kd pl bn dn dp nt ps da2 pe2 de2 no2 pa2 kd2 pl2 bn2 dn2 dp2 nt2 ps2 da3 pe3 de3 no3 pa3 kd3 pl3 bn3 dn3 dp3 nt3 ps3 da4 pe4 de4 no4 pa4 kd4 pl4 bn4 dn4 dp4 nt4 ps4 ab be fe fc mo (nI L) ta tl tkn va a kp ik r g bg b e vs) 0 11 rfl rfl (by decide) rfl rfl rfl (by simp only [WW, wput, List.set]) rfl (rfl), ?_⟩
        rintro w1 rfl
        refine ⟨_, sc_V hC (f_X12_from_no (kl K) E q ab be fe fc mo (nI L) ta tl tkn va r ik 0 (by first | assumption | omega) (by first | assumption | omega)) wX12_from [52, 56, 55] (WW E x h dr g0 g1 q ik (upd r 1 (r 1 + nI 1)) (nI L) sr sa en vl T ab be ao at1 an fw ft mt bh (a 1) (nI n) (nI u) (nI v) (nI w) kd pl bn dn dp nt ps da2 pe2 de2 no2 pa2 kd2 pl2 bn2 dn2 dp2 nt2 ps2 da3 pe3 de3 no3 pa3 kd3 pl3 bn3 dn3 dp3 nt3 ps3 da4 pe4 de4 no4 pa4 kd4 pl4 bn4 dn4 dp4 nt4 ps4 ab be fe fc mo (nI L) ta tl tkn va a kp ik (upd r 1 (r 1 + nI 1)) g bg b e vs) 52 12 rfl rfl (by decide) rfl rfl rfl (by simp only [WW, wput, List.set]) rfl (rfl), ?_⟩
        rintro w2 rfl
        exact Rw_in (hH) (rfl) (rL) (hT) (hI0) (hI1)
      · skip
        refine ⟨_, _, sc_V hC (f_X11_from_0 (kl K) E x h dr g0 g1 ik (a 1) (nI n) (nI u) (nI v) (nI w) kd pl bn dn dp nt ps da3 (nI n1) (nI u1) (nI v1) (nI w1) kd3 pl3 bn3 dn3 dp3 nt3 ps3 (hk1)) wX11_from [0, 1, 2, 20, 21, 22, 23, 24, 25, 26, 27, 36, 37, 38, 39, 40, 41, 42, 43] (WW E x h dr g0 g1 q ik r (nI L) sr sa en vl T ab be ao at1 an fw ft mt bh da3 (nI n1) (nI u1) (nI v1) (nI w1) kd3 pl3 bn3 dn3 dp3 nt3 ps3 da2 pe2 de2 no2 pa2 kd2 pl2 bn2 dn2 dp2 nt2 ps2 da3 (nI n1) (nI u1) (nI v1) (nI w1) kd3 pl3 bn3 dn3 dp3 nt3 ps3 da4 pe4 de4 no4 pa4 kd4 pl4 bn4 dn4 dp4 nt4 ps4 ab be fe fc mo (nI L) ta tl tkn va a kp ik r g bg b e vs) 0 11 rfl rfl (by decide) rfl rfl rfl (by simp only [WW, wput, List.set]) rfl (rfl), ?_⟩
        rintro w1 rfl
        refine ⟨_, sc_V hC (f_X12_from_ok (kl K) E q ab be fe fc mo (nI L) ta tl tkn va a r kp ik 0 (by first | assumption | omega) (hk1)) wX12_from [52, 53, 56, 54, 55] (WW E x h dr g0 g1 q ik r (nI L) sr sa en vl T ab be ao at1 an fw ft mt bh da3 (nI n1) (nI u1) (nI v1) (nI w1) kd3 pl3 bn3 dn3 dp3 nt3 ps3 da2 pe2 de2 no2 pa2 kd2 pl2 bn2 dn2 dp2 nt2 ps2 da3 (nI n1) (nI u1) (nI v1) (nI w1) kd3 pl3 bn3 dn3 dp3 nt3 ps3 da4 pe4 de4 no4 pa4 kd4 pl4 bn4 dn4 dp4 nt4 ps4 ab be fe fc mo (nI L) ta tl tkn va (nw a (fun j => kp (188 * 0 + j)) 188) kp ik r g bg b e vs) 52 12 rfl rfl (by decide) rfl rfl rfl (by simp only [WW, wput, List.set]) rfl (rfl), ?_⟩
        rintro w2 rfl
        exact Rw_in (RH_from hH1) (hd1) (rL) (hT) (hI0) (hI1)
    · skip
      rcases id hI1 with hk0 | ⟨hk1, n1, u1, v1, w1, rfl, rfl, rfl, rfl, hH1, hd1⟩
      · skip
        refine ⟨_, _, sc_V hC (f_X11_from_no1 (kl K) E x h dr r ik (by first | assumption | omega)) wX11_from [0, 2, 3] (WW E x h dr g0 g1 q ik (upd r 1 (r 1 + nI 1)) (nI L) sr sa en vl T ab be ao at1 an fw ft mt bh (a 1) (nI n) (nI u) (nI v) (nI w) kd pl bn dn dp nt ps da2 pe2 de2 no2 pa2 kd2 pl2 bn2 dn2 dp2 nt2 ps2 da3 pe3 de3 no3 pa3 kd3 pl3 bn3 dn3 dp3 nt3 ps3 da4 pe4 de4 no4 pa4 kd4 pl4 bn4 dn4 dp4 nt4 ps4 ab be fe fc mo (nI L) ta tl tkn va a kp ik r g bg b e vs) 0 11 rfl rfl (by decide) rfl rfl rfl (by simp only [WW, wput, List.set]) rfl (rfl), ?_⟩
        rintro w1 rfl
        refine ⟨_, sc_V hC (f_X12_from_no (kl K) E q ab be fe fc mo (nI L) ta tl tkn va r ik 1 (by first | assumption | omega) (by first | assumption | omega)) wX12_from [52, 56, 55] (WW E x h dr g0 g1 q ik (upd r 1 (r 1 + nI 1)) (nI L) sr sa en vl T ab be ao at1 an fw ft mt bh (a 1) (nI n) (nI u) (nI v) (nI w) kd pl bn dn dp nt ps da2 pe2 de2 no2 pa2 kd2 pl2 bn2 dn2 dp2 nt2 ps2 da3 pe3 de3 no3 pa3 kd3 pl3 bn3 dn3 dp3 nt3 ps3 da4 pe4 de4 no4 pa4 kd4 pl4 bn4 dn4 dp4 nt4 ps4 ab be fe fc mo (nI L) ta tl tkn va a kp ik (upd r 1 (r 1 + nI 1)) g bg b e vs) 52 12 rfl rfl (by decide) rfl rfl rfl (by simp only [WW, wput, List.set]) rfl (rfl), ?_⟩
        rintro w2 rfl
        exact Rw_in (hH) (rfl) (rL) (hT) (hI0) (hI1)
      · skip
        refine ⟨_, _, sc_V hC (f_X11_from_1 (kl K) E x h dr g0 g1 ik (a 1) (nI n) (nI u) (nI v) (nI w) kd pl bn dn dp nt ps da4 (nI n1) (nI u1) (nI v1) (nI w1) kd4 pl4 bn4 dn4 dp4 nt4 ps4 (hk1)) wX11_from [0, 1, 2, 20, 21, 22, 23, 24, 25, 26, 27, 44, 45, 46, 47, 48, 49, 50, 51] (WW E x h dr g0 g1 q ik r (nI L) sr sa en vl T ab be ao at1 an fw ft mt bh da4 (nI n1) (nI u1) (nI v1) (nI w1) kd4 pl4 bn4 dn4 dp4 nt4 ps4 da2 pe2 de2 no2 pa2 kd2 pl2 bn2 dn2 dp2 nt2 ps2 da3 pe3 de3 no3 pa3 kd3 pl3 bn3 dn3 dp3 nt3 ps3 da4 (nI n1) (nI u1) (nI v1) (nI w1) kd4 pl4 bn4 dn4 dp4 nt4 ps4 ab be fe fc mo (nI L) ta tl tkn va a kp ik r g bg b e vs) 0 11 rfl rfl (by decide) rfl rfl rfl (by simp only [WW, wput, List.set]) rfl (rfl), ?_⟩
        rintro w1 rfl
        refine ⟨_, sc_V hC (f_X12_from_ok (kl K) E q ab be fe fc mo (nI L) ta tl tkn va a r kp ik 1 (by first | assumption | omega) (hk1)) wX12_from [52, 53, 56, 54, 55] (WW E x h dr g0 g1 q ik r (nI L) sr sa en vl T ab be ao at1 an fw ft mt bh da4 (nI n1) (nI u1) (nI v1) (nI w1) kd4 pl4 bn4 dn4 dp4 nt4 ps4 da2 pe2 de2 no2 pa2 kd2 pl2 bn2 dn2 dp2 nt2 ps2 da3 pe3 de3 no3 pa3 kd3 pl3 bn3 dn3 dp3 nt3 ps3 da4 (nI n1) (nI u1) (nI v1) (nI w1) kd4 pl4 bn4 dn4 dp4 nt4 ps4 ab be fe fc mo (nI L) ta tl tkn va (nw a (fun j => kp (188 * 1 + j)) 188) kp ik r g bg b e vs) 52 12 rfl rfl (by decide) rfl rfl rfl (by simp only [WW, wput, List.set]) rfl (rfl), ?_⟩
        rintro w2 rfl
        exact Rw_in (RH_from hH1) (hd1) (rL) (hT) (hI0) (hI1)
  · skip
    have hb := (Bool.not_eq_true _).mp hb
    refine ⟨_, _, sc_V hC (f_X11_from_bad (kl K) E x h dr r p1 (by first | assumption | omega)) wX11_from [0, 3] (WW E x h dr g0 g1 q ik (upd r 0 (r 0 + nI 1)) (nI L) sr sa en vl T ab be ao at1 an fw ft mt bh (a 1) (nI n) (nI u) (nI v) (nI w) kd pl bn dn dp nt ps da2 pe2 de2 no2 pa2 kd2 pl2 bn2 dn2 dp2 nt2 ps2 da3 pe3 de3 no3 pa3 kd3 pl3 bn3 dn3 dp3 nt3 ps3 da4 pe4 de4 no4 pa4 kd4 pl4 bn4 dn4 dp4 nt4 ps4 ab be fe fc mo (nI L) ta tl tkn va a kp ik r g bg b e vs) 0 11 rfl rfl (by decide) rfl rfl rfl (by simp only [WW, wput, List.set]) rfl (rfl), ?_⟩
    rintro w1 rfl
    refine ⟨_, sc_V hC (f_X12_from_bad (kl K) E q ab be fe fc mo (nI L) ta tl tkn va r p1 (by first | assumption | omega)) wX12_from [52, 56] (WW E x h dr g0 g1 q ik (upd r 0 (r 0 + nI 1)) (nI L) sr sa en vl T ab be ao at1 an fw ft mt bh (a 1) (nI n) (nI u) (nI v) (nI w) kd pl bn dn dp nt ps da2 pe2 de2 no2 pa2 kd2 pl2 bn2 dn2 dp2 nt2 ps2 da3 pe3 de3 no3 pa3 kd3 pl3 bn3 dn3 dp3 nt3 ps3 da4 pe4 de4 no4 pa4 kd4 pl4 bn4 dn4 dp4 nt4 ps4 ab be fe fc mo (nI L) ta tl tkn va a kp ik (upd r 0 (r 0 + nI 1)) g bg b e vs) 52 12 rfl rfl (by decide) rfl rfl rfl (by simp only [WW, wput, List.set]) rfl (rfl), ?_⟩
    rintro w2 rfl
    exact Rw_in (hH) (rfl) (rL) (hT) (hI0) (hI1)
set_option maxHeartbeats 2000000 in
set_option maxRecDepth 100000 in
theorem j_status {K : Kx} {E : Ew} {cc : ByteArray} {nL : Nat} {own : String} {x h dr g0 g1 q : Nat → Nat} {ws : va_W} (hC : Cx K E cc nL own 8) (hR : Rw E x h dr g0 g1 q ws) (p1 : Int32) : Jt K E cc nL own (Rw E x h dr g0 g1 q) (x 0) (q 0) yX11_status yX12_status [.int p1] ws := by
  refine Rw_el hR ?_
  intro ik r L sr sa en vl T ab be ao at1 an fw ft mt bh da n u v w kd pl bn dn dp nt ps da2 pe2 de2 no2 pa2 kd2 pl2 bn2 dn2 dp2 nt2 ps2 da3 pe3 de3 no3 pa3 kd3 pl3 bn3 dn3 dp3 nt3 ps3 da4 pe4 de4 no4 pa4 kd4 pl4 bn4 dn4 dp4 nt4 ps4 fe fc mo ta tl tkn va a kp g bg b e vs hw hH hda rL hT hI0 hI1
  subst hw
  subst hda
  obtain ⟨h0, h2, h3, h4, hu6, hv6, hw8, rB, rK, hDd, hNn, hPp⟩ := id hH
  have hn7 := rB.2.2
  have hbn := RB_lt rB
  have hb128 := RB_128 rB
  have hb31 := RB_31 rB
  have hkd : ∀ p, p < n → kd p < 6 := fun p hp => (rK p hp).2.2.1
  have hpl : ∀ p, p < n → pl p < 10 := fun p hp => (rK p hp).2.2.2
  have hpk := RH_pk rK
  have hu9 := RH_u9 h4 hw8
  have hnm := RH_nm rB
  have hddM := RH_dd hDd
  have hntM := RH_ntM hNn
  have hntC := RH_ntC hNn
  have hdn : ∀ k, k < u → dn k < 7 := fun k hk => (hDd k hk).2.2.1
  have hdp : ∀ k, k < u → dp k ≤ 60 := fun k hk => (hDd k hk).2.2.2
  have hTc : ∀ j, j < L → T j < 128 := fun j hj => (hT j hj).2
  by_cases hb : (inB p1 3) = true
  · skip
    have hc1 := hb
    obtain ⟨k1, hk1, rfl⟩ := inB_ex (by omega) hc1
    refine ⟨_, _, sc_V hC (f_X11_status_ok (kl K) E x h dr r k1 (by first | assumption | omega)) wX11_status [0, 3] (WW E x h dr g0 g1 q ik r (nI L) sr sa en vl T ab be ao at1 an fw ft mt bh (a 1) (nI n) (nI u) (nI v) (nI w) kd pl bn dn dp nt ps da2 pe2 de2 no2 pa2 kd2 pl2 bn2 dn2 dp2 nt2 ps2 da3 pe3 de3 no3 pa3 kd3 pl3 bn3 dn3 dp3 nt3 ps3 da4 pe4 de4 no4 pa4 kd4 pl4 bn4 dn4 dp4 nt4 ps4 ab be fe fc mo (nI L) ta tl tkn va a kp ik r g bg b e vs) 0 11 rfl rfl (by decide) rfl rfl rfl (by simp only [WW, wput, List.set]) rfl (rfl), ?_⟩
    rintro w1 rfl
    refine ⟨_, sc_V hC (f_X12_status_ok (kl K) E q ab be fe fc mo (nI L) ta tl tkn va r k1 (by first | assumption | omega)) wX12_status [52, 56] (WW E x h dr g0 g1 q ik r (nI L) sr sa en vl T ab be ao at1 an fw ft mt bh (a 1) (nI n) (nI u) (nI v) (nI w) kd pl bn dn dp nt ps da2 pe2 de2 no2 pa2 kd2 pl2 bn2 dn2 dp2 nt2 ps2 da3 pe3 de3 no3 pa3 kd3 pl3 bn3 dn3 dp3 nt3 ps3 da4 pe4 de4 no4 pa4 kd4 pl4 bn4 dn4 dp4 nt4 ps4 ab be fe fc mo (nI L) ta tl tkn va a kp ik r g bg b e vs) 52 12 rfl rfl (by decide) rfl rfl rfl (by simp only [WW, wput, List.set]) rfl (rfl), ?_⟩
    rintro w2 rfl
    exact Rw_in (hH) (rfl) (rL) (hT) (hI0) (hI1)
  · skip
    have hb := (Bool.not_eq_true _).mp hb
    refine ⟨_, _, sc_V hC (f_X11_status_bad (kl K) E x h dr r p1 (by first | assumption | omega)) wX11_status [0, 3] (WW E x h dr g0 g1 q ik (upd r 0 (r 0 + nI 1)) (nI L) sr sa en vl T ab be ao at1 an fw ft mt bh (a 1) (nI n) (nI u) (nI v) (nI w) kd pl bn dn dp nt ps da2 pe2 de2 no2 pa2 kd2 pl2 bn2 dn2 dp2 nt2 ps2 da3 pe3 de3 no3 pa3 kd3 pl3 bn3 dn3 dp3 nt3 ps3 da4 pe4 de4 no4 pa4 kd4 pl4 bn4 dn4 dp4 nt4 ps4 ab be fe fc mo (nI L) ta tl tkn va a kp ik r g bg b e vs) 0 11 rfl rfl (by decide) rfl rfl rfl (by simp only [WW, wput, List.set]) rfl (rfl), ?_⟩
    rintro w1 rfl
    refine ⟨_, sc_V hC (f_X12_status_bad (kl K) E q ab be fe fc mo (nI L) ta tl tkn va r p1 (by first | assumption | omega)) wX12_status [52, 56] (WW E x h dr g0 g1 q ik (upd r 0 (r 0 + nI 1)) (nI L) sr sa en vl T ab be ao at1 an fw ft mt bh (a 1) (nI n) (nI u) (nI v) (nI w) kd pl bn dn dp nt ps da2 pe2 de2 no2 pa2 kd2 pl2 bn2 dn2 dp2 nt2 ps2 da3 pe3 de3 no3 pa3 kd3 pl3 bn3 dn3 dp3 nt3 ps3 da4 pe4 de4 no4 pa4 kd4 pl4 bn4 dn4 dp4 nt4 ps4 ab be fe fc mo (nI L) ta tl tkn va a kp ik (upd r 0 (r 0 + nI 1)) g bg b e vs) 52 12 rfl rfl (by decide) rfl rfl rfl (by simp only [WW, wput, List.set]) rfl (rfl), ?_⟩
    rintro w2 rfl
    exact Rw_in (hH) (rfl) (rL) (hT) (hI0) (hI1)
set_option maxHeartbeats 2000000 in
set_option maxRecDepth 100000 in
theorem j_count {K : Kx} {E : Ew} {cc : ByteArray} {nL : Nat} {own : String} {x h dr g0 g1 q : Nat → Nat} {ws : va_W} (hC : Cx K E cc nL own 8) (hR : Rw E x h dr g0 g1 q ws) (p1 : Int32) : Jt K E cc nL own (Rw E x h dr g0 g1 q) (x 0) (q 0) yX11_count yX12_count [.int p1] ws := by
  refine Rw_el hR ?_
  intro ik r L sr sa en vl T ab be ao at1 an fw ft mt bh da n u v w kd pl bn dn dp nt ps da2 pe2 de2 no2 pa2 kd2 pl2 bn2 dn2 dp2 nt2 ps2 da3 pe3 de3 no3 pa3 kd3 pl3 bn3 dn3 dp3 nt3 ps3 da4 pe4 de4 no4 pa4 kd4 pl4 bn4 dn4 dp4 nt4 ps4 fe fc mo ta tl tkn va a kp g bg b e vs hw hH hda rL hT hI0 hI1
  subst hw
  subst hda
  obtain ⟨h0, h2, h3, h4, hu6, hv6, hw8, rB, rK, hDd, hNn, hPp⟩ := id hH
  have hn7 := rB.2.2
  have hbn := RB_lt rB
  have hb128 := RB_128 rB
  have hb31 := RB_31 rB
  have hkd : ∀ p, p < n → kd p < 6 := fun p hp => (rK p hp).2.2.1
  have hpl : ∀ p, p < n → pl p < 10 := fun p hp => (rK p hp).2.2.2
  have hpk := RH_pk rK
  have hu9 := RH_u9 h4 hw8
  have hnm := RH_nm rB
  have hddM := RH_dd hDd
  have hntM := RH_ntM hNn
  have hntC := RH_ntC hNn
  have hdn : ∀ k, k < u → dn k < 7 := fun k hk => (hDd k hk).2.2.1
  have hdp : ∀ k, k < u → dp k ≤ 60 := fun k hk => (hDd k hk).2.2.2
  have hTc : ∀ j, j < L → T j < 128 := fun j hj => (hT j hj).2
  by_cases hb : (inB p1 7) = true
  · skip
    have hc1 := hb
    obtain ⟨k1, hk1, rfl⟩ := inB_ex (by omega) hc1
    refine ⟨_, _, sc_V hC (f_X11_count_ok (kl K) E x h dr (a 1) (nI n) (nI u) (nI v) (nI w) bn sr sa en vl (nI L) k1 (by first | assumption | omega)) wX11_count [0, 20, 23, 4] (WW E x h dr g0 g1 q ik r (nI L) sr sa en vl T ab be ao at1 an fw ft mt bh (a 1) (nI n) (nI u) (nI v) (nI w) kd pl bn dn dp nt ps da2 pe2 de2 no2 pa2 kd2 pl2 bn2 dn2 dp2 nt2 ps2 da3 pe3 de3 no3 pa3 kd3 pl3 bn3 dn3 dp3 nt3 ps3 da4 pe4 de4 no4 pa4 kd4 pl4 bn4 dn4 dp4 nt4 ps4 ab be fe fc mo (nI L) ta tl tkn va a kp ik r g bg b e vs) 0 11 rfl rfl (by decide) rfl rfl rfl (by simp only [WW, wput, List.set]) rfl (rfl), ?_⟩
    rintro w1 rfl
    refine ⟨_, sc_V hC (f_X12_count_ok (kl K) E q ab be fe fc mo (nI L) ta tl tkn va a r g n k1 (by first | assumption | omega) (by first | assumption | omega) (by first | assumption | omega)) wX12_count [52, 53, 56, 57] (WW E x h dr g0 g1 q ik r (nI L) sr sa en vl T ab be ao at1 an fw ft mt bh (a 1) (nI n) (nI u) (nI v) (nI w) kd pl bn dn dp nt ps da2 pe2 de2 no2 pa2 kd2 pl2 bn2 dn2 dp2 nt2 ps2 da3 pe3 de3 no3 pa3 kd3 pl3 bn3 dn3 dp3 nt3 ps3 da4 pe4 de4 no4 pa4 kd4 pl4 bn4 dn4 dp4 nt4 ps4 ab be fe fc mo (nI L) ta tl tkn va a kp ik r (hnd a g n) bg b e vs) 52 12 rfl rfl (by decide) rfl rfl rfl (by simp only [WW, wput, List.set]) rfl (by rw [← cn_eq rB, h0, h2, h3, h4]), ?_⟩
    rintro w2 rfl
    exact Rw_in (hH) (rfl) (rL) (hT) (hI0) (hI1)
  · skip
    have hb := (Bool.not_eq_true _).mp hb
    refine ⟨_, _, sc_V hC (f_X11_count_bad (kl K) E x h dr r p1 (by first | assumption | omega)) wX11_count [0, 3] (WW E x h dr g0 g1 q ik (upd r 0 (r 0 + nI 1)) (nI L) sr sa en vl T ab be ao at1 an fw ft mt bh (a 1) (nI n) (nI u) (nI v) (nI w) kd pl bn dn dp nt ps da2 pe2 de2 no2 pa2 kd2 pl2 bn2 dn2 dp2 nt2 ps2 da3 pe3 de3 no3 pa3 kd3 pl3 bn3 dn3 dp3 nt3 ps3 da4 pe4 de4 no4 pa4 kd4 pl4 bn4 dn4 dp4 nt4 ps4 ab be fe fc mo (nI L) ta tl tkn va a kp ik r g bg b e vs) 0 11 rfl rfl (by decide) rfl rfl rfl (by simp only [WW, wput, List.set]) rfl (rfl), ?_⟩
    rintro w1 rfl
    refine ⟨_, sc_V hC (f_X12_count_bad (kl K) E q ab be fe fc mo (nI L) ta tl tkn va r p1 (by first | assumption | omega)) wX12_count [52, 56] (WW E x h dr g0 g1 q ik (upd r 0 (r 0 + nI 1)) (nI L) sr sa en vl T ab be ao at1 an fw ft mt bh (a 1) (nI n) (nI u) (nI v) (nI w) kd pl bn dn dp nt ps da2 pe2 de2 no2 pa2 kd2 pl2 bn2 dn2 dp2 nt2 ps2 da3 pe3 de3 no3 pa3 kd3 pl3 bn3 dn3 dp3 nt3 ps3 da4 pe4 de4 no4 pa4 kd4 pl4 bn4 dn4 dp4 nt4 ps4 ab be fe fc mo (nI L) ta tl tkn va a kp ik (upd r 0 (r 0 + nI 1)) g bg b e vs) 52 12 rfl rfl (by decide) rfl rfl rfl (by simp only [WW, wput, List.set]) rfl (rfl), ?_⟩
    rintro w2 rfl
    exact Rw_in (hH) (rfl) (rL) (hT) (hI0) (hI1)
set_option maxHeartbeats 2000000 in
set_option maxRecDepth 100000 in
theorem j_digest {K : Kx} {E : Ew} {cc : ByteArray} {nL : Nat} {own : String} {x h dr g0 g1 q : Nat → Nat} {ws : va_W} (hC : Cx K E cc nL own 8) (hR : Rw E x h dr g0 g1 q ws) : JtL K E cc nL own (Rw E x h dr g0 g1 q) (x 0) (q 0) yX11_digest yX12_digest [] ws := by
  refine Rw_el hR ?_
  intro ik r L sr sa en vl T ab be ao at1 an fw ft mt bh da n u v w kd pl bn dn dp nt ps da2 pe2 de2 no2 pa2 kd2 pl2 bn2 dn2 dp2 nt2 ps2 da3 pe3 de3 no3 pa3 kd3 pl3 bn3 dn3 dp3 nt3 ps3 da4 pe4 de4 no4 pa4 kd4 pl4 bn4 dn4 dp4 nt4 ps4 fe fc mo ta tl tkn va a kp g bg b e vs hw hH hda rL hT hI0 hI1
  subst hw
  subst hda
  obtain ⟨h0, h2, h3, h4, hu6, hv6, hw8, rB, rK, hDd, hNn, hPp⟩ := id hH
  have hn7 := rB.2.2
  have hbn := RB_lt rB
  have hb128 := RB_128 rB
  have hb31 := RB_31 rB
  have hkd : ∀ p, p < n → kd p < 6 := fun p hp => (rK p hp).2.2.1
  have hpl : ∀ p, p < n → pl p < 10 := fun p hp => (rK p hp).2.2.2
  have hpk := RH_pk rK
  have hu9 := RH_u9 h4 hw8
  have hnm := RH_nm rB
  have hddM := RH_dd hDd
  have hntM := RH_ntM hNn
  have hntC := RH_ntC hNn
  have hdn : ∀ k, k < u → dn k < 7 := fun k hk => (hDd k hk).2.2.1
  have hdp : ∀ k, k < u → dp k ≤ 60 := fun k hk => (hDd k hk).2.2.2
  have hTc : ∀ j, j < L → T j < 128 := fun j hj => (hT j hj).2
  refine ⟨_, _, sc_V hC (f_X11_digest (kl K) E x h dr (a 1) (nI w) kd pl bn dn dp nt n u v sr sa en vl (nI L) ab be (by first | assumption | omega) (by first | assumption | omega) (by first | assumption | omega) (by first | assumption | omega)) wX11_digest [0, 20, 21, 22, 23, 24, 25, 26, 4, 6] (WW E x h dr g0 g1 q ik r (nI L) sr sa en vl T ab be ao at1 an fw ft mt bh (a 1) (nI n) (nI u) (nI v) (nI w) kd pl bn dn dp nt ps da2 pe2 de2 no2 pa2 kd2 pl2 bn2 dn2 dp2 nt2 ps2 da3 pe3 de3 no3 pa3 kd3 pl3 bn3 dn3 dp3 nt3 ps3 da4 pe4 de4 no4 pa4 kd4 pl4 bn4 dn4 dp4 nt4 ps4 ab be fe fc mo (nI L) ta tl tkn va a kp ik r g bg b e vs) 0 11 rfl rfl (by decide) rfl rfl rfl (by simp only [WW, wput, List.set]) rfl (rfl), ?_⟩
  rintro w1 rfl
  refine ⟨_, sc_VE hC (f_X12_digest (kl K) E q ab be fe fc mo (nI L) ta tl tkn va a g n u v (by first | assumption | omega) (by first | assumption | omega) (by first | assumption | omega) (by first | assumption | omega) (by first | assumption | omega) (by first | assumption | omega)) wX12_digest [52, 53, 57] (fun jj => WW E x h dr g0 g1 q ik r (nI L) sr sa en vl T ab be ao at1 an fw ft mt bh (a 1) (nI n) (nI u) (nI v) (nI w) kd pl bn dn dp nt ps da2 pe2 de2 no2 pa2 kd2 pl2 bn2 dn2 dp2 nt2 ps2 da3 pe3 de3 no3 pa3 kd3 pl3 bn3 dn3 dp3 nt3 ps3 da4 pe4 de4 no4 pa4 kd4 pl4 bn4 dn4 dp4 nt4 ps4 ab be fe fc mo (nI L) ta tl tkn va a kp ik r (jj 0) bg b e vs) 52 12 rfl rfl (by decide) rfl rfl rfl (fun jj => by simp only [WW, wput, List.set]) (fun _ => rfl) (by rw [← dg_eq rB rK hDd hNn h0 h2 h3, h4]), ?_⟩
  rintro w2 ⟨jj2, rfl⟩
  exact Rw_in (hH) (rfl) (rL) (hT) (hI0) (hI1)
