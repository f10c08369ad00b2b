set_option maxHeartbeats 2000000 in
set_option maxRecDepth 100000 in
theorem j_undo {K : Kx} {E : Ew} {cc : ByteArray} {nL : Nat} {own : String} {x h dr g0 g1 q : Nat → Nat} {ws : va_W} (hC : Cx K E cc nL own 8) (hR : Rw E x h dr g0 g1 q ws) : Jt K E cc nL own (Rw E x h dr g0 g1 q) (x 0) (q 0) yX11_undo yX12_undo [] ws := by
  refine Rw_el hR ?_
  intro ik r L sr sa en vl T ab be ao at1 an fw ft mt bh da n u v w kd pl bn dn dp nt ps da2 pe2 de2 no2 pa2 kd2 pl2 bn2 dn2 dp2 nt2 ps2 da3 pe3 de3 no3 pa3 kd3 pl3 bn3 dn3 dp3 nt3 ps3 da4 pe4 de4 no4 pa4 kd4 pl4 bn4 dn4 dp4 nt4 ps4 fe fc mo ta tl tkn va a kp g bg b e vs hw hH hda rL hT hI0 hI1
  subst hw
  subst hda
  obtain ⟨h0, h2, h3, h4, hu6, hv6, hw8, rB, rK, hDd, hNn, hPp⟩ := id hH
  have hn7 := rB.2.2
  have hbn := RB_lt rB
  have hb128 := RB_128 rB
  have hb31 := RB_31 rB
  have hkd : ∀ p, p < n → kd p < 6 := fun p hp => (rK p hp).2.2.1
  have hpl : ∀ p, p < n → pl p < 10 := fun p hp => (rK p hp).2.2.2
  have hpk := RH_pk rK
  have hu9 := RH_u9 h4 hw8
  have hnm := RH_nm rB
  have hddM := RH_dd hDd
  have hntM := RH_ntM hNn
  have hntC := RH_ntC hNn
  have hdn : ∀ k, k < u → dn k < 7 := fun k hk => (hDd k hk).2.2.1
  have hdp : ∀ k, k < u → dp k ≤ 60 := fun k hk => (hDd k hk).2.2.2
  have hTc : ∀ j, j < L → T j < 128 := fun j hj => (hT j hj).2
  by_cases hf : w = 0
  · skip
    subst hf
    refine ⟨_, _, sc_V hC (f_X11_undo_no (kl K) E x h dr (a 1) (nI u) (nI v) (nI n) r) wX11_undo [0, 20, 3] (WW E x h dr g0 g1 q ik (upd r 1 (r 1 + nI 1)) (nI L) sr sa en vl T ab be ao at1 an fw ft mt bh (a 1) (nI n) (nI u) (nI v) (nI 0) kd pl bn dn dp nt ps da2 pe2 de2 no2 pa2 kd2 pl2 bn2 dn2 dp2 nt2 ps2 da3 pe3 de3 no3 pa3 kd3 pl3 bn3 dn3 dp3 nt3 ps3 da4 pe4 de4 no4 pa4 kd4 pl4 bn4 dn4 dp4 nt4 ps4 ab be fe fc mo (nI L) ta tl tkn va a kp ik r g bg b e vs) 0 11 rfl rfl (by decide) rfl rfl rfl (by simp only [WW, wput, List.set]) rfl (rfl), ?_⟩
    rintro w1 rfl
    refine ⟨_, sc_V hC (f_X12_undo_no (kl K) E q ab be fe fc mo (nI L) ta tl tkn va a r (by first | assumption | omega)) wX12_undo [52, 53, 56] (WW E x h dr g0 g1 q ik (upd r 1 (r 1 + nI 1)) (nI L) sr sa en vl T ab be ao at1 an fw ft mt bh (a 1) (nI n) (nI u) (nI v) (nI 0) kd pl bn dn dp nt ps da2 pe2 de2 no2 pa2 kd2 pl2 bn2 dn2 dp2 nt2 ps2 da3 pe3 de3 no3 pa3 kd3 pl3 bn3 dn3 dp3 nt3 ps3 da4 pe4 de4 no4 pa4 kd4 pl4 bn4 dn4 dp4 nt4 ps4 ab be fe fc mo (nI L) ta tl tkn va a kp ik (upd r 1 (r 1 + nI 1)) g bg b e vs) 52 12 rfl rfl (by decide) rfl rfl rfl (by simp only [WW, wput, List.set]) rfl (rfl), ?_⟩
    rintro w2 rfl
    exact Rw_in (hH) (rfl) (rL) (hT) (hI0) (hI1)
  · skip
    obtain ⟨w, rfl⟩ := Nat.exists_eq_succ_of_ne_zero hf
    obtain ⟨pz, hz1, hz2, hz3⟩ := RH_undo hH
    refine ⟨_, _, sc_V hC (f_X11_undo_ok (kl K) E x h dr (a 1) (nI u) (nI v) (nI n) pl bn ps w pz (by first | assumption | omega) (by first | assumption | omega)) wX11_undo [0, 20, 22, 23, 27] (WW E x h dr g0 g1 q ik r (nI L) sr sa en vl T ab be ao at1 an fw ft mt bh (ps (w * 15 + 14)) (nI n) (nI u) (nI v) (nI w) kd (fun p => pz (7 + p)) pz dn dp nt ps da2 pe2 de2 no2 pa2 kd2 pl2 bn2 dn2 dp2 nt2 ps2 da3 pe3 de3 no3 pa3 kd3 pl3 bn3 dn3 dp3 nt3 ps3 da4 pe4 de4 no4 pa4 kd4 pl4 bn4 dn4 dp4 nt4 ps4 ab be fe fc mo (nI L) ta tl tkn va a kp ik r g bg b e vs) 0 11 rfl rfl (by decide) rfl rfl rfl (by simp only [WW, wput, List.set]) rfl (rfl), ?_⟩
    rintro w1 rfl
    refine ⟨_, sc_V hC (f_X12_undo_ok (kl K) E q ab be fe fc mo (nI L) ta tl tkn va a r w (by first | assumption | omega) (by first | assumption | omega)) wX12_undo [52, 53, 56] (WW E x h dr g0 g1 q ik r (nI L) sr sa en vl T ab be ao at1 an fw ft mt bh (ps (w * 15 + 14)) (nI n) (nI u) (nI v) (nI w) kd (fun p => pz (7 + p)) pz dn dp nt ps da2 pe2 de2 no2 pa2 kd2 pl2 bn2 dn2 dp2 nt2 ps2 da3 pe3 de3 no3 pa3 kd3 pl3 bn3 dn3 dp3 nt3 ps3 da4 pe4 de4 no4 pa4 kd4 pl4 bn4 dn4 dp4 nt4 ps4 ab be fe fc mo (nI L) ta tl tkn va (undF a w) kp ik r g bg b e vs) 52 12 rfl rfl (by decide) rfl rfl rfl (by simp only [WW, wput, List.set]) rfl (by rw [hz2]), ?_⟩
    rintro w2 rfl
    exact Rw_in (hz3) (by rw [undF_1, hz2]) (rL) (hT) (hI0) (hI1)
set_option maxHeartbeats 2000000 in
set_option maxRecDepth 100000 in
theorem j_of {K : Kx} {E : Ew} {cc : ByteArray} {nL : Nat} {own : String} {x h dr g0 g1 q : Nat → Nat} {ws : va_W} (hC : Cx K E cc nL own 8) (hR : Rw E x h dr g0 g1 q ws) (p1 p2 : Int32) : Jt K E cc nL own (Rw E x h dr g0 g1 q) (x 0) (q 0) yX11_of yX12_of [.int p1, .int p2] ws := by
  refine Rw_el hR ?_
  intro ik r L sr sa en vl T ab be ao at1 an fw ft mt bh da n u v w kd pl bn dn dp nt ps da2 pe2 de2 no2 pa2 kd2 pl2 bn2 dn2 dp2 nt2 ps2 da3 pe3 de3 no3 pa3 kd3 pl3 bn3 dn3 dp3 nt3 ps3 da4 pe4 de4 no4 pa4 kd4 pl4 bn4 dn4 dp4 nt4 ps4 fe fc mo ta tl tkn va a kp g bg b e vs hw hH hda rL hT hI0 hI1
  subst hw
  subst hda
  obtain ⟨h0, h2, h3, h4, hu6, hv6, hw8, rB, rK, hDd, hNn, hPp⟩ := id hH
  have hn7 := rB.2.2
  have hbn := RB_lt rB
  have hb128 := RB_128 rB
  have hb31 := RB_31 rB
  have hkd : ∀ p, p < n → kd p < 6 := fun p hp => (rK p hp).2.2.1
  have hpl : ∀ p, p < n → pl p < 10 := fun p hp => (rK p hp).2.2.2
  have hpk := RH_pk rK
  have hu9 := RH_u9 h4 hw8
  have hnm := RH_nm rB
  have hddM := RH_dd hDd
  have hntM := RH_ntM hNn
  have hntC := RH_ntC hNn
  have hdn : ∀ k, k < u → dn k < 7 := fun k hk => (hDd k hk).2.2.1
  have hdp : ∀ k, k < u → dp k ≤ 60 := fun k hk => (hDd k hk).2.2.2
  have hTc : ∀ j, j < L → T j < 128 := fun j hj => (hT j hj).2
  by_cases hb : (inB p1 n && inB p2 3) = true
  · skip
    simp only [Bool.and_eq_true] at hb
    obtain ⟨hc1, hc2⟩ := hb
    obtain ⟨k1, hk1, rfl⟩ := inB_ex (by omega) hc1
    obtain ⟨k2, hk2, rfl⟩ := inB_ex (by omega) hc2
    refine ⟨_, _, sc_V hC (f_X11_of_ok (kl K) E x h dr (a 1) (nI u) (nI v) (nI w) n kd pl bn k1 k2 (by first | assumption | omega) (by first | assumption | omega) (by first | assumption | omega) (by first | assumption | omega)) wX11_of [0, 20, 21, 22, 23] (WW E x h dr g0 g1 q ik r (nI L) sr sa en vl T ab be ao at1 an fw ft mt bh (a 1) (nI n) (nI u) (nI v) (nI w) kd pl bn dn dp nt ps da2 pe2 de2 no2 pa2 kd2 pl2 bn2 dn2 dp2 nt2 ps2 da3 pe3 de3 no3 pa3 kd3 pl3 bn3 dn3 dp3 nt3 ps3 da4 pe4 de4 no4 pa4 kd4 pl4 bn4 dn4 dp4 nt4 ps4 ab be fe fc mo (nI L) ta tl tkn va a kp ik r g bg b e vs) 0 11 rfl rfl (by decide) rfl rfl rfl (by simp only [WW, wput, List.set]) rfl (rfl), ?_⟩
    rintro w1 rfl
    refine ⟨_, sc_V hC (f_X12_of_ok (kl K) E q ab be fe fc mo (nI L) ta tl tkn va a r n k1 k2 (by first | assumption | omega) (by first | assumption | omega) (by first | assumption | omega) (by first | assumption | omega)) wX12_of [52, 53, 56] (WW E x h dr g0 g1 q ik r (nI L) sr sa en vl T ab be ao at1 an fw ft mt bh (a 1) (nI n) (nI u) (nI v) (nI w) kd pl bn dn dp nt ps da2 pe2 de2 no2 pa2 kd2 pl2 bn2 dn2 dp2 nt2 ps2 da3 pe3 de3 no3 pa3 kd3 pl3 bn3 dn3 dp3 nt3 ps3 da4 pe4 de4 no4 pa4 kd4 pl4 bn4 dn4 dp4 nt4 ps4 ab be fe fc mo (nI L) ta tl tkn va a kp ik r g bg b e vs) 52 12 rfl rfl (by decide) rfl rfl rfl (by simp only [WW, wput, List.set]) rfl (of_eq rB rK hk1 hk2), ?_⟩
    rintro w2 rfl
    exact Rw_in (hH) (rfl) (rL) (hT) (hI0) (hI1)
  · skip
    have hb := (Bool.not_eq_true _).mp hb
    refine ⟨_, _, sc_V hC (f_X11_of_bad (kl K) E x h dr (a 1) (nI u) (nI v) (nI w) n r p1 p2 (by first | assumption | omega) (by first | assumption | omega)) wX11_of [0, 20, 3] (WW E x h dr g0 g1 q ik (upd r 0 (r 0 + nI 1)) (nI L) sr sa en vl T ab be ao at1 an fw ft mt bh (a 1) (nI n) (nI u) (nI v) (nI w) kd pl bn dn dp nt ps da2 pe2 de2 no2 pa2 kd2 pl2 bn2 dn2 dp2 nt2 ps2 da3 pe3 de3 no3 pa3 kd3 pl3 bn3 dn3 dp3 nt3 ps3 da4 pe4 de4 no4 pa4 kd4 pl4 bn4 dn4 dp4 nt4 ps4 ab be fe fc mo (nI L) ta tl tkn va a kp ik r g bg b e vs) 0 11 rfl rfl (by decide) rfl rfl rfl (by simp only [WW, wput, List.set]) rfl (rfl), ?_⟩
    rintro w1 rfl
    refine ⟨_, sc_V hC (f_X12_of_bad (kl K) E q ab be fe fc mo (nI L) ta tl tkn va a r n p1 p2 (by first | assumption | omega) (by first | assumption | omega) (by first | assumption | omega)) wX12_of [52, 53, 56] (WW E x h dr g0 g1 q ik (upd r 0 (r 0 + nI 1)) (nI L) sr sa en vl T ab be ao at1 an fw ft mt bh (a 1) (nI n) (nI u) (nI v) (nI w) kd pl bn dn dp nt ps da2 pe2 de2 no2 pa2 kd2 pl2 bn2 dn2 dp2 nt2 ps2 da3 pe3 de3 no3 pa3 kd3 pl3 bn3 dn3 dp3 nt3 ps3 da4 pe4 de4 no4 pa4 kd4 pl4 bn4 dn4 dp4 nt4 ps4 ab be fe fc mo (nI L) ta tl tkn va a kp ik (upd r 0 (r 0 + nI 1)) g bg b e vs) 52 12 rfl rfl (by decide) rfl rfl rfl (by simp only [WW, wput, List.set]) rfl (rfl), ?_⟩
    rintro w2 rfl
    exact Rw_in (hH) (rfl) (rL) (hT) (hI0) (hI1)
set_option maxHeartbeats 2000000 in
set_option maxRecDepth 100000 in
theorem j_turn {K : Kx} {E : Ew} {cc : ByteArray} {nL : Nat} {own : String} {x h dr g0 g1 q : Nat → Nat} {ws : va_W} (hC : Cx K E cc nL own 8) (hR : Rw E x h dr g0 g1 q ws) (p1 p2 : Int32) : Jt K E cc nL own (Rw E x h dr g0 g1 q) (x 0) (q 0) yX11_turn yX12_turn [.int p1, .int p2] ws := by
  refine Rw_el hR ?_
  intro ik r L sr sa en vl T ab be ao at1 an fw ft mt bh da n u v w kd pl bn dn dp nt ps da2 pe2 de2 no2 pa2 kd2 pl2 bn2 dn2 dp2 nt2 ps2 da3 pe3 de3 no3 pa3 kd3 pl3 bn3 dn3 dp3 nt3 ps3 da4 pe4 de4 no4 pa4 kd4 pl4 bn4 dn4 dp4 nt4 ps4 fe fc mo ta tl tkn va a kp g bg b e vs hw hH hda rL hT hI0 hI1
  subst hw
  subst hda
  obtain ⟨h0, h2, h3, h4, hu6, hv6, hw8, rB, rK, hDd, hNn, hPp⟩ := id hH
  have hn7 := rB.2.2
  have hbn := RB_lt rB
  have hb128 := RB_128 rB
  have hb31 := RB_31 rB
  have hkd : ∀ p, p < n → kd p < 6 := fun p hp => (rK p hp).2.2.1
  have hpl : ∀ p, p < n → pl p < 10 := fun p hp => (rK p hp).2.2.2
  have hpk := RH_pk rK
  have hu9 := RH_u9 h4 hw8
  have hnm := RH_nm rB
  have hddM := RH_dd hDd
  have hntM := RH_ntM hNn
  have hntC := RH_ntC hNn
  have hdn : ∀ k, k < u → dn k < 7 := fun k hk => (hDd k hk).2.2.1
  have hdp : ∀ k, k < u → dp k ≤ 60 := fun k hk => (hDd k hk).2.2.2
  have hTc : ∀ j, j < L → T j < 128 := fun j hj => (hT j hj).2
  by_cases hb : (inB p1 n && inB p2 10) = true
  · skip
    simp only [Bool.and_eq_true] at hb
    obtain ⟨hc1, hc2⟩ := hb
    obtain ⟨k1, hk1, rfl⟩ := inB_ex (by omega) hc1
    obtain ⟨k2, hk2, rfl⟩ := inB_ex (by omega) hc2
    refine ⟨_, _, sc_V hC (f_X11_turn_ok (kl K) E x h dr (a 1) (nI u) (nI v) (nI w) n kd pl bn ao at1 an k1 k2 (by first | assumption | omega) (by first | assumption | omega) (by first | assumption | omega) (by first | assumption | omega) (by first | assumption | omega) (by first | assumption | omega)) wX11_turn [0, 7, 8, 14, 15, 16, 17, 18, 19, 9, 10, 11, 20, 21, 22, 23] (WW E x h dr g0 g1 q ik r (nI L) sr sa en vl T ab be (un ao k2 (hB kd pl k2 (a 1) true false n)) (un at1 k2 (hB kd pl k2 (a 1) false false n)) (un an k2 (hB kd pl k2 (a 1) false true n)) fw ft mt bh (a 1) (nI n) (nI u) (nI v) (nI w) kd pl bn dn dp nt ps da2 pe2 de2 no2 pa2 kd2 pl2 bn2 dn2 dp2 nt2 ps2 da3 pe3 de3 no3 pa3 kd3 pl3 bn3 dn3 dp3 nt3 ps3 da4 pe4 de4 no4 pa4 kd4 pl4 bn4 dn4 dp4 nt4 ps4 ab be fe fc mo (nI L) ta tl tkn va a kp ik r g bg b e vs) 0 11 rfl rfl (by decide) rfl rfl rfl (by simp only [WW, wput, List.set]) rfl (rfl), ?_⟩
    rintro w1 rfl
    refine ⟨_, sc_V hC (f_X12_turn_ok (kl K) E q ab be fe fc mo (nI L) ta tl tkn va a r g n k1 k2 (by first | assumption | omega) (by first | assumption | omega) (by first | assumption | omega) (by first | assumption | omega) (by first | assumption | omega)) wX12_turn [52, 53, 56, 57] (WW E x h dr g0 g1 q ik r (nI L) sr sa en vl T ab be (un ao k2 (hB kd pl k2 (a 1) true false n)) (un at1 k2 (hB kd pl k2 (a 1) false false n)) (un an k2 (hB kd pl k2 (a 1) false true n)) fw ft mt bh (a 1) (nI n) (nI u) (nI v) (nI w) kd pl bn dn dp nt ps da2 pe2 de2 no2 pa2 kd2 pl2 bn2 dn2 dp2 nt2 ps2 da3 pe3 de3 no3 pa3 kd3 pl3 bn3 dn3 dp3 nt3 ps3 da4 pe4 de4 no4 pa4 kd4 pl4 bn4 dn4 dp4 nt4 ps4 ab be fe fc mo (nI L) ta tl tkn va a kp ik r (hnd a g n) bg b e vs) 52 12 rfl rfl (by decide) rfl rfl rfl (by simp only [WW, wput, List.set]) rfl (by rw [RB_HT rB rK (by omega)]; rfl), ?_⟩
    rintro w2 rfl
    exact Rw_in (hH) (rfl) (rL) (hT) (hI0) (hI1)
  · skip
    have hb := (Bool.not_eq_true _).mp hb
    refine ⟨_, _, sc_V hC (f_X11_turn_bad (kl K) E x h dr (a 1) (nI u) (nI v) (nI w) n r p1 p2 (by first | assumption | omega) (by first | assumption | omega)) wX11_turn [0, 20, 3] (WW E x h dr g0 g1 q ik (upd r 0 (r 0 + nI 1)) (nI L) sr sa en vl T ab be ao at1 an fw ft mt bh (a 1) (nI n) (nI u) (nI v) (nI w) kd pl bn dn dp nt ps da2 pe2 de2 no2 pa2 kd2 pl2 bn2 dn2 dp2 nt2 ps2 da3 pe3 de3 no3 pa3 kd3 pl3 bn3 dn3 dp3 nt3 ps3 da4 pe4 de4 no4 pa4 kd4 pl4 bn4 dn4 dp4 nt4 ps4 ab be fe fc mo (nI L) ta tl tkn va a kp ik r g bg b e vs) 0 11 rfl rfl (by decide) rfl rfl rfl (by simp only [WW, wput, List.set]) rfl (rfl), ?_⟩
    rintro w1 rfl
    refine ⟨_, sc_V hC (f_X12_turn_bad (kl K) E q ab be fe fc mo (nI L) ta tl tkn va a r n p1 p2 (by first | assumption | omega) (by first | assumption | omega) (by first | assumption | omega)) wX12_turn [52, 53, 56] (WW E x h dr g0 g1 q ik (upd r 0 (r 0 + nI 1)) (nI L) sr sa en vl T ab be ao at1 an fw ft mt bh (a 1) (nI n) (nI u) (nI v) (nI w) kd pl bn dn dp nt ps da2 pe2 de2 no2 pa2 kd2 pl2 bn2 dn2 dp2 nt2 ps2 da3 pe3 de3 no3 pa3 kd3 pl3 bn3 dn3 dp3 nt3 ps3 da4 pe4 de4 no4 pa4 kd4 pl4 bn4 dn4 dp4 nt4 ps4 ab be fe fc mo (nI L) ta tl tkn va a kp ik (upd r 0 (r 0 + nI 1)) g bg b e vs) 52 12 rfl rfl (by decide) rfl rfl rfl (by simp only [WW, wput, List.set]) rfl (rfl), ?_⟩
    rintro w2 rfl
    exact Rw_in (hH) (rfl) (rL) (hT) (hI0) (hI1)
set_option maxHeartbeats 2000000 in
set_option maxRecDepth 100000 in
theorem j_bearers {K : Kx} {E : Ew} {cc : ByteArray} {nL : Nat} {own : String} {x h dr g0 g1 q : Nat → Nat} {ws : va_W} (hC : Cx K E cc nL own 8) (hR : Rw E x h dr g0 g1 q ws) (p1 : Int32) : Jt K E cc nL own (Rw E x h dr g0 g1 q) (x 0) (q 0) yX11_bearers yX12_bearers [.int p1] ws := by
  refine Rw_el hR ?_
  intro ik r L sr sa en vl T ab be ao at1 an fw ft mt bh da n u v w kd pl bn dn dp nt ps da2 pe2 de2 no2 pa2 kd2 pl2 bn2 dn2 dp2 nt2 ps2 da3 pe3 de3 no3 pa3 kd3 pl3 bn3 dn3 dp3 nt3 ps3 da4 pe4 de4 no4 pa4 kd4 pl4 bn4 dn4 dp4 nt4 ps4 fe fc mo ta tl tkn va a kp g bg b e vs hw hH hda rL hT hI0 hI1
  subst hw
  subst hda
  obtain ⟨h0, h2, h3, h4, hu6, hv6, hw8, rB, rK, hDd, hNn, hPp⟩ := id hH
  have hn7 := rB.2.2
  have hbn := RB_lt rB
  have hb128 := RB_128 rB
  have hb31 := RB_31 rB
  have hkd : ∀ p, p < n → kd p < 6 := fun p hp => (rK p hp).2.2.1
  have hpl : ∀ p, p < n → pl p < 10 := fun p hp => (rK p hp).2.2.2
  have hpk := RH_pk rK
  have hu9 := RH_u9 h4 hw8
  have hnm := RH_nm rB
  have hddM := RH_dd hDd
  have hntM := RH_ntM hNn
  have hntC := RH_ntC hNn
  have hdn : ∀ k, k < u → dn k < 7 := fun k hk => (hDd k hk).2.2.1
  have hdp : ∀ k, k < u → dp k ≤ 60 := fun k hk => (hDd k hk).2.2.2
  have hTc : ∀ j, j < L → T j < 128 := fun j hj => (hT j hj).2
  by_cases hb : (inB p1 n) = true
  · skip
    have hc1 := hb
    obtain ⟨k1, hk1, rfl⟩ := inB_ex (by omega) hc1
    refine ⟨_, _, sc_V hC (f_X11_bearers_ok (kl K) E x h dr (a 1) (nI u) (nI v) (nI w) n bn k1 (by first | assumption | omega) (by first | assumption | omega)) wX11_bearers [0, 20, 23] (WW E x h dr g0 g1 q ik r (nI L) sr sa en vl T ab be ao at1 an fw ft mt bh (a 1) (nI n) (nI u) (nI v) (nI w) kd pl bn dn dp nt ps da2 pe2 de2 no2 pa2 kd2 pl2 bn2 dn2 dp2 nt2 ps2 da3 pe3 de3 no3 pa3 kd3 pl3 bn3 dn3 dp3 nt3 ps3 da4 pe4 de4 no4 pa4 kd4 pl4 bn4 dn4 dp4 nt4 ps4 ab be fe fc mo (nI L) ta tl tkn va a kp ik r g bg b e vs) 0 11 rfl rfl (by decide) rfl rfl rfl (by simp only [WW, wput, List.set]) rfl (rfl), ?_⟩
    rintro w1 rfl
    refine ⟨_, sc_V hC (f_X12_bearers_ok (kl K) E q ab be fe fc mo (nI L) ta tl tkn va a r g n k1 (by first | assumption | omega) (by first | assumption | omega) (by first | assumption | omega)) wX12_bearers [52, 53, 56, 57] (WW E x h dr g0 g1 q ik r (nI L) sr sa en vl T ab be ao at1 an fw ft mt bh (a 1) (nI n) (nI u) (nI v) (nI w) kd pl bn dn dp nt ps da2 pe2 de2 no2 pa2 kd2 pl2 bn2 dn2 dp2 nt2 ps2 da3 pe3 de3 no3 pa3 kd3 pl3 bn3 dn3 dp3 nt3 ps3 da4 pe4 de4 no4 pa4 kd4 pl4 bn4 dn4 dp4 nt4 ps4 ab be fe fc mo (nI L) ta tl tkn va a kp ik r (hnd a g n) bg b e vs) 52 12 rfl rfl (by decide) rfl rfl rfl (by simp only [WW, wput, List.set]) rfl (by rw [rB.1 k1 (by omega)]; rfl), ?_⟩
    rintro w2 rfl
    exact Rw_in (hH) (rfl) (rL) (hT) (hI0) (hI1)
  · skip
    have hb := (Bool.not_eq_true _).mp hb
    refine ⟨_, _, sc_V hC (f_X11_bearers_bad (kl K) E x h dr (a 1) (nI u) (nI v) (nI w) n r p1 (by first | assumption | omega) (by first | assumption | omega)) wX11_bearers [0, 20, 3] (WW E x h dr g0 g1 q ik (upd r 0 (r 0 + nI 1)) (nI L) sr sa en vl T ab be ao at1 an fw ft mt bh (a 1) (nI n) (nI u) (nI v) (nI w) kd pl bn dn dp nt ps da2 pe2 de2 no2 pa2 kd2 pl2 bn2 dn2 dp2 nt2 ps2 da3 pe3 de3 no3 pa3 kd3 pl3 bn3 dn3 dp3 nt3 ps3 da4 pe4 de4 no4 pa4 kd4 pl4 bn4 dn4 dp4 nt4 ps4 ab be fe fc mo (nI L) ta tl tkn va a kp ik r g bg b e vs) 0 11 rfl rfl (by decide) rfl rfl rfl (by simp only [WW, wput, List.set]) rfl (rfl), ?_⟩
    rintro w1 rfl
    refine ⟨_, sc_V hC (f_X12_bearers_bad (kl K) E q ab be fe fc mo (nI L) ta tl tkn va a r n p1 (by first | assumption | omega) (by first | assumption | omega) (by first | assumption | omega)) wX12_bearers [52, 53, 56] (WW E x h dr g0 g1 q ik (upd r 0 (r 0 + nI 1)) (nI L) sr sa en vl T ab be ao at1 an fw ft mt bh (a 1) (nI n) (nI u) (nI v) (nI w) kd pl bn dn dp nt ps da2 pe2 de2 no2 pa2 kd2 pl2 bn2 dn2 dp2 nt2 ps2 da3 pe3 de3 no3 pa3 kd3 pl3 bn3 dn3 dp3 nt3 ps3 da4 pe4 de4 no4 pa4 kd4 pl4 bn4 dn4 dp4 nt4 ps4 ab be fe fc mo (nI L) ta tl tkn va a kp ik (upd r 0 (r 0 + nI 1)) g bg b e vs) 52 12 rfl rfl (by decide) rfl rfl rfl (by simp only [WW, wput, List.set]) rfl (rfl), ?_⟩
    rintro w2 rfl
    exact Rw_in (hH) (rfl) (rL) (hT) (hI0) (hI1)
set_option maxHeartbeats 2000000 in
set_option maxRecDepth 100000 in
theorem j_names {K : Kx} {E : Ew} {cc : ByteArray} {nL : Nat} {own : String} {x h dr g0 g1 q : Nat → Nat} {ws : va_W} (hC : Cx K E cc nL own 8) (hR : Rw E x h dr g0 g1 q ws) (p1 : Int32) : Jt K E cc nL own (Rw E x h dr g0 g1 q) (x 0) (q 0) yX11_names yX12_names [.int p1] ws := by
  refine Rw_el hR ?_
  intro ik r L sr sa en vl T ab be ao at1 an fw ft mt bh da n u v w kd pl bn dn dp nt ps da2 pe2 de2 no2 pa2 kd2 pl2 bn2 dn2 dp2 nt2 ps2 da3 pe3 de3 no3 pa3 kd3 pl3 bn3 dn3 dp3 nt3 ps3 da4 pe4 de4 no4 pa4 kd4 pl4 bn4 dn4 dp4 nt4 ps4 fe fc mo ta tl tkn va a kp g bg b e vs hw hH hda rL hT hI0 hI1
  subst hw
  subst hda
  obtain ⟨h0, h2, h3, h4, hu6, hv6, hw8, rB, rK, hDd, hNn, hPp⟩ := id hH
  have hn7 := rB.2.2
  have hbn := RB_lt rB
  have hb128 := RB_128 rB
  have hb31 := RB_31 rB
  have hkd : ∀ p, p < n → kd p < 6 := fun p hp => (rK p hp).2.2.1
  have hpl : ∀ p, p < n → pl p < 10 := fun p hp => (rK p hp).2.2.2
  have hpk := RH_pk rK
  have hu9 := RH_u9 h4 hw8
  have hnm := RH_nm rB
  have hddM := RH_dd hDd
  have hntM := RH_ntM hNn
  have hntC := RH_ntC hNn
  have hdn : ∀ k, k < u → dn k < 7 := fun k hk => (hDd k hk).2.2.1
  have hdp : ∀ k, k < u → dp k ≤ 60 := fun k hk => (hDd k hk).2.2.2
  have hTc : ∀ j, j < L → T j < 128 := fun j hj => (hT j hj).2
  by_cases hb : (inB p1 2) = true
  · skip
    have hc1 := hb
    obtain ⟨k1, hk1, rfl⟩ := inB_ex (by omega) hc1
    refine ⟨_, _, sc_V hC (f_X11_names_ok (kl K) E x h dr (a 1) (nI u) (nI v) (nI w) n bn k1 (by first | assumption | omega) (by first | assumption | omega) (by first | assumption | omega)) wX11_names [0, 20, 23] (WW E x h dr g0 g1 q ik r (nI L) sr sa en vl T ab be ao at1 an fw ft mt bh (a 1) (nI n) (nI u) (nI v) (nI w) kd pl bn dn dp nt ps da2 pe2 de2 no2 pa2 kd2 pl2 bn2 dn2 dp2 nt2 ps2 da3 pe3 de3 no3 pa3 kd3 pl3 bn3 dn3 dp3 nt3 ps3 da4 pe4 de4 no4 pa4 kd4 pl4 bn4 dn4 dp4 nt4 ps4 ab be fe fc mo (nI L) ta tl tkn va a kp ik r g bg b e vs) 0 11 rfl rfl (by decide) rfl rfl rfl (by simp only [WW, wput, List.set]) rfl (rfl), ?_⟩
    rintro w1 rfl
    refine ⟨_, sc_V hC (f_X12_names_ok (kl K) E q ab be fe fc mo (nI L) ta tl tkn va a r g n k1 (by first | assumption | omega) (by first | assumption | omega) (by first | assumption | omega)) wX12_names [52, 53, 56, 57] (WW E x h dr g0 g1 q ik r (nI L) sr sa en vl T ab be ao at1 an fw ft mt bh (a 1) (nI n) (nI u) (nI v) (nI w) kd pl bn dn dp nt ps da2 pe2 de2 no2 pa2 kd2 pl2 bn2 dn2 dp2 nt2 ps2 da3 pe3 de3 no3 pa3 kd3 pl3 bn3 dn3 dp3 nt3 ps3 da4 pe4 de4 no4 pa4 kd4 pl4 bn4 dn4 dp4 nt4 ps4 ab be fe fc mo (nI L) ta tl tkn va a kp ik r (hnd a g n) bg b e vs) 52 12 rfl rfl (by decide) rfl rfl rfl (by simp only [WW, wput, List.set]) rfl (by rw [RB_names rB]), ?_⟩
    rintro w2 rfl
    exact Rw_in (hH) (rfl) (rL) (hT) (hI0) (hI1)
  · skip
    have hb := (Bool.not_eq_true _).mp hb
    refine ⟨_, _, sc_V hC (f_X11_names_bad (kl K) E x h dr r p1 (by first | assumption | omega)) wX11_names [0, 3] (WW E x h dr g0 g1 q ik (upd r 0 (r 0 + nI 1)) (nI L) sr sa en vl T ab be ao at1 an fw ft mt bh (a 1) (nI n) (nI u) (nI v) (nI w) kd pl bn dn dp nt ps da2 pe2 de2 no2 pa2 kd2 pl2 bn2 dn2 dp2 nt2 ps2 da3 pe3 de3 no3 pa3 kd3 pl3 bn3 dn3 dp3 nt3 ps3 da4 pe4 de4 no4 pa4 kd4 pl4 bn4 dn4 dp4 nt4 ps4 ab be fe fc mo (nI L) ta tl tkn va a kp ik r g bg b e vs) 0 11 rfl rfl (by decide) rfl rfl rfl (by simp only [WW, wput, List.set]) rfl (rfl), ?_⟩
    rintro w1 rfl
    refine ⟨_, sc_V hC (f_X12_names_bad (kl K) E q ab be fe fc mo (nI L) ta tl tkn va a r p1 (by first | assumption | omega)) wX12_names [52, 53, 56] (WW E x h dr g0 g1 q ik (upd r 0 (r 0 + nI 1)) (nI L) sr sa en vl T ab be ao at1 an fw ft mt bh (a 1) (nI n) (nI u) (nI v) (nI w) kd pl bn dn dp nt ps da2 pe2 de2 no2 pa2 kd2 pl2 bn2 dn2 dp2 nt2 ps2 da3 pe3 de3 no3 pa3 kd3 pl3 bn3 dn3 dp3 nt3 ps3 da4 pe4 de4 no4 pa4 kd4 pl4 bn4 dn4 dp4 nt4 ps4 ab be fe fc mo (nI L) ta tl tkn va a kp ik (upd r 0 (r 0 + nI 1)) g bg b e vs) 52 12 rfl rfl (by decide) rfl rfl rfl (by simp only [WW, wput, List.set]) rfl (rfl), ?_⟩
    rintro w2 rfl
    exact Rw_in (hH) (rfl) (rL) (hT) (hI0) (hI1)
set_option maxHeartbeats 2000000 in
set_option maxRecDepth 100000 in
theorem j_calls {K : Kx} {E : Ew} {cc : ByteArray} {nL : Nat} {own : String} {x h dr g0 g1 q : Nat → Nat} {ws : va_W} (hC : Cx K E cc nL own 8) (hR : Rw E x h dr g0 g1 q ws) (p1 p2 p3 : Int32) : Jt K E cc nL own (Rw E x h dr g0 g1 q) (x 0) (q 0) yX11_calls yX12_calls [.int p1, .int p2, .int p3] ws := by
  refine Rw_el hR ?_
  intro ik r L sr sa en vl T ab be ao at1 an fw ft mt bh da n u v w kd pl bn dn dp nt ps da2 pe2 de2 no2 pa2 kd2 pl2 bn2 dn2 dp2 nt2 ps2 da3 pe3 de3 no3 pa3 kd3 pl3 bn3 dn3 dp3 nt3 ps3 da4 pe4 de4 no4 pa4 kd4 pl4 bn4 dn4 dp4 nt4 ps4 fe fc mo ta tl tkn va a kp g bg b e vs hw hH hda rL hT hI0 hI1
  subst hw
  subst hda
  obtain ⟨h0, h2, h3, h4, hu6, hv6, hw8, rB, rK, hDd, hNn, hPp⟩ := id hH
  have hn7 := rB.2.2
  have hbn := RB_lt rB
  have hb128 := RB_128 rB
  have hb31 := RB_31 rB
  have hkd : ∀ p, p < n → kd p < 6 := fun p hp => (rK p hp).2.2.1
  have hpl : ∀ p, p < n → pl p < 10 := fun p hp => (rK p hp).2.2.2
  have hpk := RH_pk rK
  have hu9 := RH_u9 h4 hw8
  have hnm := RH_nm rB
  have hddM := RH_dd hDd
  have hntM := RH_ntM hNn
  have hntC := RH_ntC hNn
  have hdn : ∀ k, k < u → dn k < 7 := fun k hk => (hDd k hk).2.2.1
  have hdp : ∀ k, k < u → dp k ≤ 60 := fun k hk => (hDd k hk).2.2.2
  have hTc : ∀ j, j < L → T j < 128 := fun j hj => (hT j hj).2
  by_cases hb : (inB p1 n && inB p2 n && inB p3 2) = true
  · skip
    simp only [Bool.and_eq_true] at hb
    obtain ⟨⟨hc1, hc2⟩, hc3⟩ := hb
    obtain ⟨k1, hk1, rfl⟩ := inB_ex (by omega) hc1
    obtain ⟨k2, hk2, rfl⟩ := inB_ex (by omega) hc2
    obtain ⟨k3, hk3, rfl⟩ := inB_ex (by omega) hc3
    obtain ⟨bh, rfl⟩ := nf_ex bh
    refine ⟨_, _, sc_VE hC (f_X11_calls_ok (kl K) E x h dr (a 1) (nI u) (nI v) (nI w) n kd pl bn ao at1 an fw ft mt bh k1 k2 k3 (by first | assumption | omega) (by first | assumption | omega) (by first | assumption | omega) (by first | assumption | omega) (by first | assumption | omega) (by first | assumption | omega) (by first | assumption | omega)) wX11_calls [0, 7, 8, 14, 15, 16, 17, 18, 19, 9, 10, 11, 20, 21, 22, 23, 12, 13] (fun jj => WW E x h dr g0 g1 q ik r (nI L) sr sa en vl T ab be (hL kd pl (a 1) true false n ao 10) (hL kd pl (a 1) false false n at1 10) (hL kd pl (a 1) false true n an 10) (tbW (hL kd pl (a 1) true false n ao 10) (hL kd pl (a 1) false false n at1 10) (hL kd pl (a 1) false true n an 10) bn k1 k2 n) (tbT (hL kd pl (a 1) true false n ao 10) (hL kd pl (a 1) false false n at1 10) (hL kd pl (a 1) false true n an 10) bn k1 k2 n) mt (jj 0) (a 1) (nI n) (nI u) (nI v) (nI w) kd pl bn dn dp nt ps da2 pe2 de2 no2 pa2 kd2 pl2 bn2 dn2 dp2 nt2 ps2 da3 pe3 de3 no3 pa3 kd3 pl3 bn3 dn3 dp3 nt3 ps3 da4 pe4 de4 no4 pa4 kd4 pl4 bn4 dn4 dp4 nt4 ps4 ab be fe fc mo (nI L) ta tl tkn va a kp ik r g bg b e vs) 0 11 rfl rfl (by decide) rfl rfl rfl (fun jj => by simp only [WW, wput, List.set]) (fun _ => rfl) (rfl), ?_⟩
    rintro w1 ⟨jj1, rfl⟩
    refine ⟨_, sc_VE hC (f_X12_calls_ok (kl K) E q ab be fe fc mo (nI L) ta tl tkn va a r g n k1 k2 k3 (by first | assumption | omega) (by first | assumption | omega) (by first | assumption | omega) (by first | assumption | omega) (by first | assumption | omega) (by first | assumption | omega)) wX12_calls [52, 53, 56, 57] (fun jj => WW E x h dr g0 g1 q ik r (nI L) sr sa en vl T ab be (hL kd pl (a 1) true false n ao 10) (hL kd pl (a 1) false false n at1 10) (hL kd pl (a 1) false true n an 10) (tbW (hL kd pl (a 1) true false n ao 10) (hL kd pl (a 1) false false n at1 10) (hL kd pl (a 1) false true n an 10) bn k1 k2 n) (tbT (hL kd pl (a 1) true false n ao 10) (hL kd pl (a 1) false false n at1 10) (hL kd pl (a 1) false true n an 10) bn k1 k2 n) mt (jj1 0) (a 1) (nI n) (nI u) (nI v) (nI w) kd pl bn dn dp nt ps da2 pe2 de2 no2 pa2 kd2 pl2 bn2 dn2 dp2 nt2 ps2 da3 pe3 de3 no3 pa3 kd3 pl3 bn3 dn3 dp3 nt3 ps3 da4 pe4 de4 no4 pa4 kd4 pl4 bn4 dn4 dp4 nt4 ps4 ab be (fe2 a k1 k2 n (10 * n)) (fc2 a k1 k2 n (10 * n)) mo (nI L) ta tl tkn va a kp ik r (jj 0) bg b e vs) 52 12 rfl rfl (by decide) rfl rfl rfl (fun jj => by simp only [WW, wput, List.set]) (fun _ => rfl) (by rw [(RB_calls rB rK hk1 hk2).1, (RB_calls rB rK hk1 hk2).2]), ?_⟩
    rintro w2 ⟨jj2, rfl⟩
    exact Rw_in (hH) (rfl) (rL) (hT) (hI0) (hI1)
  · skip
    have hb := (Bool.not_eq_true _).mp hb
    refine ⟨_, _, sc_V hC (f_X11_calls_bad (kl K) E x h dr (a 1) (nI u) (nI v) (nI w) n r p1 p2 p3 (by first | assumption | omega) (by first | assumption | omega)) wX11_calls [0, 20, 3] (WW E x h dr g0 g1 q ik (upd r 0 (r 0 + nI 1)) (nI L) sr sa en vl T ab be ao at1 an fw ft mt bh (a 1) (nI n) (nI u) (nI v) (nI w) kd pl bn dn dp nt ps da2 pe2 de2 no2 pa2 kd2 pl2 bn2 dn2 dp2 nt2 ps2 da3 pe3 de3 no3 pa3 kd3 pl3 bn3 dn3 dp3 nt3 ps3 da4 pe4 de4 no4 pa4 kd4 pl4 bn4 dn4 dp4 nt4 ps4 ab be fe fc mo (nI L) ta tl tkn va a kp ik r g bg b e vs) 0 11 rfl rfl (by decide) rfl rfl rfl (by simp only [WW, wput, List.set]) rfl (rfl), ?_⟩
    rintro w1 rfl
    refine ⟨_, sc_V hC (f_X12_calls_bad (kl K) E q ab be fe fc mo (nI L) ta tl tkn va a r n p1 p2 p3 (by first | assumption | omega) (by first | assumption | omega) (by first | assumption | omega)) wX12_calls [52, 53, 56] (WW E x h dr g0 g1 q ik (upd r 0 (r 0 + nI 1)) (nI L) sr sa en vl T ab be ao at1 an fw ft mt bh (a 1) (nI n) (nI u) (nI v) (nI w) kd pl bn dn dp nt ps da2 pe2 de2 no2 pa2 kd2 pl2 bn2 dn2 dp2 nt2 ps2 da3 pe3 de3 no3 pa3 kd3 pl3 bn3 dn3 dp3 nt3 ps3 da4 pe4 de4 no4 pa4 kd4 pl4 bn4 dn4 dp4 nt4 ps4 ab be fe fc mo (nI L) ta tl tkn va a kp ik (upd r 0 (r 0 + nI 1)) g bg b e vs) 52 12 rfl rfl (by decide) rfl rfl rfl (by simp only [WW, wput, List.set]) rfl (rfl), ?_⟩
    rintro w2 rfl
    exact Rw_in (hH) (rfl) (rL) (hT) (hI0) (hI1)
set_option maxHeartbeats 2000000 in
set_option maxRecDepth 100000 in
theorem j_own {K : Kx} {E : Ew} {cc : ByteArray} {nL : Nat} {own : String} {x h dr g0 g1 q : Nat → Nat} {ws : va_W} (hC : Cx K E cc nL own 8) (hR : Rw E x h dr g0 g1 q ws) (p1 : Int32) : Jt K E cc nL own (Rw E x h dr g0 g1 q) (x 0) (q 0) yX11_own yX12_own [.int p1] ws := by
  refine Rw_el hR ?_
  intro ik r L sr sa en vl T ab be ao at1 an fw ft mt bh da n u v w kd pl bn dn dp nt ps da2 pe2 de2 no2 pa2 kd2 pl2 bn2 dn2 dp2 nt2 ps2 da3 pe3 de3 no3 pa3 kd3 pl3 bn3 dn3 dp3 nt3 ps3 da4 pe4 de4 no4 pa4 kd4 pl4 bn4 dn4 dp4 nt4 ps4 fe fc mo ta tl tkn va a kp g bg b e vs hw hH hda rL hT hI0 hI1
  subst hw
  subst hda
  obtain ⟨h0, h2, h3, h4, hu6, hv6, hw8, rB, rK, hDd, hNn, hPp⟩ := id hH
  have hn7 := rB.2.2
  have hbn := RB_lt rB
  have hb128 := RB_128 rB
  have hb31 := RB_31 rB
  have hkd : ∀ p, p < n → kd p < 6 := fun p hp => (rK p hp).2.2.1
  have hpl : ∀ p, p < n → pl p < 10 := fun p hp => (rK p hp).2.2.2
  have hpk := RH_pk rK
  have hu9 := RH_u9 h4 hw8
  have hnm := RH_nm rB
  have hddM := RH_dd hDd
  have hntM := RH_ntM hNn
  have hntC := RH_ntC hNn
  have hdn : ∀ k, k < u → dn k < 7 := fun k hk => (hDd k hk).2.2.1
  have hdp : ∀ k, k < u → dp k ≤ 60 := fun k hk => (hDd k hk).2.2.2
  have hTc : ∀ j, j < L → T j < 128 := fun j hj => (hT j hj).2
  by_cases hb : (inB p1 3) = true
  · skip
    have hc1 := hb
    obtain ⟨k1, hk1, rfl⟩ := inB_ex (by omega) hc1
    obtain ⟨bh, rfl⟩ := nf_ex bh
    refine ⟨_, _, sc_VE hC (f_X11_own_ok (kl K) E x h dr (a 1) (nI u) (nI v) (nI w) n kd pl bn ao at1 an fw ft mt bh k1 (by first | assumption | omega) (by first | assumption | omega) (by first | assumption | omega) (by first | assumption | omega) (by first | assumption | omega)) wX11_own [0, 7, 8, 14, 15, 16, 17, 18, 19, 9, 10, 11, 20, 21, 22, 23, 12, 13] (fun jj => WW E x h dr g0 g1 q ik r (nI L) sr sa en vl T ab be (hL kd pl (a 1) true false n ao 10) (hL kd pl (a 1) false false n at1 10) (hL kd pl (a 1) false true n an 10) ((oaF (hL kd pl (a 1) true false n ao 10) (hL kd pl (a 1) false false n at1 10) (hL kd pl (a 1) false true n an 10) bn n).2.1) ((oaF (hL kd pl (a 1) true false n ao 10) (hL kd pl (a 1) false false n at1 10) (hL kd pl (a 1) false true n an 10) bn n).2.2) ((oaF (hL kd pl (a 1) true false n ao 10) (hL kd pl (a 1) false false n at1 10) (hL kd pl (a 1) false true n an 10) bn n).1) (jj 0) (a 1) (nI n) (nI u) (nI v) (nI w) kd pl bn dn dp nt ps da2 pe2 de2 no2 pa2 kd2 pl2 bn2 dn2 dp2 nt2 ps2 da3 pe3 de3 no3 pa3 kd3 pl3 bn3 dn3 dp3 nt3 ps3 da4 pe4 de4 no4 pa4 kd4 pl4 bn4 dn4 dp4 nt4 ps4 ab be fe fc mo (nI L) ta tl tkn va a kp ik r g bg b e vs) 0 11 rfl rfl (by decide) rfl rfl rfl (fun jj => by simp only [WW, wput, List.set]) (fun _ => rfl) (rfl), ?_⟩
    rintro w1 ⟨jj1, rfl⟩
    refine ⟨_, sc_VE hC (f_X12_own_ok (kl K) E q ab be fe fc mo (nI L) ta tl tkn va a r g n k1 (by first | assumption | omega) (by first | assumption | omega) (by first | assumption | omega) (by first | assumption | omega)) wX12_own [52, 53, 56, 57] (fun jj => WW E x h dr g0 g1 q ik r (nI L) sr sa en vl T ab be (hL kd pl (a 1) true false n ao 10) (hL kd pl (a 1) false false n at1 10) (hL kd pl (a 1) false true n an 10) ((oaF (hL kd pl (a 1) true false n ao 10) (hL kd pl (a 1) false false n at1 10) (hL kd pl (a 1) false true n an 10) bn n).2.1) ((oaF (hL kd pl (a 1) true false n ao 10) (hL kd pl (a 1) false false n at1 10) (hL kd pl (a 1) false true n an 10) bn n).2.2) ((oaF (hL kd pl (a 1) true false n ao 10) (hL kd pl (a 1) false false n at1 10) (hL kd pl (a 1) false true n an 10) bn n).1) (jj1 0) (a 1) (nI n) (nI u) (nI v) (nI w) kd pl bn dn dp nt ps da2 pe2 de2 no2 pa2 kd2 pl2 bn2 dn2 dp2 nt2 ps2 da3 pe3 de3 no3 pa3 kd3 pl3 bn3 dn3 dp3 nt3 ps3 da4 pe4 de4 no4 pa4 kd4 pl4 bn4 dn4 dp4 nt4 ps4 ab be ((owF a n fe fc).2.1) ((owF a n fe fc).2.2) ((owF a n fe fc).1) (nI L) ta tl tkn va a kp ik r (jj 0) bg b e vs) 52 12 rfl rfl (by decide) rfl rfl rfl (fun jj => by simp only [WW, wput, List.set]) (fun _ => rfl) (by rw [RB_own (fe := fe) (fc := fc) rB rK]), ?_⟩
    rintro w2 ⟨jj2, rfl⟩
    exact Rw_in (hH) (rfl) (rL) (hT) (hI0) (hI1)
  · skip
    have hb := (Bool.not_eq_true _).mp hb
    refine ⟨_, _, sc_V hC (f_X11_own_bad (kl K) E x h dr r p1 (by first | assumption | omega)) wX11_own [0, 3] (WW E x h dr g0 g1 q ik (upd r 0 (r 0 + nI 1)) (nI L) sr sa en vl T ab be ao at1 an fw ft mt bh (a 1) (nI n) (nI u) (nI v) (nI w) kd pl bn dn dp nt ps da2 pe2 de2 no2 pa2 kd2 pl2 bn2 dn2 dp2 nt2 ps2 da3 pe3 de3 no3 pa3 kd3 pl3 bn3 dn3 dp3 nt3 ps3 da4 pe4 de4 no4 pa4 kd4 pl4 bn4 dn4 dp4 nt4 ps4 ab be fe fc mo (nI L) ta tl tkn va a kp ik r g bg b e vs) 0 11 rfl rfl (by decide) rfl rfl rfl (by simp only [WW, wput, List.set]) rfl (rfl), ?_⟩
    rintro w1 rfl
    refine ⟨_, sc_V hC (f_X12_own_bad (kl K) E q ab be fe fc mo (nI L) ta tl tkn va a r p1 (by first | assumption | omega)) wX12_own [52, 53, 56] (WW E x h dr g0 g1 q ik (upd r 0 (r 0 + nI 1)) (nI L) sr sa en vl T ab be ao at1 an fw ft mt bh (a 1) (nI n) (nI u) (nI v) (nI w) kd pl bn dn dp nt ps da2 pe2 de2 no2 pa2 kd2 pl2 bn2 dn2 dp2 nt2 ps2 da3 pe3 de3 no3 pa3 kd3 pl3 bn3 dn3 dp3 nt3 ps3 da4 pe4 de4 no4 pa4 kd4 pl4 bn4 dn4 dp4 nt4 ps4 ab be fe fc mo (nI L) ta tl tkn va a kp ik (upd r 0 (r 0 + nI 1)) g bg b e vs) 52 12 rfl rfl (by decide) rfl rfl rfl (by simp only [WW, wput, List.set]) rfl (rfl), ?_⟩
    rintro w2 rfl
    exact Rw_in (hH) (rfl) (rL) (hT) (hI0) (hI1)
set_option maxHeartbeats 2000000 in
set_option maxRecDepth 100000 in
theorem j_ring {K : Kx} {E : Ew} {cc : ByteArray} {nL : Nat} {own : String} {x h dr g0 g1 q : Nat → Nat} {ws : va_W} (hC : Cx K E cc nL own 8) (hR : Rw E x h dr g0 g1 q ws) (p1 : Int32) : Jt K E cc nL own (Rw E x h dr g0 g1 q) (x 0) (q 0) yX11_ring yX12_ring [.int p1] ws := by
  refine Rw_el hR ?_
  intro ik r L sr sa en vl T ab be ao at1 an fw ft mt bh da n u v w kd pl bn dn dp nt ps da2 pe2 de2 no2 pa2 kd2 pl2 bn2 dn2 dp2 nt2 ps2 da3 pe3 de3 no3 pa3 kd3 pl3 bn3 dn3 dp3 nt3 ps3 da4 pe4 de4 no4 pa4 kd4 pl4 bn4 dn4 dp4 nt4 ps4 fe fc mo ta tl tkn va a kp g bg b e vs hw hH hda rL hT hI0 hI1
  subst hw
  subst hda
  obtain ⟨h0, h2, h3, h4, hu6, hv6, hw8, rB, rK, hDd, hNn, hPp⟩ := id hH
  have hn7 := rB.2.2
  have hbn := RB_lt rB
  have hb128 := RB_128 rB
  have hb31 := RB_31 rB
  have hkd : ∀ p, p < n → kd p < 6 := fun p hp => (rK p hp).2.2.1
  have hpl : ∀ p, p < n → pl p < 10 := fun p hp => (rK p hp).2.2.2
  have hpk := RH_pk rK
  have hu9 := RH_u9 h4 hw8
  have hnm := RH_nm rB
  have hddM := RH_dd hDd
  have hntM := RH_ntM hNn
  have hntC := RH_ntC hNn
  have hdn : ∀ k, k < u → dn k < 7 := fun k hk => (hDd k hk).2.2.1
  have hdp : ∀ k, k < u → dp k ≤ 60 := fun k hk => (hDd k hk).2.2.2
  have hTc : ∀ j, j < L → T j < 128 := fun j hj => (hT j hj).2
  by_cases hb : (inB p1 n) = true
  · skip
    have hc1 := hb
    obtain ⟨k1, hk1, rfl⟩ := inB_ex (by omega) hc1
    refine ⟨_, _, sc_V hC (f_X11_ring_ok (kl K) E x h dr (a 1) (nI u) (nI v) (nI w) n bn k1 (by first | assumption | omega) (by first | assumption | omega) (by first | assumption | omega)) wX11_ring [0, 20, 23] (WW E x h dr g0 g1 q ik r (nI L) sr sa en vl T ab be ao at1 an fw ft mt bh (a 1) (nI n) (nI u) (nI v) (nI w) kd pl bn dn dp nt ps da2 pe2 de2 no2 pa2 kd2 pl2 bn2 dn2 dp2 nt2 ps2 da3 pe3 de3 no3 pa3 kd3 pl3 bn3 dn3 dp3 nt3 ps3 da4 pe4 de4 no4 pa4 kd4 pl4 bn4 dn4 dp4 nt4 ps4 ab be fe fc mo (nI L) ta tl tkn va a kp ik r g bg b e vs) 0 11 rfl rfl (by decide) rfl rfl rfl (by simp only [WW, wput, List.set]) rfl (rfl), ?_⟩
    rintro w1 rfl
    refine ⟨_, sc_V hC (f_X12_ring_ok (kl K) E q ab be fe fc mo (nI L) ta tl tkn va a r n k1 (by first | assumption | omega) (by first | assumption | omega) (by first | assumption | omega) (by first | assumption | omega)) wX12_ring [52, 53, 56] (WW E x h dr g0 g1 q ik r (nI L) sr sa en vl T ab be ao at1 an fw ft mt bh (a 1) (nI n) (nI u) (nI v) (nI w) kd pl bn dn dp nt ps da2 pe2 de2 no2 pa2 kd2 pl2 bn2 dn2 dp2 nt2 ps2 da3 pe3 de3 no3 pa3 kd3 pl3 bn3 dn3 dp3 nt3 ps3 da4 pe4 de4 no4 pa4 kd4 pl4 bn4 dn4 dp4 nt4 ps4 ab be fe fc mo (nI L) ta tl tkn va a kp ik r g bg b e vs) 52 12 rfl rfl (by decide) rfl rfl rfl (by simp only [WW, wput, List.set]) rfl (by rw [RB_ring rB hk1]), ?_⟩
    rintro w2 rfl
    exact Rw_in (hH) (rfl) (rL) (hT) (hI0) (hI1)
  · skip
    have hb := (Bool.not_eq_true _).mp hb
    refine ⟨_, _, sc_V hC (f_X11_ring_bad (kl K) E x h dr (a 1) (nI u) (nI v) (nI w) n r p1 (by first | assumption | omega) (by first | assumption | omega)) wX11_ring [0, 20, 3] (WW E x h dr g0 g1 q ik (upd r 0 (r 0 + nI 1)) (nI L) sr sa en vl T ab be ao at1 an fw ft mt bh (a 1) (nI n) (nI u) (nI v) (nI w) kd pl bn dn dp nt ps da2 pe2 de2 no2 pa2 kd2 pl2 bn2 dn2 dp2 nt2 ps2 da3 pe3 de3 no3 pa3 kd3 pl3 bn3 dn3 dp3 nt3 ps3 da4 pe4 de4 no4 pa4 kd4 pl4 bn4 dn4 dp4 nt4 ps4 ab be fe fc mo (nI L) ta tl tkn va a kp ik r g bg b e vs) 0 11 rfl rfl (by decide) rfl rfl rfl (by simp only [WW, wput, List.set]) rfl (rfl), ?_⟩
    rintro w1 rfl
    refine ⟨_, sc_V hC (f_X12_ring_bad (kl K) E q ab be fe fc mo (nI L) ta tl tkn va a r n p1 (by first | assumption | omega) (by first | assumption | omega) (by first | assumption | omega)) wX12_ring [52, 53, 56] (WW E x h dr g0 g1 q ik (upd r 0 (r 0 + nI 1)) (nI L) sr sa en vl T ab be ao at1 an fw ft mt bh (a 1) (nI n) (nI u) (nI v) (nI w) kd pl bn dn dp nt ps da2 pe2 de2 no2 pa2 kd2 pl2 bn2 dn2 dp2 nt2 ps2 da3 pe3 de3 no3 pa3 kd3 pl3 bn3 dn3 dp3 nt3 ps3 da4 pe4 de4 no4 pa4 kd4 pl4 bn4 dn4 dp4 nt4 ps4 ab be fe fc mo (nI L) ta tl tkn va a kp ik (upd r 0 (r 0 + nI 1)) g bg b e vs) 52 12 rfl rfl (by decide) rfl rfl rfl (by simp only [WW, wput, List.set]) rfl (rfl), ?_⟩
    rintro w2 rfl
    exact Rw_in (hH) (rfl) (rL) (hT) (hI0) (hI1)
