theorem of_eq {a : Nat → Int32} {kd pl bn : Nat → Nat} {n x wh : Nat} (h : RB (N5 a) bn n) (hk : RKP a kd pl n) (hx : x < n) (hw : wh < 3) : Value.int (a ((if wh = 0 then 19 else if wh = 1 then 12 else 5) + x)) = Value.int (if wh = 0 then nI (kd x) else if wh = 1 then nI (pl x) else nmF bn n x) := by
  obtain ⟨h1, h2, -, -⟩ := hk x hx
  rw [RB_nm h hx]
  rcases (show wh = 0 ∨ wh = 1 ∨ wh = 2 by omega) with rfl | rfl | rfl
  · exact congrArg _ h1
  · exact congrArg _ h2
  · rfl
theorem pB_ex {x : Int32} (h : pB x = true) : ∃ k, 1 ≤ k ∧ k ≤ 60 ∧ x = nI k := by
  have h1 : 1 ≤ x.toInt ∧ x.toInt ≤ 60 := by simpa [pB] using h
  have h2 : inB x 61 = true := by simp [inB]; omega
  obtain ⟨k, hk, rfl⟩ := inB_ex (by decide) h2
  rw [nI_toInt (by omega)] at h1
  exact ⟨k, by omega, by omega, rfl⟩
theorem Ri_keep {ik kp a : Nat → Int32} {i j : Nat} {da pe de no pa : Int32} {kd pl bn dn dp nt : Nat → Nat} {ps : Nat → Int32} (hij : i ≠ j) (h : Ri ik kp j da pe de no pa kd pl bn dn dp nt ps) : Ri (upd ik i (nI 1)) (imK kp a i 188) j da pe de no pa kd pl bn dn dp nt ps := by
  rcases h with h | ⟨h, n, u, v, w, e1, e2, e3, e4, e5, e6⟩
  · exact Or.inl (by rw [upd_n (fun q => hij q.symm)]; exact h)
  · exact Or.inr ⟨by rw [upd_n (fun q => hij q.symm)]; exact h, n, u, v, w, e1, e2, e3, e4, RH_keep hij e5, by rw [imR_old (by decide) hij]; exact e6⟩

set_option maxHeartbeats 2000000 in
set_option maxRecDepth 100000 in
theorem j_hamlet {K : Kx} {E : Ew} {cc : ByteArray} {nL : Nat} {own : String} {x h dr g0 g1 q : Nat → Nat} {ws : va_W} (hC : Cx K E cc nL own 8) (hR : Rw E x h dr g0 g1 q ws) (p1 : Int32) : Jt K E cc nL own (Rw E x h dr g0 g1 q) (x 0) (q 0) yX11_hamlet yX12_hamlet [.int p1] ws := by
  refine Rw_el hR ?_
  intro ik r L sr sa en vl T ab be ao at1 an fw ft mt bh da n u v w kd pl bn dn dp nt ps da2 pe2 de2 no2 pa2 kd2 pl2 bn2 dn2 dp2 nt2 ps2 da3 pe3 de3 no3 pa3 kd3 pl3 bn3 dn3 dp3 nt3 ps3 da4 pe4 de4 no4 pa4 kd4 pl4 bn4 dn4 dp4 nt4 ps4 fe fc mo ta tl tkn va a kp g bg b e vs hw hH hda rL hT hI0 hI1
  subst hw
  subst hda
  obtain ⟨h0, h2, h3, h4, hu6, hv6, hw8, rB, rK, hDd, hNn, hPp⟩ := id hH
  have hn7 := rB.2.2
  have hbn := RB_lt rB
  have hb128 := RB_128 rB
  have hb31 := RB_31 rB
  have hkd : ∀ p, p < n → kd p < 6 := fun p hp => (rK p hp).2.2.1
  have hpl : ∀ p, p < n → pl p < 10 := fun p hp => (rK p hp).2.2.2
  have hpk := RH_pk rK
  have hu9 := RH_u9 h4 hw8
  have hnm := RH_nm rB
  have hddM := RH_dd hDd
  have hntM := RH_ntM hNn
  have hntC := RH_ntC hNn
  have hdn : ∀ k, k < u → dn k < 7 := fun k hk => (hDd k hk).2.2.1
  have hdp : ∀ k, k < u → dp k ≤ 60 := fun k hk => (hDd k hk).2.2.2
  have hTc : ∀ j, j < L → T j < 128 := fun j hj => (hT j hj).2
  by_cases hb : (inB p1 100) = true
  · skip
    have hc1 := hb
    obtain ⟨k1, hk1, rfl⟩ := inB_ex (by omega) hc1
    refine ⟨_, _, sc_V hC (f_X11_hamlet_ok (kl K) E x h dr (a 1) (nI n) (nI u) (nI v) (nI w) bn k1 (by first | assumption | omega)) wX11_hamlet [0, 20, 23] (WW E x h dr g0 g1 q ik r (nI L) sr sa en vl T ab be ao at1 an fw ft mt bh (nI k1) (nI 0) (nI 0) (nI 0) (nI 0) kd pl (fun _ => 0) dn dp nt ps da2 pe2 de2 no2 pa2 kd2 pl2 bn2 dn2 dp2 nt2 ps2 da3 pe3 de3 no3 pa3 kd3 pl3 bn3 dn3 dp3 nt3 ps3 da4 pe4 de4 no4 pa4 kd4 pl4 bn4 dn4 dp4 nt4 ps4 ab be fe fc mo (nI L) ta tl tkn va a kp ik r g bg b e vs) 0 11 rfl rfl (by decide) rfl rfl rfl (by simp only [WW, wput, List.set]) rfl (rfl), ?_⟩
    rintro w1 rfl
    refine ⟨_, sc_V hC (f_X12_hamlet_ok (kl K) E q ab be fe fc mo (nI L) ta tl tkn va a r k1 (by first | assumption | omega)) wX12_hamlet [52, 53, 56] (WW E x h dr g0 g1 q ik r (nI L) sr sa en vl T ab be ao at1 an fw ft mt bh (nI k1) (nI 0) (nI 0) (nI 0) (nI 0) kd pl (fun _ => 0) dn dp nt ps da2 pe2 de2 no2 pa2 kd2 pl2 bn2 dn2 dp2 nt2 ps2 da3 pe3 de3 no3 pa3 kd3 pl3 bn3 dn3 dp3 nt3 ps3 da4 pe4 de4 no4 pa4 kd4 pl4 bn4 dn4 dp4 nt4 ps4 ab be fe fc mo (nI L) ta tl tkn va (beg a (nI k1)) kp ik r g bg b e vs) 52 12 rfl rfl (by decide) rfl rfl rfl (by simp only [WW, wput, List.set]) rfl (by rw [h0]), ?_⟩
    rintro w2 rfl
    exact Rw_in (RH_hamlet.1) ((RH_hamlet (a := a) (ps := ps) (kd := kd) (pl := pl) (dn := dn) (dp := dp) (nt := nt)).2) (rL) (hT) (hI0) (hI1)
  · skip
    have hb := (Bool.not_eq_true _).mp hb
    refine ⟨_, _, sc_V hC (f_X11_hamlet_bad (kl K) E x h dr r p1 (by first | assumption | omega)) wX11_hamlet [0, 3] (WW E x h dr g0 g1 q ik (upd r 0 (r 0 + nI 1)) (nI L) sr sa en vl T ab be ao at1 an fw ft mt bh (a 1) (nI n) (nI u) (nI v) (nI w) kd pl bn dn dp nt ps da2 pe2 de2 no2 pa2 kd2 pl2 bn2 dn2 dp2 nt2 ps2 da3 pe3 de3 no3 pa3 kd3 pl3 bn3 dn3 dp3 nt3 ps3 da4 pe4 de4 no4 pa4 kd4 pl4 bn4 dn4 dp4 nt4 ps4 ab be fe fc mo (nI L) ta tl tkn va a kp ik r g bg b e vs) 0 11 rfl rfl (by decide) rfl rfl rfl (by simp only [WW, wput, List.set]) rfl (rfl), ?_⟩
    rintro w1 rfl
    refine ⟨_, sc_V hC (f_X12_hamlet_bad (kl K) E q ab be fe fc mo (nI L) ta tl tkn va a r p1 (by first | assumption | omega)) wX12_hamlet [52, 53, 56] (WW E x h dr g0 g1 q ik (upd r 0 (r 0 + nI 1)) (nI L) sr sa en vl T ab be ao at1 an fw ft mt bh (a 1) (nI n) (nI u) (nI v) (nI w) kd pl bn dn dp nt ps da2 pe2 de2 no2 pa2 kd2 pl2 bn2 dn2 dp2 nt2 ps2 da3 pe3 de3 no3 pa3 kd3 pl3 bn3 dn3 dp3 nt3 ps3 da4 pe4 de4 no4 pa4 kd4 pl4 bn4 dn4 dp4 nt4 ps4 ab be fe fc mo (nI L) ta tl tkn va a kp ik (upd r 0 (r 0 + nI 1)) g bg b e vs) 52 12 rfl rfl (by decide) rfl rfl rfl (by simp only [WW, wput, List.set]) rfl (rfl), ?_⟩
    rintro w2 rfl
    exact Rw_in (hH) (rfl) (rL) (hT) (hI0) (hI1)
set_option maxHeartbeats 2000000 in
set_option maxRecDepth 100000 in
theorem j_one {K : Kx} {E : Ew} {cc : ByteArray} {nL : Nat} {own : String} {x h dr g0 g1 q : Nat → Nat} {ws : va_W} (hC : Cx K E cc nL own 8) (hR : Rw E x h dr g0 g1 q ws) (p1 p2 : Int32) : Jt K E cc nL own (Rw E x h dr g0 g1 q) (x 0) (q 0) yX11_one yX12_one [.int p1, .int p2] ws := by
  refine Rw_el hR ?_
  intro ik r L sr sa en vl T ab be ao at1 an fw ft mt bh da n u v w kd pl bn dn dp nt ps da2 pe2 de2 no2 pa2 kd2 pl2 bn2 dn2 dp2 nt2 ps2 da3 pe3 de3 no3 pa3 kd3 pl3 bn3 dn3 dp3 nt3 ps3 da4 pe4 de4 no4 pa4 kd4 pl4 bn4 dn4 dp4 nt4 ps4 fe fc mo ta tl tkn va a kp g bg b e vs hw hH hda rL hT hI0 hI1
  subst hw
  subst hda
  obtain ⟨h0, h2, h3, h4, hu6, hv6, hw8, rB, rK, hDd, hNn, hPp⟩ := id hH
  have hn7 := rB.2.2
  have hbn := RB_lt rB
  have hb128 := RB_128 rB
  have hb31 := RB_31 rB
  have hkd : ∀ p, p < n → kd p < 6 := fun p hp => (rK p hp).2.2.1
  have hpl : ∀ p, p < n → pl p < 10 := fun p hp => (rK p hp).2.2.2
  have hpk := RH_pk rK
  have hu9 := RH_u9 h4 hw8
  have hnm := RH_nm rB
  have hddM := RH_dd hDd
  have hntM := RH_ntM hNn
  have hntC := RH_ntC hNn
  have hdn : ∀ k, k < u → dn k < 7 := fun k hk => (hDd k hk).2.2.1
  have hdp : ∀ k, k < u → dp k ≤ 60 := fun k hk => (hDd k hk).2.2.2
  have hTc : ∀ j, j < L → T j < 128 := fun j hj => (hT j hj).2
  by_cases hb : (inB p1 6 && inB p2 10) = true
  · skip
    simp only [Bool.and_eq_true] at hb
    obtain ⟨hc1, hc2⟩ := hb
    obtain ⟨k1, hk1, rfl⟩ := inB_ex (by omega) hc1
    obtain ⟨k2, hk2, rfl⟩ := inB_ex (by omega) hc2
    by_cases hf : n = 7
    · skip
      subst hf
      refine ⟨_, _, sc_V hC (f_X11_one_full (kl K) E x h dr (a 1) (nI u) (nI v) (nI w) r k1 k2 (by first | assumption | omega) (by first | assumption | omega)) wX11_one [0, 20, 3] (WW E x h dr g0 g1 q ik (upd r 2 (r 2 + nI 1)) (nI L) sr sa en vl T ab be ao at1 an fw ft mt bh (a 1) (nI 7) (nI u) (nI v) (nI w) kd pl bn dn dp nt ps da2 pe2 de2 no2 pa2 kd2 pl2 bn2 dn2 dp2 nt2 ps2 da3 pe3 de3 no3 pa3 kd3 pl3 bn3 dn3 dp3 nt3 ps3 da4 pe4 de4 no4 pa4 kd4 pl4 bn4 dn4 dp4 nt4 ps4 ab be fe fc mo (nI L) ta tl tkn va a kp ik r g bg b e vs) 0 11 rfl rfl (by decide) rfl rfl rfl (by simp only [WW, wput, List.set]) rfl (rfl), ?_⟩
      rintro w1 rfl
      refine ⟨_, sc_V hC (f_X12_one_full (kl K) E q ab be fe fc mo (nI L) ta tl tkn va a r k1 k2 (by first | assumption | omega) (by first | assumption | omega) (by first | assumption | omega)) wX12_one [52, 53, 56] (WW E x h dr g0 g1 q ik (upd r 2 (r 2 + nI 1)) (nI L) sr sa en vl T ab be ao at1 an fw ft mt bh (a 1) (nI 7) (nI u) (nI v) (nI w) kd pl bn dn dp nt ps da2 pe2 de2 no2 pa2 kd2 pl2 bn2 dn2 dp2 nt2 ps2 da3 pe3 de3 no3 pa3 kd3 pl3 bn3 dn3 dp3 nt3 ps3 da4 pe4 de4 no4 pa4 kd4 pl4 bn4 dn4 dp4 nt4 ps4 ab be fe fc mo (nI L) ta tl tkn va a kp ik (upd r 2 (r 2 + nI 1)) g bg b e vs) 52 12 rfl rfl (by decide) rfl rfl rfl (by simp only [WW, wput, List.set]) rfl (rfl), ?_⟩
      rintro w2 rfl
      exact Rw_in (hH) (rfl) (rL) (hT) (hI0) (hI1)
    · skip
      refine ⟨_, _, sc_V hC (f_X11_one_ok (kl K) E x h dr (a 1) (nI u) (nI v) (nI w) n kd pl bn k1 k2 (by first | assumption | omega) (by first | assumption | omega) (by first | assumption | omega)) wX11_one [0, 20, 21, 22, 23] (WW E x h dr g0 g1 q ik r (nI L) sr sa en vl T ab be ao at1 an fw ft mt bh (a 1) (nI (n + 1)) (nI u) (nI v) (nI 0) (un kd n k1) (un pl n k2) (un bn n (2 ^ n)) dn dp nt ps da2 pe2 de2 no2 pa2 kd2 pl2 bn2 dn2 dp2 nt2 ps2 da3 pe3 de3 no3 pa3 kd3 pl3 bn3 dn3 dp3 nt3 ps3 da4 pe4 de4 no4 pa4 kd4 pl4 bn4 dn4 dp4 nt4 ps4 ab be fe fc mo (nI L) ta tl tkn va a kp ik r g bg b e vs) 0 11 rfl rfl (by decide) rfl rfl rfl (by simp only [WW, wput, List.set]) rfl (rfl), ?_⟩
      rintro w1 rfl
      refine ⟨_, sc_V hC (f_X12_one_ok (kl K) E q ab be fe fc mo (nI L) ta tl tkn va a r n k1 k2 (by first | assumption | omega) (by first | assumption | omega) (by first | assumption | omega) (by first | assumption | omega)) wX12_one [52, 53, 56] (WW E x h dr g0 g1 q ik r (nI L) sr sa en vl T ab be ao at1 an fw ft mt bh (a 1) (nI (n + 1)) (nI u) (nI v) (nI 0) (un kd n k1) (un pl n k2) (un bn n (2 ^ n)) dn dp nt ps da2 pe2 de2 no2 pa2 kd2 pl2 bn2 dn2 dp2 nt2 ps2 da3 pe3 de3 no3 pa3 kd3 pl3 bn3 dn3 dp3 nt3 ps3 da4 pe4 de4 no4 pa4 kd4 pl4 bn4 dn4 dp4 nt4 ps4 ab be fe fc mo (nI L) ta tl tkn va (upd (layF a k1 k2 n) 4 (nI 0)) kp ik r g bg b e vs) 52 12 rfl rfl (by decide) rfl rfl rfl (by simp only [WW, wput, List.set]) rfl (rfl), ?_⟩
      rintro w2 rfl
      exact Rw_in (RH_one hH (by omega) hk1 hk2) (layF_1) (rL) (hT) (hI0) (hI1)
  · skip
    have hb := (Bool.not_eq_true _).mp hb
    refine ⟨_, _, sc_V hC (f_X11_one_bad (kl K) E x h dr r p1 p2 (by first | assumption | omega)) wX11_one [0, 3] (WW E x h dr g0 g1 q ik (upd r 0 (r 0 + nI 1)) (nI L) sr sa en vl T ab be ao at1 an fw ft mt bh (a 1) (nI n) (nI u) (nI v) (nI w) kd pl bn dn dp nt ps da2 pe2 de2 no2 pa2 kd2 pl2 bn2 dn2 dp2 nt2 ps2 da3 pe3 de3 no3 pa3 kd3 pl3 bn3 dn3 dp3 nt3 ps3 da4 pe4 de4 no4 pa4 kd4 pl4 bn4 dn4 dp4 nt4 ps4 ab be fe fc mo (nI L) ta tl tkn va a kp ik r g bg b e vs) 0 11 rfl rfl (by decide) rfl rfl rfl (by simp only [WW, wput, List.set]) rfl (rfl), ?_⟩
    rintro w1 rfl
    refine ⟨_, sc_V hC (f_X12_one_bad (kl K) E q ab be fe fc mo (nI L) ta tl tkn va a r p1 p2 (by first | assumption | omega)) wX12_one [52, 53, 56] (WW E x h dr g0 g1 q ik (upd r 0 (r 0 + nI 1)) (nI L) sr sa en vl T ab be ao at1 an fw ft mt bh (a 1) (nI n) (nI u) (nI v) (nI w) kd pl bn dn dp nt ps da2 pe2 de2 no2 pa2 kd2 pl2 bn2 dn2 dp2 nt2 ps2 da3 pe3 de3 no3 pa3 kd3 pl3 bn3 dn3 dp3 nt3 ps3 da4 pe4 de4 no4 pa4 kd4 pl4 bn4 dn4 dp4 nt4 ps4 ab be fe fc mo (nI L) ta tl tkn va a kp ik (upd r 0 (r 0 + nI 1)) g bg b e vs) 52 12 rfl rfl (by decide) rfl rfl rfl (by simp only [WW, wput, List.set]) rfl (rfl), ?_⟩
    rintro w2 rfl
    exact Rw_in (hH) (rfl) (rL) (hT) (hI0) (hI1)
set_option maxHeartbeats 2000000 in
set_option maxRecDepth 100000 in
theorem j_type {K : Kx} {E : Ew} {cc : ByteArray} {nL : Nat} {own : String} {x h dr g0 g1 q : Nat → Nat} {ws : va_W} (hC : Cx K E cc nL own 8) (hR : Rw E x h dr g0 g1 q ws) (p1 : Int32) : Jt K E cc nL own (Rw E x h dr g0 g1 q) (x 0) (q 0) yX11_type yX12_type [.int p1] ws := by
  refine Rw_el hR ?_
  intro ik r L sr sa en vl T ab be ao at1 an fw ft mt bh da n u v w kd pl bn dn dp nt ps da2 pe2 de2 no2 pa2 kd2 pl2 bn2 dn2 dp2 nt2 ps2 da3 pe3 de3 no3 pa3 kd3 pl3 bn3 dn3 dp3 nt3 ps3 da4 pe4 de4 no4 pa4 kd4 pl4 bn4 dn4 dp4 nt4 ps4 fe fc mo ta tl tkn va a kp g bg b e vs hw hH hda rL hT hI0 hI1
  subst hw
  subst hda
  obtain ⟨h0, h2, h3, h4, hu6, hv6, hw8, rB, rK, hDd, hNn, hPp⟩ := id hH
  have hn7 := rB.2.2
  have hbn := RB_lt rB
  have hb128 := RB_128 rB
  have hb31 := RB_31 rB
  have hkd : ∀ p, p < n → kd p < 6 := fun p hp => (rK p hp).2.2.1
  have hpl : ∀ p, p < n → pl p < 10 := fun p hp => (rK p hp).2.2.2
  have hpk := RH_pk rK
  have hu9 := RH_u9 h4 hw8
  have hnm := RH_nm rB
  have hddM := RH_dd hDd
  have hntM := RH_ntM hNn
  have hntC := RH_ntC hNn
  have hdn : ∀ k, k < u → dn k < 7 := fun k hk => (hDd k hk).2.2.1
  have hdp : ∀ k, k < u → dp k ≤ 60 := fun k hk => (hDd k hk).2.2.2
  have hTc : ∀ j, j < L → T j < 128 := fun j hj => (hT j hj).2
  by_cases hb : (inB p1 128) = true
  · skip
    have hc1 := hb
    obtain ⟨k1, hk1, rfl⟩ := inB_ex (by omega) hc1
    by_cases hf : L = 150
    · skip
      subst hf
      refine ⟨_, _, sc_V hC (f_X11_type_full (kl K) E x h dr sr sa en vl r k1 (by first | assumption | omega)) wX11_type [0, 4, 3] (WW E x h dr g0 g1 q ik (upd r 2 (r 2 + nI 1)) (nI 150) sr sa en vl T ab be ao at1 an fw ft mt bh (a 1) (nI n) (nI u) (nI v) (nI w) kd pl bn dn dp nt ps da2 pe2 de2 no2 pa2 kd2 pl2 bn2 dn2 dp2 nt2 ps2 da3 pe3 de3 no3 pa3 kd3 pl3 bn3 dn3 dp3 nt3 ps3 da4 pe4 de4 no4 pa4 kd4 pl4 bn4 dn4 dp4 nt4 ps4 ab be fe fc mo (nI 150) ta tl tkn va a kp ik r g bg b e vs) 0 11 rfl rfl (by decide) rfl rfl rfl (by simp only [WW, wput, List.set]) rfl (rfl), ?_⟩
      rintro w1 rfl
      refine ⟨_, sc_V hC (f_X12_type_full (kl K) E q ab be fe fc mo ta tl tkn va r b k1 (by first | assumption | omega)) wX12_type [52, 56, 59] (WW E x h dr g0 g1 q ik (upd r 2 (r 2 + nI 1)) (nI 150) sr sa en vl T ab be ao at1 an fw ft mt bh (a 1) (nI n) (nI u) (nI v) (nI w) kd pl bn dn dp nt ps da2 pe2 de2 no2 pa2 kd2 pl2 bn2 dn2 dp2 nt2 ps2 da3 pe3 de3 no3 pa3 kd3 pl3 bn3 dn3 dp3 nt3 ps3 da4 pe4 de4 no4 pa4 kd4 pl4 bn4 dn4 dp4 nt4 ps4 ab be fe fc mo (nI 150) ta tl tkn va a kp ik (upd r 2 (r 2 + nI 1)) g bg b e vs) 52 12 rfl rfl (by decide) rfl rfl rfl (by simp only [WW, wput, List.set]) rfl (rfl), ?_⟩
      rintro w2 rfl
      exact Rw_in (hH) (rfl) (rL) (hT) (hI0) (hI1)
    · skip
      refine ⟨_, _, sc_V hC (f_X11_type_ok (kl K) E x h dr sr sa en vl T L k1 (by first | assumption | omega) (by first | assumption | omega)) wX11_type [0, 4, 5] (WW E x h dr g0 g1 q ik r (nI (L + 1)) sr sa en vl (un T L k1) ab be ao at1 an fw ft mt bh (a 1) (nI n) (nI u) (nI v) (nI w) kd pl bn dn dp nt ps da2 pe2 de2 no2 pa2 kd2 pl2 bn2 dn2 dp2 nt2 ps2 da3 pe3 de3 no3 pa3 kd3 pl3 bn3 dn3 dp3 nt3 ps3 da4 pe4 de4 no4 pa4 kd4 pl4 bn4 dn4 dp4 nt4 ps4 ab be fe fc mo (nI L) ta tl tkn va a kp ik r g bg b e vs) 0 11 rfl rfl (by decide) rfl rfl rfl (by simp only [WW, wput, List.set]) rfl (rfl), ?_⟩
      rintro w1 rfl
      refine ⟨_, sc_V hC (f_X12_type_ok (kl K) E q ab be fe fc mo ta tl tkn va r b L k1 (by first | assumption | omega) (by first | assumption | omega)) wX12_type [52, 56, 59] (WW E x h dr g0 g1 q ik r (nI (L + 1)) sr sa en vl (un T L k1) ab be ao at1 an fw ft mt bh (a 1) (nI n) (nI u) (nI v) (nI w) kd pl bn dn dp nt ps da2 pe2 de2 no2 pa2 kd2 pl2 bn2 dn2 dp2 nt2 ps2 da3 pe3 de3 no3 pa3 kd3 pl3 bn3 dn3 dp3 nt3 ps3 da4 pe4 de4 no4 pa4 kd4 pl4 bn4 dn4 dp4 nt4 ps4 ab be fe fc mo (nI (L + 1)) ta tl tkn va a kp ik r g bg (upd b L (nI k1)) e vs) 52 12 rfl rfl (by decide) rfl rfl rfl (by simp only [WW, wput, List.set]) rfl (rfl), ?_⟩
      rintro w2 rfl
      exact Rw_in (hH) (rfl) (by omega) (fun j hj => by
          by_cases e : j = L
          · subst e; rw [upd_s, un_s]; exact ⟨rfl, hk1⟩
          · rw [upd_n e, un_n e]; exact hT j (by omega)) (hI0) (hI1)
  · skip
    have hb := (Bool.not_eq_true _).mp hb
    refine ⟨_, _, sc_V hC (f_X11_type_bad (kl K) E x h dr r p1 (by first | assumption | omega)) wX11_type [0, 3] (WW E x h dr g0 g1 q ik (upd r 0 (r 0 + nI 1)) (nI L) sr sa en vl T ab be ao at1 an fw ft mt bh (a 1) (nI n) (nI u) (nI v) (nI w) kd pl bn dn dp nt ps da2 pe2 de2 no2 pa2 kd2 pl2 bn2 dn2 dp2 nt2 ps2 da3 pe3 de3 no3 pa3 kd3 pl3 bn3 dn3 dp3 nt3 ps3 da4 pe4 de4 no4 pa4 kd4 pl4 bn4 dn4 dp4 nt4 ps4 ab be fe fc mo (nI L) ta tl tkn va a kp ik r g bg b e vs) 0 11 rfl rfl (by decide) rfl rfl rfl (by simp only [WW, wput, List.set]) rfl (rfl), ?_⟩
    rintro w1 rfl
    refine ⟨_, sc_V hC (f_X12_type_bad (kl K) E q ab be fe fc mo (nI L) ta tl tkn va r b p1 (by first | assumption | omega)) wX12_type [52, 56, 59] (WW E x h dr g0 g1 q ik (upd r 0 (r 0 + nI 1)) (nI L) sr sa en vl T ab be ao at1 an fw ft mt bh (a 1) (nI n) (nI u) (nI v) (nI w) kd pl bn dn dp nt ps da2 pe2 de2 no2 pa2 kd2 pl2 bn2 dn2 dp2 nt2 ps2 da3 pe3 de3 no3 pa3 kd3 pl3 bn3 dn3 dp3 nt3 ps3 da4 pe4 de4 no4 pa4 kd4 pl4 bn4 dn4 dp4 nt4 ps4 ab be fe fc mo (nI L) ta tl tkn va a kp ik (upd r 0 (r 0 + nI 1)) g bg b e vs) 52 12 rfl rfl (by decide) rfl rfl rfl (by simp only [WW, wput, List.set]) rfl (rfl), ?_⟩
    rintro w2 rfl
    exact Rw_in (hH) (rfl) (rL) (hT) (hI0) (hI1)
set_option maxHeartbeats 2000000 in
set_option maxRecDepth 100000 in
theorem j_clear {K : Kx} {E : Ew} {cc : ByteArray} {nL : Nat} {own : String} {x h dr g0 g1 q : Nat → Nat} {ws : va_W} (hC : Cx K E cc nL own 8) (hR : Rw E x h dr g0 g1 q ws) : Jt K E cc nL own (Rw E x h dr g0 g1 q) (x 0) (q 0) yX11_clear yX12_clear [] ws := by
  refine Rw_el hR ?_
  intro ik r L sr sa en vl T ab be ao at1 an fw ft mt bh da n u v w kd pl bn dn dp nt ps da2 pe2 de2 no2 pa2 kd2 pl2 bn2 dn2 dp2 nt2 ps2 da3 pe3 de3 no3 pa3 kd3 pl3 bn3 dn3 dp3 nt3 ps3 da4 pe4 de4 no4 pa4 kd4 pl4 bn4 dn4 dp4 nt4 ps4 fe fc mo ta tl tkn va a kp g bg b e vs hw hH hda rL hT hI0 hI1
  subst hw
  subst hda
  obtain ⟨h0, h2, h3, h4, hu6, hv6, hw8, rB, rK, hDd, hNn, hPp⟩ := id hH
  have hn7 := rB.2.2
  have hbn := RB_lt rB
  have hb128 := RB_128 rB
  have hb31 := RB_31 rB
  have hkd : ∀ p, p < n → kd p < 6 := fun p hp => (rK p hp).2.2.1
  have hpl : ∀ p, p < n → pl p < 10 := fun p hp => (rK p hp).2.2.2
  have hpk := RH_pk rK
  have hu9 := RH_u9 h4 hw8
  have hnm := RH_nm rB
  have hddM := RH_dd hDd
  have hntM := RH_ntM hNn
  have hntC := RH_ntC hNn
  have hdn : ∀ k, k < u → dn k < 7 := fun k hk => (hDd k hk).2.2.1
  have hdp : ∀ k, k < u → dp k ≤ 60 := fun k hk => (hDd k hk).2.2.2
  have hTc : ∀ j, j < L → T j < 128 := fun j hj => (hT j hj).2
  refine ⟨_, _, sc_V hC (f_X11_clear (kl K) E x h dr sr sa en vl (nI L)) wX11_clear [0, 4] (WW E x h dr g0 g1 q ik r (nI 0) sr sa en vl T ab be ao at1 an fw ft mt bh (a 1) (nI n) (nI u) (nI v) (nI w) kd pl bn dn dp nt ps da2 pe2 de2 no2 pa2 kd2 pl2 bn2 dn2 dp2 nt2 ps2 da3 pe3 de3 no3 pa3 kd3 pl3 bn3 dn3 dp3 nt3 ps3 da4 pe4 de4 no4 pa4 kd4 pl4 bn4 dn4 dp4 nt4 ps4 ab be fe fc mo (nI L) ta tl tkn va a kp ik r g bg b e vs) 0 11 rfl rfl (by decide) rfl rfl rfl (by simp only [WW, wput, List.set]) rfl (rfl), ?_⟩
  rintro w1 rfl
  refine ⟨_, sc_V hC (f_X12_clear (kl K) E q ab be fe fc mo (nI L) ta tl tkn va) wX12_clear [52] (WW E x h dr g0 g1 q ik r (nI 0) sr sa en vl T ab be ao at1 an fw ft mt bh (a 1) (nI n) (nI u) (nI v) (nI w) kd pl bn dn dp nt ps da2 pe2 de2 no2 pa2 kd2 pl2 bn2 dn2 dp2 nt2 ps2 da3 pe3 de3 no3 pa3 kd3 pl3 bn3 dn3 dp3 nt3 ps3 da4 pe4 de4 no4 pa4 kd4 pl4 bn4 dn4 dp4 nt4 ps4 ab be fe fc mo (nI 0) ta tl tkn va a kp ik r g bg b e vs) 52 12 rfl rfl (by decide) rfl rfl rfl (by simp only [WW, wput, List.set]) rfl (rfl), ?_⟩
  rintro w2 rfl
  exact Rw_in (hH) (rfl) (Nat.zero_le _) (fun j hj => absurd hj (Nat.not_lt_zero j)) (hI0) (hI1)
set_option maxHeartbeats 2000000 in
set_option maxRecDepth 100000 in
theorem j_read {K : Kx} {E : Ew} {cc : ByteArray} {nL : Nat} {own : String} {x h dr g0 g1 q : Nat → Nat} {ws : va_W} (hC : Cx K E cc nL own 8) (hR : Rw E x h dr g0 g1 q ws) : Jt K E cc nL own (Rw E x h dr g0 g1 q) (x 0) (q 0) yX11_read yX12_read [] ws := by
  refine Rw_el hR ?_
  intro ik r L sr sa en vl T ab be ao at1 an fw ft mt bh da n u v w kd pl bn dn dp nt ps da2 pe2 de2 no2 pa2 kd2 pl2 bn2 dn2 dp2 nt2 ps2 da3 pe3 de3 no3 pa3 kd3 pl3 bn3 dn3 dp3 nt3 ps3 da4 pe4 de4 no4 pa4 kd4 pl4 bn4 dn4 dp4 nt4 ps4 fe fc mo ta tl tkn va a kp g bg b e vs hw hH hda rL hT hI0 hI1
  subst hw
  subst hda
  obtain ⟨h0, h2, h3, h4, hu6, hv6, hw8, rB, rK, hDd, hNn, hPp⟩ := id hH
  have hn7 := rB.2.2
  have hbn := RB_lt rB
  have hb128 := RB_128 rB
  have hb31 := RB_31 rB
  have hkd : ∀ p, p < n → kd p < 6 := fun p hp => (rK p hp).2.2.1
  have hpl : ∀ p, p < n → pl p < 10 := fun p hp => (rK p hp).2.2.2
  have hpk := RH_pk rK
  have hu9 := RH_u9 h4 hw8
  have hnm := RH_nm rB
  have hddM := RH_dd hDd
  have hntM := RH_ntM hNn
  have hntC := RH_ntC hNn
  have hdn : ∀ k, k < u → dn k < 7 := fun k hk => (hDd k hk).2.2.1
  have hdp : ∀ k, k < u → dp k ≤ 60 := fun k hk => (hDd k hk).2.2.2
  have hTc : ∀ j, j < L → T j < 128 := fun j hj => (hT j hj).2
  obtain ⟨kd2, rfl⟩ := nf_ex kd2
  obtain ⟨pl2, rfl⟩ := nf_ex pl2
  obtain ⟨bn2, rfl⟩ := nf_ex bn2
  obtain ⟨dn2, rfl⟩ := nf_ex dn2
  obtain ⟨dp2, rfl⟩ := nf_ex dp2
  obtain ⟨nt2, rfl⟩ := nf_ex nt2
  by_cases hk : (rdC T L kd2 pl2).1 = true
  · skip
    refine ⟨_, _, sc_VE hC (f_X11_read_ok (kl K) E x h dr sr sa en vl T L (a 1) (nI n) (nI u) (nI v) (nI w) da2 pe2 de2 no2 pa2 kd pl bn dn dp nt ps kd2 pl2 bn2 dn2 dp2 nt2 ps2 (by first | assumption | omega) (by first | assumption | omega) (by first | assumption | omega)) wX11_read [0, 4, 5, 20, 21, 22, 23, 24, 25, 26, 27, 28, 29, 30, 31, 32, 33, 34, 35] (fun jj => WW E x h dr g0 g1 q ik r (nI L) (jj 0 0) (jj 1 0) (jj 2 0) (jj 3 0) T ab be ao at1 an fw ft mt bh (nI (tV T L (tE T L 0))) (nI (rdC T L kd2 pl2).2.2.2.2.2) (nI 0) (nI 0) (nI 0) ((rdC T L kd2 pl2).2.2.1) ((rdC T L kd2 pl2).2.2.2.1) ((rdC T L kd2 pl2).2.2.2.2.1) dn2 dp2 nt2 ps2 (nI (tV T L (tE T L 0))) (nI (rdC T L kd2 pl2).2.2.2.2.2) (nI 0) (nI 0) (nI 0) (nf (rdC T L kd2 pl2).2.2.1) (nf (rdC T L kd2 pl2).2.2.2.1) (nf (rdC T L kd2 pl2).2.2.2.2.1) (nf dn2) (nf dp2) (nf nt2) ps2 da3 pe3 de3 no3 pa3 kd3 pl3 bn3 dn3 dp3 nt3 ps3 da4 pe4 de4 no4 pa4 kd4 pl4 bn4 dn4 dp4 nt4 ps4 ab be fe fc mo (nI L) ta tl tkn va a kp ik r g bg b e vs) 0 11 rfl rfl (by decide) rfl rfl rfl (fun jj => by simp only [WW, wput, List.set]) (fun _ => rfl) (rfl), ?_⟩
    rintro w1 ⟨jj1, rfl⟩
    refine ⟨_, sc_VE hC (f_X12_read (kl K) E q ab be fe fc mo ta tl tkn va b T L a e vs (by first | assumption | omega) (by first | assumption | omega)) wX12_read [52, 53, 59, 60, 61] (fun jj => WW E x h dr g0 g1 q ik r (nI L) (jj1 0 0) (jj1 1 0) (jj1 2 0) (jj1 3 0) T ab be ao at1 an fw ft mt bh (nI (tV T L (tE T L 0))) (nI (rdC T L kd2 pl2).2.2.2.2.2) (nI 0) (nI 0) (nI 0) ((rdC T L kd2 pl2).2.2.1) ((rdC T L kd2 pl2).2.2.2.1) ((rdC T L kd2 pl2).2.2.2.2.1) dn2 dp2 nt2 ps2 (nI (tV T L (tE T L 0))) (nI (rdC T L kd2 pl2).2.2.2.2.2) (nI 0) (nI 0) (nI 0) (nf (rdC T L kd2 pl2).2.2.1) (nf (rdC T L kd2 pl2).2.2.2.1) (nf (rdC T L kd2 pl2).2.2.2.2.1) (nf dn2) (nf dp2) (nf nt2) ps2 da3 pe3 de3 no3 pa3 kd3 pl3 bn3 dn3 dp3 nt3 ps3 da4 pe4 de4 no4 pa4 kd4 pl4 bn4 dn4 dp4 nt4 ps4 ab be fe fc mo (nI L) (jj 2 0) (jj 3 0) (jj 4 0) (jj 5 0) (rdN T L a) kp ik r g bg b (jj 0) (jj 1)) 52 12 rfl rfl (by decide) rfl rfl rfl (fun jj => by simp only [WW, wput, List.set]) (fun _ => rfl) (by rw [rdR_C T L kd2 pl2, if_pos hk]), ?_⟩
    rintro w2 ⟨jj2, rfl⟩
    exact Rw_in ((RH_read hk).1) ((RH_read (a := a) (ps := ps2) (dn := dn2) (dp := dp2) (nt := nt2) hk).2) (rL) (hT) (hI0) (hI1)
  · skip
    have hk := (Bool.not_eq_true _).mp hk
    refine ⟨_, _, sc_VE hC (f_X11_read_no (kl K) E x h dr sr sa en vl T L (a 1) (nI n) (nI u) (nI v) (nI w) da2 pe2 de2 no2 pa2 kd pl bn dn dp nt ps kd2 pl2 bn2 dn2 dp2 nt2 ps2 (by first | assumption | omega) (by first | assumption | omega) (by first | assumption | omega)) wX11_read [0, 4, 5, 20, 21, 22, 23, 24, 25, 26, 27, 28, 29, 30, 31, 32, 33, 34, 35] (fun jj => WW E x h dr g0 g1 q ik r (nI L) (jj 0 0) (nI (rdC T L kd2 pl2).2.1) (jj 1 0) (jj 2 0) T ab be ao at1 an fw ft mt bh (a 1) (nI n) (nI u) (nI v) (nI w) kd pl bn dn dp nt ps (jj 3 0) (jj 4 0) (jj 5 0) (jj 6 0) (jj 7 0) (jj 8) (jj 9) (jj 10) (nf dn2) (nf dp2) (nf nt2) ps2 da3 pe3 de3 no3 pa3 kd3 pl3 bn3 dn3 dp3 nt3 ps3 da4 pe4 de4 no4 pa4 kd4 pl4 bn4 dn4 dp4 nt4 ps4 ab be fe fc mo (nI L) ta tl tkn va a kp ik r g bg b e vs) 0 11 rfl rfl (by decide) rfl rfl rfl (fun jj => by simp only [WW, wput, List.set]) (fun _ => rfl) (rfl), ?_⟩
    rintro w1 ⟨jj1, rfl⟩
    refine ⟨_, sc_VE hC (f_X12_read (kl K) E q ab be fe fc mo ta tl tkn va b T L a e vs (by first | assumption | omega) (by first | assumption | omega)) wX12_read [52, 53, 59, 60, 61] (fun jj => WW E x h dr g0 g1 q ik r (nI L) (jj1 0 0) (nI (rdC T L kd2 pl2).2.1) (jj1 1 0) (jj1 2 0) T ab be ao at1 an fw ft mt bh (a 1) (nI n) (nI u) (nI v) (nI w) kd pl bn dn dp nt ps (jj1 3 0) (jj1 4 0) (jj1 5 0) (jj1 6 0) (jj1 7 0) (jj1 8) (jj1 9) (jj1 10) (nf dn2) (nf dp2) (nf nt2) ps2 da3 pe3 de3 no3 pa3 kd3 pl3 bn3 dn3 dp3 nt3 ps3 da4 pe4 de4 no4 pa4 kd4 pl4 bn4 dn4 dp4 nt4 ps4 ab be fe fc mo (nI L) (jj 2 0) (jj 3 0) (jj 4 0) (jj 5 0) (rdN T L a) kp ik r g bg b (jj 0) (jj 1)) 52 12 rfl rfl (by decide) rfl rfl rfl (fun jj => by simp only [WW, wput, List.set]) (fun _ => rfl) (by rw [rdR_C T L kd2 pl2, if_neg (by rw [hk]; decide)]), ?_⟩
    rintro w2 ⟨jj2, rfl⟩
    exact Rw_in (by rw [rdN_no hk]; exact hH) (by rw [rdN_no hk]) (rL) (hT) (hI0) (hI1)
set_option maxHeartbeats 2000000 in
set_option maxRecDepth 100000 in
theorem j_call {K : Kx} {E : Ew} {cc : ByteArray} {nL : Nat} {own : String} {x h dr g0 g1 q : Nat → Nat} {ws : va_W} (hC : Cx K E cc nL own 8) (hR : Rw E x h dr g0 g1 q ws) (p1 p2 : Int32) : Jt K E cc nL own (Rw E x h dr g0 g1 q) (x 0) (q 0) yX11_call yX12_call [.int p1, .int p2] ws := by
  refine Rw_el hR ?_
  intro ik r L sr sa en vl T ab be ao at1 an fw ft mt bh da n u v w kd pl bn dn dp nt ps da2 pe2 de2 no2 pa2 kd2 pl2 bn2 dn2 dp2 nt2 ps2 da3 pe3 de3 no3 pa3 kd3 pl3 bn3 dn3 dp3 nt3 ps3 da4 pe4 de4 no4 pa4 kd4 pl4 bn4 dn4 dp4 nt4 ps4 fe fc mo ta tl tkn va a kp g bg b e vs hw hH hda rL hT hI0 hI1
  subst hw
  subst hda
  obtain ⟨h0, h2, h3, h4, hu6, hv6, hw8, rB, rK, hDd, hNn, hPp⟩ := id hH
  have hn7 := rB.2.2
  have hbn := RB_lt rB
  have hb128 := RB_128 rB
  have hb31 := RB_31 rB
  have hkd : ∀ p, p < n → kd p < 6 := fun p hp => (rK p hp).2.2.1
  have hpl : ∀ p, p < n → pl p < 10 := fun p hp => (rK p hp).2.2.2
  have hpk := RH_pk rK
  have hu9 := RH_u9 h4 hw8
  have hnm := RH_nm rB
  have hddM := RH_dd hDd
  have hntM := RH_ntM hNn
  have hntC := RH_ntC hNn
  have hdn : ∀ k, k < u → dn k < 7 := fun k hk => (hDd k hk).2.2.1
  have hdp : ∀ k, k < u → dp k ≤ 60 := fun k hk => (hDd k hk).2.2.2
  have hTc : ∀ j, j < L → T j < 128 := fun j hj => (hT j hj).2
  by_cases hb : (inB p1 n && inB p2 10) = true
  · skip
    simp only [Bool.and_eq_true] at hb
    obtain ⟨hc1, hc2⟩ := hb
    obtain ⟨k1, hk1, rfl⟩ := inB_ex (by omega) hc1
    obtain ⟨k2, hk2, rfl⟩ := inB_ex (by omega) hc2
    refine ⟨_, _, sc_V hC (f_X11_call_ok (kl K) E x h dr (a 1) (nI u) (nI v) n kd pl bn ao at1 an ps w k1 k2 (by first | assumption | omega) (by first | assumption | omega) (by first | assumption | omega) (by first | assumption | omega) (by first | assumption | omega) (by first | assumption | omega) (by first | assumption | omega)) wX11_call [0, 7, 8, 14, 15, 16, 17, 18, 19, 9, 10, 11, 20, 21, 22, 23, 27] (WW E x h dr g0 g1 q ik r (nI L) sr sa en vl T ab be (un ao k2 (hB kd pl k2 (a 1) true false n)) (un at1 k2 (hB kd pl k2 (a 1) false false n)) (un an k2 (hB kd pl k2 (a 1) false true n)) fw ft mt bh (a 1) (nI n) (nI u) (nI v) (nI (if w = 8 then 8 else w + 1)) kd pl (stl bn k1 (HT kd pl bn (a 1) k1 k2 n)) dn dp nt (rmF bn pl (a 1) ps w) da2 pe2 de2 no2 pa2 kd2 pl2 bn2 dn2 dp2 nt2 ps2 da3 pe3 de3 no3 pa3 kd3 pl3 bn3 dn3 dp3 nt3 ps3 da4 pe4 de4 no4 pa4 kd4 pl4 bn4 dn4 dp4 nt4 ps4 ab be fe fc mo (nI L) ta tl tkn va a kp ik r g bg b e vs) 0 11 rfl rfl (by decide) rfl rfl rfl (by simp only [WW, wput, List.set]) rfl (rfl), ?_⟩
    rintro w1 rfl
    refine ⟨_, sc_V hC (f_X12_call_ok (kl K) E q ab be fe fc mo (nI L) ta tl tkn va a r g n k1 k2 (by first | assumption | omega) (by first | assumption | omega) (by first | assumption | omega) (by first | assumption | omega) (by first | assumption | omega) (by first | assumption | omega)) wX12_call [52, 53, 56, 57] (WW E x h dr g0 g1 q ik r (nI L) sr sa en vl T ab be (un ao k2 (hB kd pl k2 (a 1) true false n)) (un at1 k2 (hB kd pl k2 (a 1) false false n)) (un an k2 (hB kd pl k2 (a 1) false true n)) fw ft mt bh (a 1) (nI n) (nI u) (nI v) (nI (if w = 8 then 8 else w + 1)) kd pl (stl bn k1 (HT kd pl bn (a 1) k1 k2 n)) dn dp nt (rmF bn pl (a 1) ps w) da2 pe2 de2 no2 pa2 kd2 pl2 bn2 dn2 dp2 nt2 ps2 da3 pe3 de3 no3 pa3 kd3 pl3 bn3 dn3 dp3 nt3 ps3 da4 pe4 de4 no4 pa4 kd4 pl4 bn4 dn4 dp4 nt4 ps4 ab be fe fc mo (nI L) ta tl tkn va (calF a (nI k1) k2 n) kp ik r (gT (hnd (kpF a) g n) (nI k1) (tS (kpF a) (hnd (kpF a) g n) (nI k1) k2 n) n) bg b e vs) 52 12 rfl rfl (by decide) rfl rfl rfl (by simp only [WW, wput, List.set]) rfl (by rw [RB_HT rB rK (by omega)]; rfl), ?_⟩
    rintro w2 rfl
    exact Rw_in (RH_call hH hk1) (calF_1) (rL) (hT) (hI0) (hI1)
  · skip
    have hb := (Bool.not_eq_true _).mp hb
    refine ⟨_, _, sc_V hC (f_X11_call_bad (kl K) E x h dr (a 1) (nI u) (nI v) (nI w) n r p1 p2 (by first | assumption | omega) (by first | assumption | omega)) wX11_call [0, 20, 3] (WW E x h dr g0 g1 q ik (upd r 0 (r 0 + nI 1)) (nI L) sr sa en vl T ab be ao at1 an fw ft mt bh (a 1) (nI n) (nI u) (nI v) (nI w) kd pl bn dn dp nt ps da2 pe2 de2 no2 pa2 kd2 pl2 bn2 dn2 dp2 nt2 ps2 da3 pe3 de3 no3 pa3 kd3 pl3 bn3 dn3 dp3 nt3 ps3 da4 pe4 de4 no4 pa4 kd4 pl4 bn4 dn4 dp4 nt4 ps4 ab be fe fc mo (nI L) ta tl tkn va a kp ik r g bg b e vs) 0 11 rfl rfl (by decide) rfl rfl rfl (by simp only [WW, wput, List.set]) rfl (rfl), ?_⟩
    rintro w1 rfl
    refine ⟨_, sc_V hC (f_X12_call_bad (kl K) E q ab be fe fc mo (nI L) ta tl tkn va a r n p1 p2 (by first | assumption | omega) (by first | assumption | omega) (by first | assumption | omega)) wX12_call [52, 53, 56] (WW E x h dr g0 g1 q ik (upd r 0 (r 0 + nI 1)) (nI L) sr sa en vl T ab be ao at1 an fw ft mt bh (a 1) (nI n) (nI u) (nI v) (nI w) kd pl bn dn dp nt ps da2 pe2 de2 no2 pa2 kd2 pl2 bn2 dn2 dp2 nt2 ps2 da3 pe3 de3 no3 pa3 kd3 pl3 bn3 dn3 dp3 nt3 ps3 da4 pe4 de4 no4 pa4 kd4 pl4 bn4 dn4 dp4 nt4 ps4 ab be fe fc mo (nI L) ta tl tkn va a kp ik (upd r 0 (r 0 + nI 1)) g bg b e vs) 52 12 rfl rfl (by decide) rfl rfl rfl (by simp only [WW, wput, List.set]) rfl (rfl), ?_⟩
    rintro w2 rfl
    exact Rw_in (hH) (rfl) (rL) (hT) (hI0) (hI1)
set_option maxHeartbeats 2000000 in
set_option maxRecDepth 100000 in
theorem j_goes {K : Kx} {E : Ew} {cc : ByteArray} {nL : Nat} {own : String} {x h dr g0 g1 q : Nat → Nat} {ws : va_W} (hC : Cx K E cc nL own 8) (hR : Rw E x h dr g0 g1 q ws) (p1 p2 : Int32) : Jt K E cc nL own (Rw E x h dr g0 g1 q) (x 0) (q 0) yX11_goes yX12_goes [.int p1, .int p2] ws := by
  refine Rw_el hR ?_
  intro ik r L sr sa en vl T ab be ao at1 an fw ft mt bh da n u v w kd pl bn dn dp nt ps da2 pe2 de2 no2 pa2 kd2 pl2 bn2 dn2 dp2 nt2 ps2 da3 pe3 de3 no3 pa3 kd3 pl3 bn3 dn3 dp3 nt3 ps3 da4 pe4 de4 no4 pa4 kd4 pl4 bn4 dn4 dp4 nt4 ps4 fe fc mo ta tl tkn va a kp g bg b e vs hw hH hda rL hT hI0 hI1
  subst hw
  subst hda
  obtain ⟨h0, h2, h3, h4, hu6, hv6, hw8, rB, rK, hDd, hNn, hPp⟩ := id hH
  have hn7 := rB.2.2
  have hbn := RB_lt rB
  have hb128 := RB_128 rB
  have hb31 := RB_31 rB
  have hkd : ∀ p, p < n → kd p < 6 := fun p hp => (rK p hp).2.2.1
  have hpl : ∀ p, p < n → pl p < 10 := fun p hp => (rK p hp).2.2.2
  have hpk := RH_pk rK
  have hu9 := RH_u9 h4 hw8
  have hnm := RH_nm rB
  have hddM := RH_dd hDd
  have hntM := RH_ntM hNn
  have hntC := RH_ntC hNn
  have hdn : ∀ k, k < u → dn k < 7 := fun k hk => (hDd k hk).2.2.1
  have hdp : ∀ k, k < u → dp k ≤ 60 := fun k hk => (hDd k hk).2.2.2
  have hTc : ∀ j, j < L → T j < 128 := fun j hj => (hT j hj).2
  by_cases hb : (inB p1 n && inB p2 10) = true
  · skip
    simp only [Bool.and_eq_true] at hb
    obtain ⟨hc1, hc2⟩ := hb
    obtain ⟨k1, hk1, rfl⟩ := inB_ex (by omega) hc1
    obtain ⟨k2, hk2, rfl⟩ := inB_ex (by omega) hc2
    refine ⟨_, _, sc_V hC (f_X11_goes_ok (kl K) E x h dr (a 1) (nI u) (nI v) n pl bn ps w k1 k2 (by first | assumption | omega) (by first | assumption | omega) (by first | assumption | omega) (by first | assumption | omega)) wX11_goes [0, 20, 22, 23, 27] (WW E x h dr g0 g1 q ik r (nI L) sr sa en vl T ab be ao at1 an fw ft mt bh (a 1) (nI n) (nI u) (nI v) (nI (if w = 8 then 8 else w + 1)) kd (un pl k1 k2) bn dn dp nt (rmF bn pl (a 1) ps w) da2 pe2 de2 no2 pa2 kd2 pl2 bn2 dn2 dp2 nt2 ps2 da3 pe3 de3 no3 pa3 kd3 pl3 bn3 dn3 dp3 nt3 ps3 da4 pe4 de4 no4 pa4 kd4 pl4 bn4 dn4 dp4 nt4 ps4 ab be fe fc mo (nI L) ta tl tkn va a kp ik r g bg b e vs) 0 11 rfl rfl (by decide) rfl rfl rfl (by simp only [WW, wput, List.set]) rfl (rfl), ?_⟩
    rintro w1 rfl
    refine ⟨_, sc_V hC (f_X12_goes_ok (kl K) E q ab be fe fc mo (nI L) ta tl tkn va a r n k1 k2 (by first | assumption | omega) (by first | assumption | omega) (by first | assumption | omega) (by first | assumption | omega) (by first | assumption | omega)) wX12_goes [52, 53, 56] (WW E x h dr g0 g1 q ik r (nI L) sr sa en vl T ab be ao at1 an fw ft mt bh (a 1) (nI n) (nI u) (nI v) (nI (if w = 8 then 8 else w + 1)) kd (un pl k1 k2) bn dn dp nt (rmF bn pl (a 1) ps w) da2 pe2 de2 no2 pa2 kd2 pl2 bn2 dn2 dp2 nt2 ps2 da3 pe3 de3 no3 pa3 kd3 pl3 bn3 dn3 dp3 nt3 ps3 da4 pe4 de4 no4 pa4 kd4 pl4 bn4 dn4 dp4 nt4 ps4 ab be fe fc mo (nI L) ta tl tkn va (upd (kpF a) (12 + k1) (nI k2)) kp ik r g bg b e vs) 52 12 rfl rfl (by decide) rfl rfl rfl (by simp only [WW, wput, List.set]) rfl (by rw [(rK k1 hk1).2.1]), ?_⟩
    rintro w2 rfl
    exact Rw_in (RH_goes hH hk1 hk2) (by rw [upd_n (by omega), kpF_lo (by decide) (by decide)]) (rL) (hT) (hI0) (hI1)
  · skip
    have hb := (Bool.not_eq_true _).mp hb
    refine ⟨_, _, sc_V hC (f_X11_goes_bad (kl K) E x h dr (a 1) (nI u) (nI v) (nI w) n r p1 p2 (by first | assumption | omega) (by first | assumption | omega)) wX11_goes [0, 20, 3] (WW E x h dr g0 g1 q ik (upd r 0 (r 0 + nI 1)) (nI L) sr sa en vl T ab be ao at1 an fw ft mt bh (a 1) (nI n) (nI u) (nI v) (nI w) kd pl bn dn dp nt ps da2 pe2 de2 no2 pa2 kd2 pl2 bn2 dn2 dp2 nt2 ps2 da3 pe3 de3 no3 pa3 kd3 pl3 bn3 dn3 dp3 nt3 ps3 da4 pe4 de4 no4 pa4 kd4 pl4 bn4 dn4 dp4 nt4 ps4 ab be fe fc mo (nI L) ta tl tkn va a kp ik r g bg b e vs) 0 11 rfl rfl (by decide) rfl rfl rfl (by simp only [WW, wput, List.set]) rfl (rfl), ?_⟩
    rintro w1 rfl
    refine ⟨_, sc_V hC (f_X12_goes_bad (kl K) E q ab be fe fc mo (nI L) ta tl tkn va a r n p1 p2 (by first | assumption | omega) (by first | assumption | omega) (by first | assumption | omega)) wX12_goes [52, 53, 56] (WW E x h dr g0 g1 q ik (upd r 0 (r 0 + nI 1)) (nI L) sr sa en vl T ab be ao at1 an fw ft mt bh (a 1) (nI n) (nI u) (nI v) (nI w) kd pl bn dn dp nt ps da2 pe2 de2 no2 pa2 kd2 pl2 bn2 dn2 dp2 nt2 ps2 da3 pe3 de3 no3 pa3 kd3 pl3 bn3 dn3 dp3 nt3 ps3 da4 pe4 de4 no4 pa4 kd4 pl4 bn4 dn4 dp4 nt4 ps4 ab be fe fc mo (nI L) ta tl tkn va a kp ik (upd r 0 (r 0 + nI 1)) g bg b e vs) 52 12 rfl rfl (by decide) rfl rfl rfl (by simp only [WW, wput, List.set]) rfl (rfl), ?_⟩
    rintro w2 rfl
    exact Rw_in (hH) (rfl) (rL) (hT) (hI0) (hI1)
set_option maxHeartbeats 2000000 in
set_option maxRecDepth 100000 in
theorem j_day {K : Kx} {E : Ew} {cc : ByteArray} {nL : Nat} {own : String} {x h dr g0 g1 q : Nat → Nat} {ws : va_W} (hC : Cx K E cc nL own 8) (hR : Rw E x h dr g0 g1 q ws) : Jt K E cc nL own (Rw E x h dr g0 g1 q) (x 0) (q 0) yX11_day yX12_day [] ws := by
  refine Rw_el hR ?_
  intro ik r L sr sa en vl T ab be ao at1 an fw ft mt bh da n u v w kd pl bn dn dp nt ps da2 pe2 de2 no2 pa2 kd2 pl2 bn2 dn2 dp2 nt2 ps2 da3 pe3 de3 no3 pa3 kd3 pl3 bn3 dn3 dp3 nt3 ps3 da4 pe4 de4 no4 pa4 kd4 pl4 bn4 dn4 dp4 nt4 ps4 fe fc mo ta tl tkn va a kp g bg b e vs hw hH hda rL hT hI0 hI1
  subst hw
  subst hda
  obtain ⟨h0, h2, h3, h4, hu6, hv6, hw8, rB, rK, hDd, hNn, hPp⟩ := id hH
  have hn7 := rB.2.2
  have hbn := RB_lt rB
  have hb128 := RB_128 rB
  have hb31 := RB_31 rB
  have hkd : ∀ p, p < n → kd p < 6 := fun p hp => (rK p hp).2.2.1
  have hpl : ∀ p, p < n → pl p < 10 := fun p hp => (rK p hp).2.2.2
  have hpk := RH_pk rK
  have hu9 := RH_u9 h4 hw8
  have hnm := RH_nm rB
  have hddM := RH_dd hDd
  have hntM := RH_ntM hNn
  have hntC := RH_ntC hNn
  have hdn : ∀ k, k < u → dn k < 7 := fun k hk => (hDd k hk).2.2.1
  have hdp : ∀ k, k < u → dp k ≤ 60 := fun k hk => (hDd k hk).2.2.2
  have hTc : ∀ j, j < L → T j < 128 := fun j hj => (hT j hj).2
  refine ⟨_, _, sc_V hC (f_X11_day (kl K) E x h dr (a 1) (nI u) (nI v) (nI n) pl bn ps w (by first | assumption | omega)) wX11_day [0, 20, 22, 23, 27] (WW E x h dr g0 g1 q ik r (nI L) sr sa en vl T ab be ao at1 an fw ft mt bh ((a 1) + (nI 1)) (nI n) (nI u) (nI v) (nI (if w = 8 then 8 else w + 1)) kd pl bn dn dp nt (rmF bn pl (a 1) ps w) da2 pe2 de2 no2 pa2 kd2 pl2 bn2 dn2 dp2 nt2 ps2 da3 pe3 de3 no3 pa3 kd3 pl3 bn3 dn3 dp3 nt3 ps3 da4 pe4 de4 no4 pa4 kd4 pl4 bn4 dn4 dp4 nt4 ps4 ab be fe fc mo (nI L) ta tl tkn va a kp ik r g bg b e vs) 0 11 rfl rfl (by decide) rfl rfl rfl (by simp only [WW, wput, List.set]) rfl (rfl), ?_⟩
  rintro w1 rfl
  refine ⟨_, sc_V hC (f_X12_day (kl K) E q ab be fe fc mo (nI L) ta tl tkn va a r (by first | assumption | omega)) wX12_day [52, 53, 56] (WW E x h dr g0 g1 q ik r (nI L) sr sa en vl T ab be ao at1 an fw ft mt bh ((a 1) + (nI 1)) (nI n) (nI u) (nI v) (nI (if w = 8 then 8 else w + 1)) kd pl bn dn dp nt (rmF bn pl (a 1) ps w) da2 pe2 de2 no2 pa2 kd2 pl2 bn2 dn2 dp2 nt2 ps2 da3 pe3 de3 no3 pa3 kd3 pl3 bn3 dn3 dp3 nt3 ps3 da4 pe4 de4 no4 pa4 kd4 pl4 bn4 dn4 dp4 nt4 ps4 ab be fe fc mo (nI L) ta tl tkn va (upd (kpF a) 1 (a 1 + nI 1)) kp ik r g bg b e vs) 52 12 rfl rfl (by decide) rfl rfl rfl (by simp only [WW, wput, List.set]) rfl (rfl), ?_⟩
  rintro w2 rfl
  exact Rw_in (RH_day hH) (by rw [upd_s]) (rL) (hT) (hI0) (hI1)
