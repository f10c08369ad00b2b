theorem of_eq {a : Nat → Int32} {kd pl bn : Nat → Nat} {n x wh : Nat} (h : RB (N5 a) bn n) (hk : RKP a kd pl n) (hx : x < n) (hw : wh < 3) : Value.int (a ((if wh = 0 then 19 else if wh = 1 then 12 else 5) + x)) = Value.int (if wh = 0 then nI (kd x) else if wh = 1 then nI (pl x) else nmF bn n x) := by
  obtain ⟨h1, h2, -, -⟩ := hk x hx
  rw [RB_nm h hx]
  rcases (show wh = 0 ∨ wh = 1 ∨ wh = 2 by omega) with rfl | rfl | rfl
  · exact congrArg _ h1
  · exact congrArg _ h2
  · rfl
theorem pB_ex {x : Int32} (h : pB x = true) : ∃ k, 1 ≤ k ∧ k ≤ 60 ∧ x = nI k := by
  have h1 : 1 ≤ x.toInt ∧ x.toInt ≤ 60 := by simpa [pB] using h
  have h2 : inB x 61 = true := by simp [inB]; omega
  obtain ⟨k, hk, rfl⟩ := inB_ex (by decide) h2
  rw [nI_toInt (by omega)] at h1
  exact ⟨k, by omega, by omega, rfl⟩
theorem Ri_keep {ik kp a : Nat → Int32} {i j : Nat} {da pe de no pa : Int32} {kd pl bn dn dp nt : Nat → Nat} {ps : Nat → Int32} (hij : i ≠ j) (h : Ri ik kp j da pe de no pa kd pl bn dn dp nt ps) : Ri (upd ik i (nI 1)) (imK kp a i 188) j da pe de no pa kd pl bn dn dp nt ps := by
  rcases h with h | ⟨h, n, u, v, w, e1, e2, e3, e4, e5, e6⟩
  · exact Or.inl (by rw [upd_n (fun q => hij q.symm)]; exact h)
  · exact Or.inr ⟨by rw [upd_n (fun q => hij q.symm)]; exact h, n, u, v, w, e1, e2, e3, e4, RH_keep hij e5, by rw [imR_old (by decide) hij]; exact e6⟩

set_option maxHeartbeats 2000000 in
set_option maxRecDepth 100000 in
theorem j_hamlet {K : Kx} {E : Ew} {cc : ByteArray} {nL : Nat} {own : String} {x h dr g0 g1 q : Nat → Nat} {ws : va_W} (hC : Cx K E cc nL own 8) (hR : Rw E x h dr g0 g1 q ws) (p1 : Int32) : Jt K E cc nL own (Rw E x h dr g0 g1 q) (x 0) (q 0) yX11_hamlet yX12_hamlet [.int p1] ws := by
  refine Rw_el hR ?_
  intro ik r L sr sa en vl T ab be ao at1 an fw ft mt bh da n u v w kd pl bn dn dp nt ps da2 pe2 de2 no2 pa2 kd2 pl2 bn2 dn2 dp2 nt2 ps2 da3 pe3 de3 no3 pa3 kd3 pl3 bn3 dn3 dp3 nt3 ps3 da4 pe4 de4 no4 pa4 kd4 pl4 bn4 dn4 dp4 nt4 ps4 fe fc mo ta tl tkn va a kp g bg b e vs hw hH hda hL hT hI0 hI1
  subst hw
  subst hda
  obtain ⟨h0, h2, h3, h4, hu6, hv6, hw8, hB, hK, hDd, hNn, hPp⟩ := id hH
  have hn7 := hB.2.2
  have hbn := RB_lt hB
  have hb128 := RB_128 hB
  have hb31 := RB_31 hB
  have hkd : ∀ p, p < n → kd p < 6 := fun p hp => (hK p hp).2.2.1
  have hpl : ∀ p, p < n → pl p < 10 := fun p hp => (hK p hp).2.2.2
  have hpk := RH_pk hK
  have hu9 := RH_u9 h4 hw8
  have hnm := RH_nm hB
  have hddM := RH_dd hDd
  have hntM := RH_ntM hNn
  have hntC := RH_ntC hNn
  have hdn : ∀ k, k < u → dn k < 7 := fun k hk => (hDd k hk).2.2.1
  have hdp : ∀ k, k < u → dp k ≤ 60 := fun k hk => (hDd k hk).2.2.2
  have hTc : ∀ j, j < L → T j < 128 := fun j hj => (hT j hj).2
  by_cases hb : (inB p1 100) = true
  · skip
    have hc1 := hb
    obtain ⟨k1, hk1, rfl⟩ := inB_ex (by omega) hc1
    refine ⟨_, _, sc_V hC (f_X11_hamlet_ok (kl K) E x h dr (a 1) (nI n) (nI u) (nI v) (nI w) bn k1 (by first | assumption | omega)) wX11_hamlet [0, 20, 23] (WW E x h dr g0 g1 q ik r (nI L) sr sa en vl T ab be ao at1 an fw ft mt bh (nI k1) (nI 0) (nI 0) (nI 0) (nI 0) kd pl (fun _ => 0) dn dp nt ps da2 pe2 de2 no2 pa2 kd2 pl2 bn2 dn2 dp2 nt2 ps2 da3 pe3 de3 no3 pa3 kd3 pl3 bn3 dn3 dp3 nt3 ps3 da4 pe4 de4 no4 pa4 kd4 pl4 bn4 dn4 dp4 nt4 ps4 ab be fe fc mo (nI L) ta tl tkn va a kp ik r g bg b e vs) 0 11 rfl rfl (by decide) rfl rfl rfl rfl rfl (rfl), ?_⟩
    rintro w1 rfl
    refine ⟨_, sc_V hC (f_X12_hamlet_ok (kl K) E q ab be fe fc mo (nI L) ta tl tkn va a r k1 (by first | assumption | omega)) wX12_hamlet [52, 53, 56] (WW E x h dr g0 g1 q ik r (nI L) sr sa en vl T ab be ao at1 an fw ft mt bh (nI k1) (nI 0) (nI 0) (nI 0) (nI 0) kd pl (fun _ => 0) dn dp nt ps da2 pe2 de2 no2 pa2 kd2 pl2 bn2 dn2 dp2 nt2 ps2 da3 pe3 de3 no3 pa3 kd3 pl3 bn3 dn3 dp3 nt3 ps3 da4 pe4 de4 no4 pa4 kd4 pl4 bn4 dn4 dp4 nt4 ps4 ab be fe fc mo (nI L) ta tl tkn va (beg a (nI k1)) kp ik r g bg b e vs) 52 12 rfl rfl (by decide) rfl rfl rfl rfl rfl (by rw [h0]), ?_⟩
    rintro w2 rfl
    exact Rw_in (RH_hamlet.1) ((RH_hamlet (a := a) (ps := ps) (kd := kd) (pl := pl) (dn := dn) (dp := dp) (nt := nt)).2) (hL) (hT) (hI0) (hI1)
  · skip
    have hb := (Bool.not_eq_true _).mp hb
    refine ⟨_, _, sc_V hC (f_X11_hamlet_bad (kl K) E x h dr r p1 (by first | assumption | omega)) wX11_hamlet [0, 3] (WW E x h dr g0 g1 q ik (upd r 0 (r 0 + nI 1)) (nI L) sr sa en vl T ab be ao at1 an fw ft mt bh (a 1) (nI n) (nI u) (nI v) (nI w) kd pl bn dn dp nt ps da2 pe2 de2 no2 pa2 kd2 pl2 bn2 dn2 dp2 nt2 ps2 da3 pe3 de3 no3 pa3 kd3 pl3 bn3 dn3 dp3 nt3 ps3 da4 pe4 de4 no4 pa4 kd4 pl4 bn4 dn4 dp4 nt4 ps4 ab be fe fc mo (nI L) ta tl tkn va a kp ik r g bg b e vs) 0 11 rfl rfl (by decide) rfl rfl rfl rfl rfl (rfl), ?_⟩
    rintro w1 rfl
    refine ⟨_, sc_V hC (f_X12_hamlet_bad (kl K) E q ab be fe fc mo (nI L) ta tl tkn va a r p1 (by first | assumption | omega)) wX12_hamlet [52, 53, 56] (WW E x h dr g0 g1 q ik (upd r 0 (r 0 + nI 1)) (nI L) sr sa en vl T ab be ao at1 an fw ft mt bh (a 1) (nI n) (nI u) (nI v) (nI w) kd pl bn dn dp nt ps da2 pe2 de2 no2 pa2 kd2 pl2 bn2 dn2 dp2 nt2 ps2 da3 pe3 de3 no3 pa3 kd3 pl3 bn3 dn3 dp3 nt3 ps3 da4 pe4 de4 no4 pa4 kd4 pl4 bn4 dn4 dp4 nt4 ps4 ab be fe fc mo (nI L) ta tl tkn va a kp ik (upd r 0 (r 0 + nI 1)) g bg b e vs) 52 12 rfl rfl (by decide) rfl rfl rfl rfl rfl (rfl), ?_⟩
    rintro w2 rfl
    exact Rw_in (hH) (rfl) (hL) (hT) (hI0) (hI1)
