/-! ===== a call in the law, over the whole world ===== -/
def Sc (K : Kx) (E : Ew) (cc : ByteArray) (nL : Nat) (own : String) (y : MethodName) (as : List Value) (b : Nat) (ws : va_W) (v : Value) (Z : va_W → Prop) : Prop :=
  ∀ (index pc : Nat) (lv : List (Nat × Value)) (rest : List Value), Cond.methodLink own index y ∈ lw_G → decode cc pc = .ok (.invokevirtual index, 3) → (rest.map fun v => v.category).sum ≤ 8 → (∀ ws', Z ws' → G K E nL ws' lv (pc + 3) (v :: rest)) → G K E nL ws lv pc (as.reverse ++ .ref b :: rest)
section SC
variable {K : Kx} {E : Ew} {cc cc' : ByteArray} {nL nL' d d' n : Nat} {own : String} {ws wc : va_W} {as : List Value} {y : MethodName} {ret : Option FieldType} {v v' : Value}
theorem sc_V (hC : Cx K E cc nL own d) {b : Nat} {wc' : va_W} (hF : Fn (kl K) E d' y cc' nL' ret (.ref b :: as) wc (some v) wc') (hw : wdV y cc' nL' ret n) (is : List Nat) (ws' : va_W) (q0 ci : Nat) {fs : List Value} {T : u_T} {N : Nat} (he : ws[q0]? = some (b, .inr (ci, fs))) (hc : vwCl[ci]? = some (y.cls, T, N)) (hdd : d' + 1 ≤ d) (hn : as.length = n) (hnd : va_nd is = true) (hs : is.map (fun i => ws[i]?) = wc.map some) (hp : wput ws is wc' = ws') (hf : ws'.map Prod.fst = ws.map Prod.fst) (hv : v = v') : Sc K E cc nL own y as b ws v' (fun w => w = ws') := by
  subst hv
  intro index pc lv rest hm hd hrest k
  exact g_callV hC hF hw hm hd is ws' q0 ci he hc hdd rfl hrest hn hnd hs hp hf (k ws' rfl)
theorem sc_VE (hC : Cx K E cc nL own d) {b : Nat} {wc' : Jk → va_W} (hF : Fe (kl K) E d' y cc' nL' ret (.ref b :: as) wc (some v) wc') (hw : wdV y cc' nL' ret n) (is : List Nat) (ws' : Jk → va_W) (q0 ci : Nat) {fs : List Value} {T : u_T} {N : Nat} (he : ws[q0]? = some (b, .inr (ci, fs))) (hc : vwCl[ci]? = some (y.cls, T, N)) (hdd : d' + 1 ≤ d) (hn : as.length = n) (hnd : va_nd is = true) (hs : is.map (fun i => ws[i]?) = wc.map some) (hp : ∀ jj, wput ws is (wc' jj) = ws' jj) (hf : ∀ jj, (ws' jj).map Prod.fst = ws.map Prod.fst) (hv : v = v') : Sc K E cc nL own y as b ws v' (fun w => ∃ jj, w = ws' jj) := by
  subst hv
  intro index pc lv rest hm hd hrest k
  exact g_callVE hC hF hw hm hd is ws' q0 ci he hc hdd rfl hrest hn hnd hs hp hf (fun jj => k (ws' jj) ⟨jj, rfl⟩)
end SC
/-- both calls, with the same answer, and the relation behind them -/
def Jt (K : Kx) (E : Ew) (cc : ByteArray) (nL : Nat) (own : String) (Rl : va_W → Prop) (bx bq : Nat) (y1 y2 : MethodName) (as : List Value) (ws : va_W) : Prop :=
  ∃ (r : Int32) (Z : va_W → Prop), Sc K E cc nL own y1 as bx ws (.int r) Z ∧ ∀ w1, Z w1 → ∃ Z2 : va_W → Prop, Sc K E cc nL own y2 as bq w1 (.int r) Z2 ∧ ∀ w2, Z2 w2 → Rl w2
def JtL (K : Kx) (E : Ew) (cc : ByteArray) (nL : Nat) (own : String) (Rl : va_W → Prop) (bx bq : Nat) (y1 y2 : MethodName) (as : List Value) (ws : va_W) : Prop :=
  ∃ (r : Int64) (Z : va_W → Prop), Sc K E cc nL own y1 as bx ws (.long r) Z ∧ ∀ w1, Z w1 → ∃ Z2 : va_W → Prop, Sc K E cc nL own y2 as bq w1 (.long r) Z2 ∧ ∀ w2, Z2 w2 → Rl w2

/-- the cells of class (52) and reference (10) -/
def WW (E : Ew) (x h dr g0 g1 q : Nat → Nat) (ik r : Nat → Int32) (ln sr sa en vl : Int32) (T : Nat → Nat) (ab be : Int64) (ao at1 an : Nat → Nat) (fw ft mt : Int32) (bh : Nat → Int32) (da pe de no pa : Int32) (kd pl bn dn dp nt : Nat → Nat) (ps : Nat → Int32) (da2 pe2 de2 no2 pa2 : Int32) (kd2 pl2 bn2 dn2 dp2 nt2 ps2 : Nat → Int32) (da3 pe3 de3 no3 pa3 : Int32) (kd3 pl3 bn3 dn3 dp3 nt3 : Nat → Nat) (ps3 : Nat → Int32) (da4 pe4 de4 no4 pa4 : Int32) (kd4 pl4 bn4 dn4 dp4 nt4 : Nat → Nat) (ps4 : Nat → Int32) (mab mbe : Int64) (fe fc mo bl ta tl tkn va : Int32) (a kp mik mr g bg b e vs : Nat → Int32) : va_W :=
  [(x 0, .inr (11, oL x h dr)), (x 1, .inl (E.2.1 3, 2, .inr (.inr (.inr (.inr (fun j => some ((if j = 0 then g0 else g1) 0))))))), (x 2, .inl (E.2.1 2, 2, .inl ik)), (x 3, .inl (E.2.1 0, 3, .inl r)), (x 4, .inr (10, oT x ln sr sa en vl)), (x 5, .inl (E.2.1 1, 150, .inl (nf T))), (x 6, .inr (4, oF x ab be)), (x 7, .inr (6, oG x)), (x 8, .inl (E.2.1 4, 6, .inr (.inr (.inr (.inr (fun j => some (x (14 + j)))))))), (x 9, .inl (E.2.1 0, 10, .inl (nf ao))), (x 10, .inl (E.2.1 0, 10, .inl (nf at1))), (x 11, .inl (E.2.1 0, 10, .inl (nf an))), (x 12, .inr (8, oS x fw ft mt)), (x 13, .inl (E.2.1 0, 7, .inl bh)), (x 14, .inr (7, [])), (x 15, .inr (0, [])), (x 16, .inr (3, [])), (x 17, .inr (1, [])), (x 18, .inr (9, [])), (x 19, .inr (2, [])), (h 0, .inr (5, oH h da pe de no pa)), (h 1, .inl (E.2.1 0, 7, .inl (nf kd))), (h 2, .inl (E.2.1 0, 7, .inl (nf pl))), (h 3, .inl (E.2.1 0, 7, .inl (nf bn))), (h 4, .inl (E.2.1 0, 6, .inl (nf dn))), (h 5, .inl (E.2.1 0, 6, .inl (nf dp))), (h 6, .inl (E.2.1 0, 30, .inl (nf nt))), (h 7, .inl (E.2.1 0, 120, .inl ps)), (dr 0, .inr (5, oH dr da2 pe2 de2 no2 pa2)), (dr 1, .inl (E.2.1 0, 7, .inl kd2)), (dr 2, .inl (E.2.1 0, 7, .inl pl2)), (dr 3, .inl (E.2.1 0, 7, .inl bn2)), (dr 4, .inl (E.2.1 0, 6, .inl dn2)), (dr 5, .inl (E.2.1 0, 6, .inl dp2)), (dr 6, .inl (E.2.1 0, 30, .inl nt2)), (dr 7, .inl (E.2.1 0, 120, .inl ps2)), (g0 0, .inr (5, oH g0 da3 pe3 de3 no3 pa3)), (g0 1, .inl (E.2.1 0, 7, .inl (nf kd3))), (g0 2, .inl (E.2.1 0, 7, .inl (nf pl3))), (g0 3, .inl (E.2.1 0, 7, .inl (nf bn3))), (g0 4, .inl (E.2.1 0, 6, .inl (nf dn3))), (g0 5, .inl (E.2.1 0, 6, .inl (nf dp3))), (g0 6, .inl (E.2.1 0, 30, .inl (nf nt3))), (g0 7, .inl (E.2.1 0, 120, .inl ps3)), (g1 0, .inr (5, oH g1 da4 pe4 de4 no4 pa4)), (g1 1, .inl (E.2.1 0, 7, .inl (nf kd4))), (g1 2, .inl (E.2.1 0, 7, .inl (nf pl4))), (g1 3, .inl (E.2.1 0, 7, .inl (nf bn4))), (g1 4, .inl (E.2.1 0, 6, .inl (nf dn4))), (g1 5, .inl (E.2.1 0, 6, .inl (nf dp4))), (g1 6, .inl (E.2.1 0, 30, .inl (nf nt4))), (g1 7, .inl (E.2.1 0, 120, .inl ps4)), (q 0, .inr (12, oM q mab mbe fe fc mo bl ta tl tkn va)), (q 1, .inl (E.2.1 0, 188, .inl a)), (q 2, .inl (E.2.1 0, 376, .inl kp)), (q 3, .inl (E.2.1 2, 2, .inl mik)), (q 4, .inl (E.2.1 0, 3, .inl mr)), (q 5, .inl (E.2.1 0, 7, .inl g)), (q 6, .inl (E.2.1 0, 4, .inl bg)), (q 7, .inl (E.2.1 0, 150, .inl b)), (q 8, .inl (E.2.1 0, 68, .inl e)), (q 9, .inl (E.2.1 0, 2, .inl vs))]
def Ri (ik kp : Nat → Int32) (i : Nat) (da pe de no pa : Int32) (kd pl bn dn dp nt : Nat → Nat) (ps : Nat → Int32) : Prop := ik i = nI 0 ∨ (ik i = nI 1 ∧ ∃ n u v w : Nat, pe = nI n ∧ de = nI u ∧ no = nI v ∧ pa = nI w ∧ RH (imR kp i) n u v w kd pl bn dn dp nt ps ∧ imR kp i 1 = da)
/-- class and reference stand alike -/
def Rw (E : Ew) (x h dr g0 g1 q : Nat → Nat) (ws : va_W) : Prop :=
  ∃ (ik r : Nat → Int32) (L : Nat) (sr sa en vl : Int32) (T : Nat → Nat) (ab be : Int64) (ao at1 an : Nat → Nat) (fw ft mt : Int32) (bh : Nat → Int32) (da : Int32) (n u v w : Nat) (kd pl bn dn dp nt : Nat → Nat) (ps : Nat → Int32) (da2 pe2 de2 no2 pa2 : Int32) (kd2 pl2 bn2 dn2 dp2 nt2 ps2 : Nat → Int32) (da3 pe3 de3 no3 pa3 : Int32) (kd3 pl3 bn3 dn3 dp3 nt3 : Nat → Nat) (ps3 : Nat → Int32) (da4 pe4 de4 no4 pa4 : Int32) (kd4 pl4 bn4 dn4 dp4 nt4 : Nat → Nat) (ps4 : Nat → Int32) (fe fc mo ta tl tkn va : Int32) (a kp g bg b e vs : Nat → Int32), ws = WW E x h dr g0 g1 q ik r (nI L) sr sa en vl T ab be ao at1 an fw ft mt bh da (nI n) (nI u) (nI v) (nI w) kd pl bn dn dp nt ps da2 pe2 de2 no2 pa2 kd2 pl2 bn2 dn2 dp2 nt2 ps2 da3 pe3 de3 no3 pa3 kd3 pl3 bn3 dn3 dp3 nt3 ps3 da4 pe4 de4 no4 pa4 kd4 pl4 bn4 dn4 dp4 nt4 ps4 ab be fe fc mo (nI L) ta tl tkn va a kp ik r g bg b e vs ∧ RH a n u v w kd pl bn dn dp nt ps ∧ a 1 = da ∧ L ≤ 150 ∧ (∀ j, j < L → b j = nI (T j) ∧ T j < 128) ∧ Ri ik kp 0 da3 pe3 de3 no3 pa3 kd3 pl3 bn3 dn3 dp3 nt3 ps3 ∧ Ri ik kp 1 da4 pe4 de4 no4 pa4 kd4 pl4 bn4 dn4 dp4 nt4 ps4
theorem nf_ex (f : Nat → Int32) : ∃ g : Nat → Nat, f = nf g := ⟨fun j => (f j).toBitVec.toNat, funext fun j => by
  show f j = Int32.ofNat (f j).toBitVec.toNat
  apply Int32.toBitVec_inj.mp
  show (f j).toBitVec = BitVec.ofNat 32 (f j).toBitVec.toNat
  rw [BitVec.ofNat_toNat]; simp⟩
theorem inB_ex {x : Int32} {n : Nat} (hn : n ≤ 2147483648) (h : inB x n = true) : ∃ k, k < n ∧ x = nI k := ⟨tn x, (inB_of hn h).2, (inB_of hn h).1⟩
theorem RH_pk {a : Nat → Int32} {kd pl : Nat → Nat} {n : Nat} (h : RKP a kd pl n) : ∀ p, p < n → isN (a (12 + p)) 10 ∧ isN (a (19 + p)) 6 := fun p hp => by
  obtain ⟨h1, h2, h3, h4⟩ := h p hp
  rw [h1, h2]; exact ⟨isN_nI h4 (by decide), isN_nI h3 (by decide)⟩
theorem RH_u9 {a : Nat → Int32} {w : Nat} (h : a 4 = nI w) (hw : w ≤ 8) : isN (a 4) 9 := by rw [h]; exact isN_nI (by omega) (by decide)
theorem RH_nm {a : Nat → Int32} {bn : Nat → Nat} {n : Nat} (h : RB (N5 a) bn n) : ∀ p, p < n → a (5 + p) = -1 ∨ isN (a (5 + p)) n := fun p hp => by
  have hn := h.2.2
  rcases h.2.1 p hp with e | ⟨m, hm, e⟩
  · exact Or.inl e
  · exact Or.inr (by rw [show a (5 + p) = nI m from e]; exact isN_nI hm (by omega))
theorem RH_dd {a : Nat → Int32} {dn dp : Nat → Nat} {u : Nat} (h : RD a dn dp u) : ∀ k, k < u → isN (a (26 + 2 * k + 1)) 61 := fun k hk => by
  obtain ⟨h1, h2, h3, h4⟩ := h k hk
  rw [h2]; exact isN_nI (by omega) (by decide)
theorem RH_ntM {a : Nat → Int32} {nt : Nat → Nat} {v : Nat} (h : RN a nt v) : ∀ k, k < v → isN (a (38 + 5 * k + 1)) 10 := fun k hk => by
  obtain ⟨h1, h2, h3, h4, h5, h6, h7, -⟩ := h k hk
  rw [h2]; exact isN_nI h7 (by decide)
theorem RH_ntC {a : Nat → Int32} {nt : Nat → Nat} {v : Nat} (h : RN a nt v) : ∀ k, k < v → nt (k * 5) < 7 ∧ nt (k * 5 + 1) < 10 ∧ nt (k * 5 + 2) < 100 ∧ nt (k * 5 + 3) < 2 ∧ nt (k * 5 + 4) < 2 := fun k hk => by
  obtain ⟨h1, h2, h3, h4, h5, h6⟩ := h k hk
  exact h6
theorem calF_1 {a : Nat → Int32} {x : Int32} {pp n : Nat} : calF a x pp n 1 = a 1 := by unfold calF nmd; rw [if_neg (by omega), kpF_lo (by decide) (by decide)]
theorem layF_1 {a : Nat → Int32} {k p n : Nat} : upd (layF a k p n) 4 (nI 0) 1 = a 1 := by rw [upd_n (by decide)]; unfold layF; rw [upd_n (by decide), upd_n (by omega), upd_n (by omega), upd_n (by omega)]
theorem ddF_1 {a : Nat → Int32} {x c u : Nat} : ddF a x c u 1 = a 1 := by unfold ddF; rw [upd_n (by omega), upd_n (by omega), upd_n (by omega)]
theorem ntF_1 {a : Nat → Int32} {p x d b t v : Nat} : ntF a p x d b t v 1 = a 1 := by unfold ntF; rw [upd_n (by omega), upd_n (by omega), upd_n (by omega), upd_n (by omega), upd_n (by omega), upd_n (by omega)]
theorem undF_1 {a : Nat → Int32} {u : Nat} : undF a u 1 = a (68 + 15 * u + 14) := by unfold undF; rw [upd_s]
