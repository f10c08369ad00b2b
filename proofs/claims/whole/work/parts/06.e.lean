/-! ===== contracts whose last world has something of no account (jj) ===== -/
abbrev Jk : Type := Nat → Nat → Int32
def FeQ (E : Ew) (ws : va_W) (ws' : Jk → va_W) (v : Option Value) (sz : Nat) : Array Value → State → Outcome → State → Prop := fun _ st oc t => (∃ jj : Jk, oc = .returned v ∧ va_P E.1 vwCl (ws' jj) t.heap) ∧ va_F (va_A ws sz) st t
def Fe (l : Launch) (E : Ew) (d : Nat) (y : MethodName) (cc : ByteArray) (nL : Nat) (ret : Option FieldType) (as : List Value) (ws : va_W) (v : Option Value) (ws' : Jk → va_W) : Prop :=
  (∀ jj, (ws' jj).map Prod.fst = ws.map Prod.fst) ∧ ∀ sz : Nat, Met l y (.code y cc nL ret :: lw_G) (rmd d) (FnP E as ws sz) (FeQ E ws ws' v sz) 0 0 (va_A ws sz)
section GX
variable {K : Kx} {E : Ew} {cc cc' : ByteArray} {nL nL' d d' pc index n : Nat} {own : String} {ws wc : va_W} {ws' wc' : Jk → va_W} {lv : List (Nat × Value)} {st as rest : List Value} {y : MethodName} {ret : Option FieldType} {v : Option Value} {is : List Nat}
theorem g_afterE (hC : Cx K E cc nL own d) {H : Heap} {locs : List Loc} {ls : Array Slot} {a : Array Value} {st0 : List Value} (hr : va_Run (kp K) (kl K) (ke K) (kR K) (ks K) (km K) (ka K) (kb K) (kt K) (kc K) H locs (kn K) (ko K) 0 0 (F0 (km K) pc ls st0) rest (FeQ E wc wc' v H.size a) (va_A wc H.size)) (hP : va_P E.1 vwCl ws H) (hD : va_D (kA K) ws) (hS : va_S (kA K) (ks K).heap H locs) (hl : lv_has ls nL lv) (hs : is.map (fun i => ws[i]?) = wc.map some) (hf : ∀ jj, (wc' jj).map Prod.fst = wc.map Prod.fst) (hw : ∀ jj, wput ws is (wc' jj) = ws' jj) (hf' : ∀ jj, (ws' jj).map Prod.fst = ws.map Prod.fst)
    (k : ∀ jj, G K E nL (ws' jj) lv (pc + 3) (v.toList ++ rest)) : W (kp K) (kl K) (ke K) (kR K) (ks K) (km K) (ka K) (kb K) (kt K) (kc K) H locs (kn K) (ko K) (kQ K) (F0 (km K) pc ls st0) := by
  intro T hT X
  obtain ⟨v', st₀, t, T', L, h0, X', hL, e1, e2, ⟨⟨jj, hv, hp⟩, hz, hk⟩, stp⟩ := hr T hT X
  cases hv
  rw [h0] at hz hk
  have hFc := va_free hD hS hC.2.2.2.2.2.2.1 is hs
  have hP1 : va_P E.1 vwCl (ws' jj) T'.heap := by rw [← hw, e1]; exact wput_P hP hD hs (hf jj) hp hk
  obtain ⟨t2, a1, b1⟩ := k jj T'.heap (locs ++ L) ls hP1 (va_D_fst hD (hf' jj))
    ⟨Nat.le_trans hS.1 (by rw [e1]; exact hz), fun q h1 h2 => by rw [e1, hk q (Nat.lt_of_lt_of_le h1 hS.1) (fun z => h2 (hFc q z))]; exact hS.2.1 q h1 h2, fun q hq => by
      rcases List.mem_append.mp hq with h | h
      · exact hS.2.2 q h
      · exact hFc _ (hL q h)⟩ hl T' rfl X'
  exact ⟨t2, stp t2 a1, b1⟩
theorem g_callVE (hC : Cx K E cc nL own d) {b : Nat} (hF : Fe (kl K) E d' y cc' nL' ret (.ref b :: as) wc v wc') (hw : wdV y cc' nL' ret n) (hm : Cond.methodLink own index y ∈ lw_G) (hd : decode cc pc = .ok (.invokevirtual index, 3)) (is : List Nat) (ws' : Jk → va_W) (q0 ci : Nat) {fs : List Value} {T : u_T} {N : Nat} (he : ws[q0]? = some (b, .inr (ci, fs))) (hc : vwCl[ci]? = some (y.cls, T, N)) (hdd : d' + 1 ≤ d) (hst : st = as.reverse ++ .ref b :: rest) (hrest : (rest.map fun v => v.category).sum ≤ 8) (hn : as.length = n) (hnd : va_nd is = true) (hs : is.map (fun i => ws[i]?) = wc.map some) (hp : ∀ jj, wput ws is (wc' jj) = ws' jj) (hf : ∀ jj, (ws' jj).map Prod.fst = ws.map Prod.fst) (k : ∀ jj, G K E nL (ws' jj) lv (pc + 3) (v.toList ++ rest)) : G K E nL ws lv pc st := by
  intro H locs ls hP hD hS hl
  obtain ⟨⟨w0, w1⟩, w2, w3, w4, w5⟩ := hw
  exact g_afterE hC (va_runV (As := as) (rest := rest) (g := F0 (km K) pc ls st) (b := b) ⟨hC.1, hC.2.1, hC.2.2.1, hC.2.2.2.1, hC.2.2.2.2.1⟩ (hF.2 H.size) ⟨callB_of n hC.2.2.2.2.1 (g_sub w3) rfl rfl rfl (hC.2.2.2.2.1 _ w2) (hC.2.2.2.2.1 _ hm) w5 (g_room hC hdd w4), hC.2.2.2.2.1 _ w0, hC.2.2.2.2.1 _ w1⟩ ⟨g_blind, va_recv hC.2.2.2.2.2.1 hP (ci := ci) (q0 := q0) hc he, g_pre (as := .ref b :: as) hC hP hD hS hnd hs⟩ rfl hn hl.1 hst (lv_room hrest) hd ⟨hC.2.2.2.2.2.2.2.2.2.2.1, hC.2.2.2.2.2.2.2.2.2.2.2⟩) hP hD hS hl hs hF.1 hp hf k
theorem g_callSE (hC : Cx K E cc nL own d) (hF : Fe (kl K) E d' y cc' nL' ret as wc v wc') (hw : wdS y cc' nL' ret n) (hm : Cond.methodLink own index y ∈ lw_G) (hd : decode cc pc = .ok (.invokestatic index, 3)) (is : List Nat) (ws' : Jk → va_W) (hdd : d' + 1 ≤ d) (hst : st = as.reverse ++ rest) (hrest : (rest.map fun v => v.category).sum ≤ 8) (hn : as.length = n) (hnd : va_nd is = true) (hs : is.map (fun i => ws[i]?) = wc.map some) (hp : ∀ jj, wput ws is (wc' jj) = ws' jj) (hf : ∀ jj, (ws' jj).map Prod.fst = ws.map Prod.fst) (k : ∀ jj, G K E nL (ws' jj) lv (pc + 3) (v.toList ++ rest)) : G K E nL ws lv pc st := by
  intro H locs ls hP hD hS hl
  obtain ⟨w1, w2, w3, w4, w5⟩ := hw
  exact g_afterE hC (va_runS (As := as) (rest := rest) (g := F0 (km K) pc ls st) ⟨hC.1, hC.2.1, hC.2.2.1, hC.2.2.2.1, hC.2.2.2.2.1⟩ (hF.2 H.size) ⟨callB_of n hC.2.2.2.2.1 (g_sub w3) rfl rfl rfl (hC.2.2.2.2.1 _ w2) (hC.2.2.2.2.1 _ hm) w5 (g_room hC hdd w4), hC.2.2.2.2.1 _ w1⟩ ⟨g_blind, g_pre hC hP hD hS hnd hs⟩ rfl hn hl.1 hst (lv_room hrest) hd ⟨hC.2.2.2.2.2.2.2.2.2.2.1, hC.2.2.2.2.2.2.2.2.2.2.2⟩) hP hD hS hl hs hF.1 hp hf k
end GX
section GE2
variable {l : Launch} {E : Ew} {d : Nat} {y : MethodName} {cc : ByteArray} {nL : Nat} {as : List Value} {ws : va_W} {ws' : Jk → va_W}
theorem fe_I {r : Int32} (hy : plainName y.cls = true) (hnl : (lg_sl as).length ≤ nL) (hf : ∀ jj, (ws' jj).map Prod.fst = ws.map Prod.fst) (body : ∀ K : Kx, Cx K E cc nL y.cls d → (∀ (jj : Jk) (lv : List (Nat × Value)) (pc : Nat), decode cc pc = .ok (.ireturn, 1) → G K E nL (ws' jj) lv pc [.int r]) → G K E nL ws (lv_args 0 as) 0 []) : Fe l E d y cc nL (some .int) as ws (some (.int r)) ws' := by
  refine ⟨hf, fun sz => Met.ofW (cc := cc) (maxL := nL) (ret := (some .int)) hy rfl ?_⟩
  intro p e s m args below meth c s₁ B hml hv
  obtain ⟨rfl, hsz, hP, hK, hD0, hE⟩ := hv
  subst hsz
  have hD := hD0.self (sz := s.heap.size)
  have hlocks := B.notSynchronized
  have hC : Cx (p, l, e, rmd d, s, m, as.toArray, below, meth, c, va_A ws s.heap.size, 0, 0, MQ below (FeQ E ws ws' (some (.int r)) s.heap.size) as.toArray s 0 0 (va_A ws s.heap.size)) E cc nL y.cls d := ⟨B.exec, B.bytes, hml, findClass_of_methodNamed B.named, fun w hw => atoms_spec (ws := .code y cc nL (some .int) :: lw_G) B.pre w (List.mem_cons_of_mem _ hw), hK, fun q h => Or.inr h, hE, Nat.le_refl _, Nat.le_refl _, Nat.le_refl _, Nat.le_refl _⟩
  have h := body _ hC (fun jj lv pc hd H locs ls hP hD hS hl => W.iret B.exec B.bytes B.returns (fun t ht hW => ⟨⟨jj, rfl, by rw [ht]; exact hP⟩, hS.F ht⟩) hS.2.2 hd hlocks)
  rw [lg_entry_eq]
  exact h s.heap [] _ hP hD va_S.rf (lv_entry as hnl)
theorem fe_Z {r : Int32} {ty : FieldType} (hy : plainName y.cls = true) (hnl : (lg_sl as).length ≤ nL) (hf : ∀ jj, (ws' jj).map Prod.fst = ws.map Prod.fst) (hn : narrow ty (.int r) = .int r) (body : ∀ K : Kx, Cx K E cc nL y.cls d → (∀ (jj : Jk) (lv : List (Nat × Value)) (pc : Nat), decode cc pc = .ok (.ireturn, 1) → G K E nL (ws' jj) lv pc [.int r]) → G K E nL ws (lv_args 0 as) 0 []) : Fe l E d y cc nL (some ty) as ws (some (.int r)) ws' := by
  refine ⟨hf, fun sz => Met.ofW (cc := cc) (maxL := nL) (ret := (some ty)) hy rfl ?_⟩
  intro p e s m args below meth c s₁ B hml hv
  obtain ⟨rfl, hsz, hP, hK, hD0, hE⟩ := hv
  subst hsz
  have hD := hD0.self (sz := s.heap.size)
  have hlocks := B.notSynchronized
  have hC : Cx (p, l, e, rmd d, s, m, as.toArray, below, meth, c, va_A ws s.heap.size, 0, 0, MQ below (FeQ E ws ws' (some (.int r)) s.heap.size) as.toArray s 0 0 (va_A ws s.heap.size)) E cc nL y.cls d := ⟨B.exec, B.bytes, hml, findClass_of_methodNamed B.named, fun w hw => atoms_spec (ws := .code y cc nL (some ty) :: lw_G) B.pre w (List.mem_cons_of_mem _ hw), hK, fun q h => Or.inr h, hE, Nat.le_refl _, Nat.le_refl _, Nat.le_refl _, Nat.le_refl _⟩
  have h := body _ hC (fun jj lv pc hd H locs ls hP hD hS hl => W.zret B.exec B.bytes B.returns hn (fun t ht hW => ⟨⟨jj, rfl, by rw [ht]; exact hP⟩, hS.F ht⟩) hS.2.2 hd hlocks)
  rw [lg_entry_eq]
  exact h s.heap [] _ hP hD va_S.rf (lv_entry as hnl)
theorem fe_V (hy : plainName y.cls = true) (hnl : (lg_sl as).length ≤ nL) (hf : ∀ jj, (ws' jj).map Prod.fst = ws.map Prod.fst) (body : ∀ K : Kx, Cx K E cc nL y.cls d → (∀ (jj : Jk) (lv : List (Nat × Value)) (pc : Nat), decode cc pc = .ok (.return_, 1) → G K E nL (ws' jj) lv pc []) → G K E nL ws (lv_args 0 as) 0 []) : Fe l E d y cc nL none as ws none ws' := by
  refine ⟨hf, fun sz => Met.ofW (cc := cc) (maxL := nL) (ret := none) hy rfl ?_⟩
  intro p e s m args below meth c s₁ B hml hv
  obtain ⟨rfl, hsz, hP, hK, hD0, hE⟩ := hv
  subst hsz
  have hD := hD0.self (sz := s.heap.size)
  have hlocks := B.notSynchronized
  have hC : Cx (p, l, e, rmd d, s, m, as.toArray, below, meth, c, va_A ws s.heap.size, 0, 0, MQ below (FeQ E ws ws' none s.heap.size) as.toArray s 0 0 (va_A ws s.heap.size)) E cc nL y.cls d := ⟨B.exec, B.bytes, hml, findClass_of_methodNamed B.named, fun w hw => atoms_spec (ws := .code y cc nL none :: lw_G) B.pre w (List.mem_cons_of_mem _ hw), hK, fun q h => Or.inr h, hE, Nat.le_refl _, Nat.le_refl _, Nat.le_refl _, Nat.le_refl _⟩
  have h := body _ hC (fun jj lv pc hd H locs ls hP hD hS hl => W.vret B.exec B.bytes B.returns (fun t ht hW => ⟨⟨jj, rfl, by rw [ht]; exact hP⟩, hS.F ht⟩) hS.2.2 hd hlocks)
  rw [lg_entry_eq]
  exact h s.heap [] _ hP hD va_S.rf (lv_entry as hnl)
end GE2
