/-! ===== the class: calls by kind, calls of a superclass; what its cells hold ===== -/
section GU
variable {K : Kx} {E : Ew} {cc cc' : ByteArray} {nL nL' d d' pc index n : Nat} {own : String} {ws ws' wc wc' : va_W} {lv : List (Nat × Value)} {st as rest : List Value} {x y : MethodName} {ret : Option FieldType} {v : Option Value}
theorem g_callU (hC : Cx K E cc nL own d) {b : Nat} {C : String} {b0 : ByteArray} {m0 : Nat} {r0 : Option FieldType} (hF : Fn (kl K) E d' y cc' nL' ret (.ref b :: as) wc v wc') (hm : Cond.methodLink own index x ∈ lw_G) (h1 : Cond.sameMethod x.cls x.cls x.name x.desc ∈ lw_G) (h2 : Cond.instanceMethod x ∈ lw_G) (h3 : Cond.selects C x y ∈ lw_G) (h4 : Cond.instanceMethod y ∈ lw_G) (h5 : Cond.initialized y.cls ∈ lw_G) (h6 : Cond.code y cc' nL' ret ∈ lw_G) (h7 : Cond.code x b0 m0 r0 ∈ lw_G) (h8 : nL' ≤ 21) (h9 : wdD x n) (hd : decode cc pc = .ok (.invokevirtual index, 3)) (is : List Nat) (ws' : va_W) (q0 ci : Nat) {fs : List Value} {T : u_T} {N : Nat} (he : ws[q0]? = some (b, .inr (ci, fs))) (hc : vwCl[ci]? = some (C, T, N)) (hdd : d' + 1 ≤ d) (hst : st = as.reverse ++ .ref b :: rest) (hrest : (rest.map fun v => v.category).sum ≤ 8) (hn : as.length = n) (hnd : va_nd is = true) (hs : is.map (fun i => ws[i]?) = wc.map some) (hp : wput ws is wc' = ws') (hf : ws'.map Prod.fst = ws.map Prod.fst) (k : G K E nL ws' lv (pc + 3) (v.toList ++ rest)) : G K E nL ws lv pc st := by
  intro H locs ls hP hD hS hl
  have hT : GoodIn lw_G (va_wsO own index C x.cls x y (Cond.code y cc' nL' ret :: lw_G)) := lw_gin (fun w hw => by
    unfold va_wsO at hw
    simp only [List.cons_append, List.nil_append, List.mem_cons] at hw
    rcases hw with h | h | h | h | h | h | h | h
    · rw [h]; exact hm
    · rw [h]; exact h1
    · rw [h]; exact h2
    · rw [h]; exact h3
    · rw [h]; exact h4
    · rw [h]; exact h5
    · rw [h]; exact h6
    · exact h)
  exact g_after hC (va_runU (As := as) (rest := rest) (g := F0 (km K) pc ls st) (b := b) ⟨hC.1, hC.2.1, hC.2.2.1, hC.2.2.2.1, hC.2.2.2.2.1⟩ (hF.2 H.size) (va_cwO n hC.2.2.2.2.1 hT rfl rfl rfl h7 h9 (g_room hC hdd h8)) ⟨g_blind, va_recv hC.2.2.2.2.2.1 hP (ci := ci) (q0 := q0) hc he, g_pre (as := .ref b :: as) hC hP hD hS hnd hs⟩ rfl hn hl.1 hst (lv_room hrest) hd ⟨hC.2.2.2.2.2.2.2.2.2.2.1, hC.2.2.2.2.2.2.2.2.2.2.2⟩) hP hD hS hl hs hF.1 hp hf k
theorem g_callSU (hC : Cx K E cc nL own d) {b : Nat} {C : String} (hF : Fn (kl K) E d' y cc' nL' ret (.ref b :: as) wc v wc') (hm : Cond.methodLink own index y ∈ lw_G) (h1 : Cond.sameMethod y.cls y.cls y.name y.desc ∈ lw_G) (h2 : Cond.superclass own y.cls ∈ lw_G) (h4 : Cond.instanceMethod y ∈ lw_G) (h5 : Cond.initialized y.cls ∈ lw_G) (h6 : Cond.code y cc' nL' ret ∈ lw_G) (h8 : nL' ≤ 21) (h9 : y.name ≠ "<init>" ∧ (parseMethodDescriptor y.desc).map (fun d => d.parameters.length) = some n) (hd : decode cc pc = .ok (.invokespecial index, 3)) (is : List Nat) (ws' : va_W) (q0 ci : Nat) {fs : List Value} {T : u_T} {N : Nat} (he : ws[q0]? = some (b, .inr (ci, fs))) (hc : vwCl[ci]? = some (C, T, N)) (hdd : d' + 1 ≤ d) (hst : st = as.reverse ++ .ref b :: rest) (hrest : (rest.map fun v => v.category).sum ≤ 8) (hn : as.length = n) (hnd : va_nd is = true) (hs : is.map (fun i => ws[i]?) = wc.map some) (hp : wput ws is wc' = ws') (hf : ws'.map Prod.fst = ws.map Prod.fst) (k : G K E nL ws' lv (pc + 3) (v.toList ++ rest)) : G K E nL ws lv pc st := by
  intro H locs ls hP hD hS hl
  have hT : GoodIn lw_G (va_wsSU own index y (Cond.code y cc' nL' ret :: lw_G)) := lw_gin (fun w hw => by
    unfold va_wsSU at hw
    simp only [List.cons_append, List.nil_append, List.mem_cons] at hw
    rcases hw with h | h | h | h | h | h | h
    · rw [h]; exact hm
    · rw [h]; exact h1
    · rw [h]; exact h2
    · rw [h]; exact h4
    · rw [h]; exact h5
    · rw [h]; exact h6
    · exact h)
  have hat : ClassAt (ks K) C (E.1.1 ci) := (hC.2.2.2.2.2.1.1 ci _ hc).2
  exact g_after hC (va_runSU (As := as) (rest := rest) (g := F0 (km K) pc ls st) (b := b) hat ⟨hC.1, hC.2.1, hC.2.2.1, hC.2.2.2.1, hC.2.2.2.2.1⟩ (hF.2 H.size) (va_cwSU n hC.2.2.2.2.1 hT rfl rfl rfl h9 (g_room hC hdd h8)) ⟨g_blind, va_recv hC.2.2.2.2.2.1 hP (ci := ci) (q0 := q0) hc he, g_pre (as := .ref b :: as) hC hP hD hS hnd hs⟩ rfl hn hl.1 hst (lv_room hrest) hd ⟨hC.2.2.2.2.2.2.2.2.2.2.1, hC.2.2.2.2.2.2.2.2.2.2.2⟩) hP hD hS hl hs hF.1 hp hf k
end GU
/-- x 0 the object, x 1 images, x 2 kept, x 3 refused, x 4 text, x 5 its bytes, x 6 fraction, x 7 hearing, x 8 kinds, x 9 atOwn, x 10 atOthers, x 11 atNobodys, x 12 search, x 13 behind, x 14 .. 19 the kinds; h, dr: the hamlets now and draft -/
abbrev oL (x h dr : Nat → Nat) : List Value := [.ref (h 0), .ref (dr 0), .ref (x 1), .ref (x 2), .ref (x 4), .ref (x 6), .ref (x 7), .ref (x 12), .ref (x 3)]
/-- h 0 the object, h 1 kinds, h 2 places, h 3 bearing, h 4 deedNames, h 5 deedPence, h 6 noted, h 7 past -/
abbrev oH (h : Nat → Nat) (da pe de no pa : Int32) : List Value := [.int da, .int pe, .ref (h 1), .ref (h 2), .ref (h 3), .int de, .ref (h 4), .ref (h 5), .int no, .ref (h 6), .int pa, .ref (h 7)]
abbrev oG (x : Nat → Nat) : List Value := [.ref (x 8), .ref (x 9), .ref (x 10), .ref (x 11)]
abbrev oS (x : Nat → Nat) (fw ft mt : Int32) : List Value := [.ref (x 13), .int fw, .int ft, .int mt]
abbrev oT (x : Nat → Nat) (ln sr sa en vl : Int32) : List Value := [.ref (x 5), .int ln, .int sr, .int sa, .int en, .int vl]
abbrev oF (x : Nat → Nat) (ab be : Int64) : List Value := [.long ab, .long be]
/-- an array of numbers -/
def nf (b : Nat → Nat) : Nat → Int32 := fun j => nI (b j)
def un (f : Nat → Nat) (k v : Nat) : Nat → Nat := fun j => if j = k then v else f j
theorem nf_u (f : Nat → Nat) (k v : Nat) : nf (un f k v) = upd (nf f) k (nI v) := by
  funext j
  by_cases h : j = k
  · subst h; simp [nf, un, upd]
  · simp [nf, un, upd, h]
theorem un_s (f : Nat → Nat) (k v : Nat) : un f k v k = v := by simp [un]
theorem un_n {f : Nat → Nat} {k j v : Nat} (h : j ≠ k) : un f k v j = f j := by simp [un, h]
def cpN (f g : Nat → Nat) (sp dp n : Nat) : Nat → Nat := fun k => if dp ≤ k ∧ k < dp + n then f (sp + (k - dp)) else g k
theorem nf_c (f g : Nat → Nat) (sp dp n : Nat) : nf (cpN f g sp dp n) = va_cpy (nf f) (nf g) sp dp n := by
  funext j
  simp only [nf, cpN, va_cpy]
  split <;> rfl
