/-! THE CLAIM OUT OF ONE WALK OF THE LAW'S BODY. Your part is whole_start (and what it stands on); all else here is the same for every law, but numbers. -/
def R_law : String := "LastCalledLaw"
def lw_P (b : Addr) (xs : List Int32) (args : Array Value) (s : State) : Prop := args = #[.ref b] ∧ s.IntsAt b xs ∧ xs.length ≤ 384 ∧ (Jvm.Cond.and given_1 narrow_1).before args s = true
def lw_Q (_ : Array Value) (s : State) (o : Outcome) (t : State) : Prop := o = .returned (some (.int 1)) ∧ Framed s o t [] 62 1824
def lw_Z (below : List Frame) (a : Array Value) (s : State) : State → Prop := fun t => ∃ o, t.status = .running ∧ Ended t below o ∧ lw_Q a s o t
/-- the law's own end, with 1 on the stack, nothing written that was there before, its room as the claim has it -/
theorem lw_ret {p : Program} {l : Launch} {e : Env} {s : State} {m : MethodId} {below : List Frame} {meth : Method} {c : Code} {b : Nat} (hx : p.tables.exec = Jvm.exec) (hb : c.code = code) (hr : meth.sig.returnType = ret) (hlocks : meth.locks = false) {pc : Nat} {H : Heap} {ls : Array Slot} (hdg : decode code pc = .ok (.ireturn, 1)) : W p l e room_1 s m #[Value.ref b] below meth c H [] 62 1824 (lw_Z below #[Value.ref b] s) (F0 m pc ls [.int 1]) := by
  intro T hT X
  obtain ⟨fs, hret, hrun, hended, hW, hframe⟩ := X.leave (v := some (.int 1)) (hlocks := hlocks) (fun h => by rw [hr] at h; cases h)
  have hmeth' : T.vm.method? m = some meth := X.method'
  refine ⟨T.setFrames fs, ?_, .returned (some (.int 1)), hrun, hended, rfl, ⟨_, rfl⟩, hW, hframe⟩
  jvm_step X.here [X.here.top, hx, hb, hdg, hmeth', hr, ret, narrow_b1]
  (try refine ⟨rfl, ?_⟩); (try refine ⟨rfl, ?_⟩)
  first | (intro acts; rw [hret _ acts rfl rfl rfl]) | rw [hret _ _ rfl rfl rfl]
  exact Steps.refl _
/-- what holds at the law's entry: the machine, the code, the tables' words (any of lw_tbl by 'hts w (by decide +kernel)'), the script of L ints xs at the cell b, what the Statement gives of the start (any of its parts by flat_of_before) -/
def lw_At (p : Program) (s : State) (m : MethodId) (meth : Method) (c : Code) (b L : Nat) (xs : Nat → Int32) : Prop :=
  p.tables.exec = Jvm.exec ∧ c.code = code ∧ meth.sig.returnType = ret ∧ c.maxLocals = 4 ∧ s.vm.findClass R_law = some m.cls ∧ (∀ w ∈ lw_tbl, w.before #[Value.ref b] s = true) ∧ va_X b L xs s s.heap ∧ b < s.heap.size ∧ meth.locks = false ∧ (Jvm.Cond.and given_1 narrow_1).before #[Value.ref b] s = true
/-! ===== the start: classes, arrays, literals ===== -/
theorem st_arr {s : State} {args : Array Value} {ty : FieldType} (h : (Cond.arrayClass ty).before args s = true) (hra : ∀ cA, s.vm.findClass ("[" ++ ty.toString) = some cA → va_RA s cA ty) : ∃ cA, ArrOfT s cA ty ∧ va_RA s cA ty := by
  obtain ⟨c, k, comp, h1, h2, h3⟩ := Cond.arrayClass_spec h
  exact ⟨c, fun n z => ⟨fun k h => (by cases h), k, h2, comp, h3⟩, hra c h1⟩
theorem st_arq {s : State} {args : Array Value} {C : String} (h : (Cond.arrayOver (.object C)).before args s = true) : ∃ cA, ArrOfT s cA (.object C) ∧ va_RA s cA (.object C) := by
  obtain ⟨comp, c, k, h1, h2, h3, h4, h5⟩ := Cond.arrayOver_spec h
  exact ⟨c, fun n z => ⟨fun k h => (by cases h), k, h3, comp, h4⟩, k, comp, h3, h4, h1, h5⟩
set_option maxRecDepth 100000 in
theorem st_K {s : State} {args : Array Value} (hG : ∀ w ∈ lw_G, w.before args s = true) (hH : (Cond.arrayOver (.object "LastCalled$Hamlet")).before args s = true) (hP : (Cond.arrayOver (.object "LastCalled$Plain")).before args s = true) : ∃ (D : va_G) (f : Nat → ClassId), ∀ g1 g2, va_K D vwCl (kT (D, f, g1, g2)) s := by
  obtain ⟨c0, iS0, hKn0⟩ := u_known (C := RX0) (T := TX0) (N := 0) (n := 0) hG inX0 (hG _ m1_152)
  obtain ⟨c1, iS1, hKn1⟩ := u_known (C := RX1) (T := TX1) (N := 0) (n := 0) hG inX1 (hG _ m1_166)
  obtain ⟨c2, iS2, hKn2⟩ := u_known (C := RX2) (T := TX2) (N := 0) (n := 0) hG inX2 (hG _ m1_180)
  obtain ⟨c3, iS3, hKn3⟩ := u_known (C := RX3) (T := TX3) (N := 0) (n := 0) hG inX3 (hG _ m1_159)
  obtain ⟨c4, iS4, hKn4⟩ := u_known (C := RX4) (T := TX4) (N := 2) (n := 2) hG inX4 (hG _ m1_123)
  obtain ⟨c5, iS5, hKn5⟩ := u_known (C := RX5) (T := TX5) (N := 12) (n := 12) hG inX5 (hG _ m1_31)
  obtain ⟨c6, iS6, hKn6⟩ := u_known (C := RX6) (T := TX6) (N := 4) (n := 4) hG inX6 (hG _ m1_138)
  obtain ⟨c7, iS7, hKn7⟩ := u_known (C := RX7) (T := TX7) (N := 0) (n := 0) hG inX7 (hG _ m1_145)
  obtain ⟨c8, iS8, hKn8⟩ := u_known (C := RX8) (T := TX8) (N := 4) (n := 4) hG inX8 (hG _ m1_200)
  obtain ⟨c9, iS9, hKn9⟩ := u_known (C := RX9) (T := TX9) (N := 0) (n := 0) hG inX9 (hG _ m1_173)
  obtain ⟨c10, iS10, hKn10⟩ := u_known (C := RX10) (T := TX10) (N := 6) (n := 6) hG inX10 (hG _ m1_94)
  obtain ⟨c11, iS11, hKn11⟩ := u_known (C := RX11) (T := TX11) (N := 9) (n := 9) hG inX11 (hG _ m1_23)
  obtain ⟨c12, iS12, hKn12⟩ := u_known (C := RX12) (T := TX12) (N := 19) (n := 19) hG inX12 (hG _ m3_200)
  obtain ⟨a0, ha0⟩ := st_arr (ty := .int) (hG _ m1_91) (fun _ h => h)
  obtain ⟨a1, ha1⟩ := st_arr (ty := .byte) (hG _ m1_121) (fun _ h => h)
  obtain ⟨a2, ha2⟩ := st_arr (ty := .boolean) (hG _ m1_120) (fun _ h => h)
  obtain ⟨a3, ha3⟩ := st_arq hH
  obtain ⟨a4, ha4⟩ := st_arq hP
  refine ⟨(fun k => ([c0, c1, c2, c3, c4, c5, c6, c7, c8, c9, c10, c11, c12] : List ClassId).getD k c0, fun k => ([iS0, iS1, iS2, iS3, iS4, iS5, iS6, iS7, iS8, iS9, iS10, iS11, iS12] : List (Nat → Nat)).getD k iS0), fun k => ([a0, a1, a2, a3, a4] : List ClassId).getD k a0, fun g1 g2 => ⟨?_, ?_⟩⟩
  · intro k q hq
    match k, hq with
    | 0, hq => cases hq; exact hKn0
    | 1, hq => cases hq; exact hKn1
    | 2, hq => cases hq; exact hKn2
    | 3, hq => cases hq; exact hKn3
    | 4, hq => cases hq; exact hKn4
    | 5, hq => cases hq; exact hKn5
    | 6, hq => cases hq; exact hKn6
    | 7, hq => cases hq; exact hKn7
    | 8, hq => cases hq; exact hKn8
    | 9, hq => cases hq; exact hKn9
    | 10, hq => cases hq; exact hKn10
    | 11, hq => cases hq; exact hKn11
    | 12, hq => cases hq; exact hKn12
    | k + 13, hq => simp [vwCl] at hq
  · intro k q hq
    match k, hq with
    | 0, hq => cases hq; exact ha0
    | 1, hq => cases hq; exact ha1
    | 2, hq => cases hq; exact ha2
    | 3, hq => cases hq; exact ha3
    | 4, hq => cases hq; exact ha4
    | k + 5, hq => simp [kT] at hq
def tmK (i : Nat) : Term := Term.string "LastCalled$Text" (([25, 51, 59, 64] : List Nat).getD i 0)
set_option maxRecDepth 100000 in
set_option maxHeartbeats 2000000 in
theorem st_S {s : State} {args : Array Value} {A : Nat → Prop} (h : (Jvm.Cond.and given_1 narrow_1).before args s = true) (hA : ∀ a : Nat, a < s.heap.size → ¬ A a) : ∃ adK adV : Nat → Nat, vk_S 4 kL kB adK adV A s s.heap ∧ ∀ i : Nat, i < 4 → (tmK i).eval args s none [] s = some (.ref (adK i)) := by
  have hs := flat_of_before _ h
  refine vk_Sof (tm := tmK) ?_ ?_ ?_ ?_ ?_ ?_ ?_ hA
  · intro i hi
    rcases (show i = 0 ∨ i = 1 ∨ i = 2 ∨ i = 3 by omega) with rfl | rfl | rfl | rfl <;> decide
  · intro i hi
    rcases (show i = 0 ∨ i = 1 ∨ i = 2 ∨ i = 3 by omega) with rfl | rfl | rfl | rfl <;> exact hs _ (by decide +kernel)
  · intro i hi
    rcases (show i = 0 ∨ i = 1 ∨ i = 2 ∨ i = 3 by omega) with rfl | rfl | rfl | rfl <;> exact hs _ (by decide +kernel)
  · intro i hi
    rcases (show i = 0 ∨ i = 1 ∨ i = 2 ∨ i = 3 by omega) with rfl | rfl | rfl | rfl <;> exact hs _ (by decide +kernel)
  · intro i hi
    rcases (show i = 0 ∨ i = 1 ∨ i = 2 ∨ i = 3 by omega) with rfl | rfl | rfl | rfl <;> exact hs _ (by decide +kernel)
  · intro i hi j hj
    rcases (show i = 0 ∨ i = 1 ∨ i = 2 ∨ i = 3 by omega) with rfl | rfl | rfl | rfl
    · rcases (show j = 0 ∨ j = 1 ∨ j = 2 ∨ j = 3 ∨ j = 4 ∨ j = 5 by have : j < 6 := hj; omega) with rfl | rfl | rfl | rfl | rfl | rfl <;> exact hs _ (by decide +kernel)
    · rcases (show j = 0 ∨ j = 1 ∨ j = 2 by have : j < 3 := hj; omega) with rfl | rfl | rfl <;> exact hs _ (by decide +kernel)
    · rcases (show j = 0 ∨ j = 1 ∨ j = 2 ∨ j = 3 ∨ j = 4 by have : j < 5 := hj; omega) with rfl | rfl | rfl | rfl | rfl <;> exact hs _ (by decide +kernel)
    · rcases (show j = 0 ∨ j = 1 ∨ j = 2 ∨ j = 3 by have : j < 4 := hj; omega) with rfl | rfl | rfl | rfl <;> exact hs _ (by decide +kernel)
  · intro i j hi hj hij
    rcases (show i = 0 ∨ i = 1 ∨ i = 2 ∨ i = 3 by omega) with rfl | rfl | rfl | rfl <;> rcases (show j = 0 ∨ j = 1 ∨ j = 2 ∨ j = 3 by omega) with rfl | rfl | rfl | rfl <;> first | exact absurd rfl hij | exact Or.inl (hs _ (by decide +kernel)) | exact Or.inr (hs _ (by decide +kernel))
set_option maxRecDepth 100000 in
theorem st_nx {s : State} {args : Array Value} (hts : ∀ w ∈ lw_tbl, w.before args s = true) : nx_U s := by
  intro q hq
  simp only [nx_l, List.mem_cons, List.not_mem_nil, or_false] at hq
  rcases hq with rfl | rfl | rfl | rfl | rfl | rfl | rfl | rfl | rfl | rfl | rfl | rfl | rfl | rfl | rfl | rfl | rfl | rfl | rfl | rfl | rfl | rfl
  · exact va_Nw.of rfl (hts _ (List.mem_append_right _ (lw_t1 (List.mem_of_getElem? (i := 32) rfl))))
  · exact va_Nw.of rfl (hts _ (List.mem_append_right _ (lw_t1 (List.mem_of_getElem? (i := 95) rfl))))
  · exact va_Nw.of rfl (hts _ (List.mem_append_right _ (lw_t1 (List.mem_of_getElem? (i := 124) rfl))))
  · exact va_Nw.of rfl (hts _ (List.mem_append_right _ (lw_t1 (List.mem_of_getElem? (i := 139) rfl))))
  · exact va_Nw.of rfl (hts _ (List.mem_append_right _ (lw_t1 (List.mem_of_getElem? (i := 146) rfl))))
  · exact va_Nw.of rfl (hts _ (List.mem_append_right _ (lw_t1 (List.mem_of_getElem? (i := 153) rfl))))
  · exact va_Nw.of rfl (hts _ (List.mem_append_right _ (lw_t1 (List.mem_of_getElem? (i := 156) rfl))))
  · exact va_Nw.of rfl (hts _ (List.mem_append_right _ (lw_t1 (List.mem_of_getElem? (i := 160) rfl))))
  · exact va_Nw.of rfl (hts _ (List.mem_append_right _ (lw_t1 (List.mem_of_getElem? (i := 163) rfl))))
  · exact va_Nw.of rfl (hts _ (List.mem_append_right _ (lw_t1 (List.mem_of_getElem? (i := 167) rfl))))
  · exact va_Nw.of rfl (hts _ (List.mem_append_right _ (lw_t1 (List.mem_of_getElem? (i := 170) rfl))))
  · exact va_Nw.of rfl (hts _ (List.mem_append_right _ (lw_t1 (List.mem_of_getElem? (i := 174) rfl))))
  · exact va_Nw.of rfl (hts _ (List.mem_append_right _ (lw_t1 (List.mem_of_getElem? (i := 177) rfl))))
  · exact va_Nw.of rfl (hts _ (List.mem_append_right _ (lw_t1 (List.mem_of_getElem? (i := 181) rfl))))
  · exact va_Nw.of rfl (hts _ (List.mem_append_right _ (lw_t1 (List.mem_of_getElem? (i := 184) rfl))))
  · exact va_Nw.of rfl (hts _ (List.mem_append_right _ (lw_t1 (List.mem_of_getElem? (i := 201) rfl))))
  · exact va_Nw.of rfl (hts _ (List.mem_append_right _ (lw_t2 (List.mem_of_getElem? (i := 139) rfl))))
  · exact va_Nw.of rfl (hts _ (List.mem_append_right _ (lw_t2 (List.mem_of_getElem? (i := 168) rfl))))
  · exact va_Nw.of rfl (hts _ (List.mem_append_right _ (lw_t2 (List.mem_of_getElem? (i := 236) rfl))))
  · exact va_Nw.of rfl (hts _ (List.mem_append_right _ (lw_t3 (List.mem_of_getElem? (i := 36) rfl))))
  · exact va_Nw.of rfl (hts _ (List.mem_append_right _ (lw_t3 (List.mem_of_getElem? (i := 42) rfl))))
  · exact va_Nw.of rfl (hts _ (List.mem_append_right _ (lw_t3 (List.mem_of_getElem? (i := 51) rfl))))
set_option maxRecDepth 100000 in
theorem st_E {s : State} {args : Array Value} {A : Nat → Prop} (hts : ∀ w ∈ lw_tbl, w.before args s = true) (h : (Jvm.Cond.and given_1 narrow_1).before args s = true) (hA : ∀ a : Nat, a < s.heap.size → ¬ A a) : ∃ E : Ew, va_K E.1 vwCl (kT E) s ∧ Ev E A s s.heap := by
  have hs := flat_of_before _ h
  have hG : ∀ w ∈ lw_G, w.before args s = true := fun w hw => hts w (List.mem_filter.mp hw).1
  have hH := hts _ (List.mem_append_right _ (lw_t1 (List.mem_of_getElem? (i := 92) rfl)))
  have hP := hts _ (List.mem_append_right _ (lw_t1 (List.mem_of_getElem? (i := 144) rfl)))
  obtain ⟨D, f, hK⟩ := st_K hG hH hP
  obtain ⟨adK, adV, hS, hev⟩ := st_S h hA
  refine ⟨(D, f, adK, adV), hK adK adV, st_nx hts, ⟨?_, ?_, ?_, ?_⟩, hS, ?_, ?_, va_AO.of hH, va_AO.of hP, ?_⟩
  · exact vk_R.of (hts _ (List.mem_append_right _ (lw_t2 (List.mem_of_getElem? (i := 62) rfl)))) (hev 0 (by decide))
  · exact vk_R.of (hts _ (List.mem_append_right _ (lw_t2 (List.mem_of_getElem? (i := 124) rfl)))) (hev 1 (by decide))
  · exact vk_R.of (hts _ (List.mem_append_right _ (lw_t2 (List.mem_of_getElem? (i := 130) rfl)))) (hev 2 (by decide))
  · exact vk_R.of (hts _ (List.mem_append_right _ (lw_t2 (List.mem_of_getElem? (i := 140) rfl)))) (hev 3 (by decide))
  · exact va_Zof (hts _ (List.mem_append_right _ (lw_t2 (List.mem_of_getElem? (i := 76) rfl)))) (hG _ m1_15) (va_eqt (hs _ (by decide +kernel))) hA
  · exact va_Zqof (hts _ (List.mem_append_right _ (lw_t2 (List.mem_of_getElem? (i := 92) rfl)))) (hG _ m1_17) (hs _ (by decide +kernel)) hA
  · intro C hC
    simp only [kC, List.mem_cons, List.not_mem_nil, or_false] at hC
    rcases hC with rfl | rfl | rfl | rfl | rfl
    · exact va_Nw.of rfl (hts _ (List.mem_append_right _ (lw_t5 (List.mem_of_getElem? (i := 88) rfl))))
    · exact va_Nw.of rfl (hts _ (List.mem_append_right _ (lw_t5 (List.mem_of_getElem? (i := 89) rfl))))
    · exact va_Nw.of rfl (hts _ (List.mem_append_right _ (lw_t5 (List.mem_of_getElem? (i := 90) rfl))))
    · exact va_Nw.of rfl (hts _ (List.mem_append_right _ (lw_t5 (List.mem_of_getElem? (i := 91) rfl))))
    · exact va_Nw.of rfl (hts _ (List.mem_append_right _ (lw_t5 (List.mem_of_getElem? (i := 92) rfl))))
set_option maxHeartbeats 2000000 in
set_option maxRecDepth 100000 in
theorem law_head {K : Kx} {E : Ew} {b L : Nat} {xs : Nat → Int32} (hC : Cx (kS K 0 0) E cL_law 4 "LastCalledLaw" 8) (hMc : (kR K).cells = 62) (hMs : (kR K).slots = 1824) (hX : va_X b L xs (ks K) (ks K).heap) (hbl : b < (ks K).heap.size) (hbA : ¬ kA K b) (hL : L ≤ 384) (hEnd : ∀ (w : va_W) (lv : List (Nat × Value)), G (kS K 62 1824) E 4 w lv 1078 [.int (nI 1)]) : G (kS K 0 0) E 4 [] [(0, .ref b)] 0 [] := by
  show G (kS K 0 0) E 4 [] [(0, .ref b)] 0 []
  refine g_new hC 11 [.null, .null, .null, .null, .null, .null, .null, .null, .null] inX11 tyX11_ok m1_22 m1_23 m1_1 rfl (fun j hj => by rcases (show j = 0 ∨ j = 1 ∨ j = 2 ∨ j = 3 ∨ j = 4 ∨ j = 5 ∨ j = 6 ∨ j = 7 ∨ j = 8 by omega) with rfl | rfl | rfl | rfl | rfl | rfl | rfl | rfl | rfl <;> rfl) (by rw [hMc]; decide) (by rw [hMs]; decide) dL_law_0 (fun q1 hC => ?_)
  show G (kS K 1 9) E 4 [(q1, .inr (11, [.null, .null, .null, .null, .null, .null, .null, .null, .null]))] [(0, .ref b)] 3 [.ref q1]
  refine g_dup hC dL_law_3 rfl ?_
  refine g_callI hC (f_X11_init (kl K) E q1) wX11_init m1_24 dL_law_4 [0] [] [] (by decide) (by rw [hMc]; decide) (by rw [hMs]; decide) (Nat.le_of_ble_eq_true rfl) rfl rfl rfl rfl (by decide) ?_
  rintro w ⟨x, h, dr, g0, g1, rfl, rfl⟩ hC
  show G (kS K 52 1005) E 4 [(x 0, .inr (11, oL x h dr)), (x 1, .inl (E.2.1 3, 2, .inr (.inr (.inr (.inr (fun j => some ((if j = 0 then g0 else g1) 0))))))), (x 2, .inl (E.2.1 2, 2, .inl (fun _ => nI 0))), (x 3, .inl (E.2.1 0, 3, .inl (fun _ => nI 0))), (x 4, .inr (10, oT x (nI 0) (nI 0) (nI 0) (nI 0) (nI 0))), (x 5, .inl (E.2.1 1, 150, .inl (nf (fun _ => 0)))), (x 6, .inr (4, oF x 0 1)), (x 7, .inr (6, oG x)), (x 8, .inl (E.2.1 4, 6, .inr (.inr (.inr (.inr (fun j => some (x (14 + j)))))))), (x 9, .inl (E.2.1 0, 10, .inl (nf (fun _ => 0)))), (x 10, .inl (E.2.1 0, 10, .inl (nf (fun _ => 0)))), (x 11, .inl (E.2.1 0, 10, .inl (nf (fun _ => 0)))), (x 12, .inr (8, oS x (nI 0) (nI 0) (nI 0))), (x 13, .inl (E.2.1 0, 7, .inl (nf (fun _ => 0)))), (x 14, .inr (7, [])), (x 15, .inr (0, [])), (x 16, .inr (3, [])), (x 17, .inr (1, [])), (x 18, .inr (9, [])), (x 19, .inr (2, [])), (h 0, .inr (5, oH h (nI 0) (nI 0) (nI 0) (nI 0) (nI 0))), (h 1, .inl (E.2.1 0, 7, .inl (nf (fun _ => 0)))), (h 2, .inl (E.2.1 0, 7, .inl (nf (fun _ => 0)))), (h 3, .inl (E.2.1 0, 7, .inl (nf (fun _ => 0)))), (h 4, .inl (E.2.1 0, 6, .inl (nf (fun _ => 0)))), (h 5, .inl (E.2.1 0, 6, .inl (nf (fun _ => 0)))), (h 6, .inl (E.2.1 0, 30, .inl (nf (fun _ => 0)))), (h 7, .inl (E.2.1 0, 120, .inl (nf (fun _ => 0)))), (dr 0, .inr (5, oH dr (nI 0) (nI 0) (nI 0) (nI 0) (nI 0))), (dr 1, .inl (E.2.1 0, 7, .inl (nf (fun _ => 0)))), (dr 2, .inl (E.2.1 0, 7, .inl (nf (fun _ => 0)))), (dr 3, .inl (E.2.1 0, 7, .inl (nf (fun _ => 0)))), (dr 4, .inl (E.2.1 0, 6, .inl (nf (fun _ => 0)))), (dr 5, .inl (E.2.1 0, 6, .inl (nf (fun _ => 0)))), (dr 6, .inl (E.2.1 0, 30, .inl (nf (fun _ => 0)))), (dr 7, .inl (E.2.1 0, 120, .inl (nf (fun _ => 0)))), (g0 0, .inr (5, oH g0 (nI 0) (nI 0) (nI 0) (nI 0) (nI 0))), (g0 1, .inl (E.2.1 0, 7, .inl (nf (fun _ => 0)))), (g0 2, .inl (E.2.1 0, 7, .inl (nf (fun _ => 0)))), (g0 3, .inl (E.2.1 0, 7, .inl (nf (fun _ => 0)))), (g0 4, .inl (E.2.1 0, 6, .inl (nf (fun _ => 0)))), (g0 5, .inl (E.2.1 0, 6, .inl (nf (fun _ => 0)))), (g0 6, .inl (E.2.1 0, 30, .inl (nf (fun _ => 0)))), (g0 7, .inl (E.2.1 0, 120, .inl (nf (fun _ => 0)))), (g1 0, .inr (5, oH g1 (nI 0) (nI 0) (nI 0) (nI 0) (nI 0))), (g1 1, .inl (E.2.1 0, 7, .inl (nf (fun _ => 0)))), (g1 2, .inl (E.2.1 0, 7, .inl (nf (fun _ => 0)))), (g1 3, .inl (E.2.1 0, 7, .inl (nf (fun _ => 0)))), (g1 4, .inl (E.2.1 0, 6, .inl (nf (fun _ => 0)))), (g1 5, .inl (E.2.1 0, 6, .inl (nf (fun _ => 0)))), (g1 6, .inl (E.2.1 0, 30, .inl (nf (fun _ => 0)))), (g1 7, .inl (E.2.1 0, 120, .inl (nf (fun _ => 0))))] [(0, .ref b)] 7 [.ref (x 0)]
  refine g_astore_n hC [(1, .ref (x 0)), (0, .ref b)] dL_law_7 rfl (by decide) rfl ?_
  refine g_new hC 12 [.null, .null, .null, .null, .long 0, .long 0, .null, .int (nI 0), .int (nI 0), .int (nI 0), .null, .null, .int (nI 0), .int (nI 0), .int (nI 0), .int (nI 0), .int (nI 0), .null, .null] inX12 tyX12_ok m3_199 m3_200 m1_13 rfl (fun j hj => by rcases (show j = 0 ∨ j = 1 ∨ j = 2 ∨ j = 3 ∨ j = 4 ∨ j = 5 ∨ j = 6 ∨ j = 7 ∨ j = 8 ∨ j = 9 ∨ j = 10 ∨ j = 11 ∨ j = 12 ∨ j = 13 ∨ j = 14 ∨ j = 15 ∨ j = 16 ∨ j = 17 ∨ j = 18 by omega) with rfl | rfl | rfl | rfl | rfl | rfl | rfl | rfl | rfl | rfl | rfl | rfl | rfl | rfl | rfl | rfl | rfl | rfl | rfl <;> rfl) (by rw [hMc]; decide) (by rw [hMs]; decide) dL_law_8 (fun q2 hC => ?_)
  show G (kS K 53 1024) E 4 [(x 0, .inr (11, oL x h dr)), (x 1, .inl (E.2.1 3, 2, .inr (.inr (.inr (.inr (fun j => some ((if j = 0 then g0 else g1) 0))))))), (x 2, .inl (E.2.1 2, 2, .inl (fun _ => nI 0))), (x 3, .inl (E.2.1 0, 3, .inl (fun _ => nI 0))), (x 4, .inr (10, oT x (nI 0) (nI 0) (nI 0) (nI 0) (nI 0))), (x 5, .inl (E.2.1 1, 150, .inl (nf (fun _ => 0)))), (x 6, .inr (4, oF x 0 1)), (x 7, .inr (6, oG x)), (x 8, .inl (E.2.1 4, 6, .inr (.inr (.inr (.inr (fun j => some (x (14 + j)))))))), (x 9, .inl (E.2.1 0, 10, .inl (nf (fun _ => 0)))), (x 10, .inl (E.2.1 0, 10, .inl (nf (fun _ => 0)))), (x 11, .inl (E.2.1 0, 10, .inl (nf (fun _ => 0)))), (x 12, .inr (8, oS x (nI 0) (nI 0) (nI 0))), (x 13, .inl (E.2.1 0, 7, .inl (nf (fun _ => 0)))), (x 14, .inr (7, [])), (x 15, .inr (0, [])), (x 16, .inr (3, [])), (x 17, .inr (1, [])), (x 18, .inr (9, [])), (x 19, .inr (2, [])), (h 0, .inr (5, oH h (nI 0) (nI 0) (nI 0) (nI 0) (nI 0))), (h 1, .inl (E.2.1 0, 7, .inl (nf (fun _ => 0)))), (h 2, .inl (E.2.1 0, 7, .inl (nf (fun _ => 0)))), (h 3, .inl (E.2.1 0, 7, .inl (nf (fun _ => 0)))), (h 4, .inl (E.2.1 0, 6, .inl (nf (fun _ => 0)))), (h 5, .inl (E.2.1 0, 6, .inl (nf (fun _ => 0)))), (h 6, .inl (E.2.1 0, 30, .inl (nf (fun _ => 0)))), (h 7, .inl (E.2.1 0, 120, .inl (nf (fun _ => 0)))), (dr 0, .inr (5, oH dr (nI 0) (nI 0) (nI 0) (nI 0) (nI 0))), (dr 1, .inl (E.2.1 0, 7, .inl (nf (fun _ => 0)))), (dr 2, .inl (E.2.1 0, 7, .inl (nf (fun _ => 0)))), (dr 3, .inl (E.2.1 0, 7, .inl (nf (fun _ => 0)))), (dr 4, .inl (E.2.1 0, 6, .inl (nf (fun _ => 0)))), (dr 5, .inl (E.2.1 0, 6, .inl (nf (fun _ => 0)))), (dr 6, .inl (E.2.1 0, 30, .inl (nf (fun _ => 0)))), (dr 7, .inl (E.2.1 0, 120, .inl (nf (fun _ => 0)))), (g0 0, .inr (5, oH g0 (nI 0) (nI 0) (nI 0) (nI 0) (nI 0))), (g0 1, .inl (E.2.1 0, 7, .inl (nf (fun _ => 0)))), (g0 2, .inl (E.2.1 0, 7, .inl (nf (fun _ => 0)))), (g0 3, .inl (E.2.1 0, 7, .inl (nf (fun _ => 0)))), (g0 4, .inl (E.2.1 0, 6, .inl (nf (fun _ => 0)))), (g0 5, .inl (E.2.1 0, 6, .inl (nf (fun _ => 0)))), (g0 6, .inl (E.2.1 0, 30, .inl (nf (fun _ => 0)))), (g0 7, .inl (E.2.1 0, 120, .inl (nf (fun _ => 0)))), (g1 0, .inr (5, oH g1 (nI 0) (nI 0) (nI 0) (nI 0) (nI 0))), (g1 1, .inl (E.2.1 0, 7, .inl (nf (fun _ => 0)))), (g1 2, .inl (E.2.1 0, 7, .inl (nf (fun _ => 0)))), (g1 3, .inl (E.2.1 0, 7, .inl (nf (fun _ => 0)))), (g1 4, .inl (E.2.1 0, 6, .inl (nf (fun _ => 0)))), (g1 5, .inl (E.2.1 0, 6, .inl (nf (fun _ => 0)))), (g1 6, .inl (E.2.1 0, 30, .inl (nf (fun _ => 0)))), (g1 7, .inl (E.2.1 0, 120, .inl (nf (fun _ => 0)))), (q2, .inr (12, [.null, .null, .null, .null, .long 0, .long 0, .null, .int (nI 0), .int (nI 0), .int (nI 0), .null, .null, .int (nI 0), .int (nI 0), .int (nI 0), .int (nI 0), .int (nI 0), .null, .null]))] [(1, .ref (x 0)), (0, .ref b)] 11 [.ref q2]
  refine g_dup hC dL_law_11 rfl ?_
  refine g_callI hC (f_X12_init (kl K) E q2) wX12_init m3_201 dL_law_12 [52] [0, 1, 2, 3, 4, 5, 6, 7, 8, 9, 10, 11, 12, 13, 14, 15, 16, 17, 18, 19, 20, 21, 22, 23, 24, 25, 26, 27, 28, 29, 30, 31, 32, 33, 34, 35, 36, 37, 38, 39, 40, 41, 42, 43, 44, 45, 46, 47, 48, 49, 50, 51] [(x 0, .inr (11, oL x h dr)), (x 1, .inl (E.2.1 3, 2, .inr (.inr (.inr (.inr (fun j => some ((if j = 0 then g0 else g1) 0))))))), (x 2, .inl (E.2.1 2, 2, .inl (fun _ => nI 0))), (x 3, .inl (E.2.1 0, 3, .inl (fun _ => nI 0))), (x 4, .inr (10, oT x (nI 0) (nI 0) (nI 0) (nI 0) (nI 0))), (x 5, .inl (E.2.1 1, 150, .inl (nf (fun _ => 0)))), (x 6, .inr (4, oF x 0 1)), (x 7, .inr (6, oG x)), (x 8, .inl (E.2.1 4, 6, .inr (.inr (.inr (.inr (fun j => some (x (14 + j)))))))), (x 9, .inl (E.2.1 0, 10, .inl (nf (fun _ => 0)))), (x 10, .inl (E.2.1 0, 10, .inl (nf (fun _ => 0)))), (x 11, .inl (E.2.1 0, 10, .inl (nf (fun _ => 0)))), (x 12, .inr (8, oS x (nI 0) (nI 0) (nI 0))), (x 13, .inl (E.2.1 0, 7, .inl (nf (fun _ => 0)))), (x 14, .inr (7, [])), (x 15, .inr (0, [])), (x 16, .inr (3, [])), (x 17, .inr (1, [])), (x 18, .inr (9, [])), (x 19, .inr (2, [])), (h 0, .inr (5, oH h (nI 0) (nI 0) (nI 0) (nI 0) (nI 0))), (h 1, .inl (E.2.1 0, 7, .inl (nf (fun _ => 0)))), (h 2, .inl (E.2.1 0, 7, .inl (nf (fun _ => 0)))), (h 3, .inl (E.2.1 0, 7, .inl (nf (fun _ => 0)))), (h 4, .inl (E.2.1 0, 6, .inl (nf (fun _ => 0)))), (h 5, .inl (E.2.1 0, 6, .inl (nf (fun _ => 0)))), (h 6, .inl (E.2.1 0, 30, .inl (nf (fun _ => 0)))), (h 7, .inl (E.2.1 0, 120, .inl (nf (fun _ => 0)))), (dr 0, .inr (5, oH dr (nI 0) (nI 0) (nI 0) (nI 0) (nI 0))), (dr 1, .inl (E.2.1 0, 7, .inl (nf (fun _ => 0)))), (dr 2, .inl (E.2.1 0, 7, .inl (nf (fun _ => 0)))), (dr 3, .inl (E.2.1 0, 7, .inl (nf (fun _ => 0)))), (dr 4, .inl (E.2.1 0, 6, .inl (nf (fun _ => 0)))), (dr 5, .inl (E.2.1 0, 6, .inl (nf (fun _ => 0)))), (dr 6, .inl (E.2.1 0, 30, .inl (nf (fun _ => 0)))), (dr 7, .inl (E.2.1 0, 120, .inl (nf (fun _ => 0)))), (g0 0, .inr (5, oH g0 (nI 0) (nI 0) (nI 0) (nI 0) (nI 0))), (g0 1, .inl (E.2.1 0, 7, .inl (nf (fun _ => 0)))), (g0 2, .inl (E.2.1 0, 7, .inl (nf (fun _ => 0)))), (g0 3, .inl (E.2.1 0, 7, .inl (nf (fun _ => 0)))), (g0 4, .inl (E.2.1 0, 6, .inl (nf (fun _ => 0)))), (g0 5, .inl (E.2.1 0, 6, .inl (nf (fun _ => 0)))), (g0 6, .inl (E.2.1 0, 30, .inl (nf (fun _ => 0)))), (g0 7, .inl (E.2.1 0, 120, .inl (nf (fun _ => 0)))), (g1 0, .inr (5, oH g1 (nI 0) (nI 0) (nI 0) (nI 0) (nI 0))), (g1 1, .inl (E.2.1 0, 7, .inl (nf (fun _ => 0)))), (g1 2, .inl (E.2.1 0, 7, .inl (nf (fun _ => 0)))), (g1 3, .inl (E.2.1 0, 7, .inl (nf (fun _ => 0)))), (g1 4, .inl (E.2.1 0, 6, .inl (nf (fun _ => 0)))), (g1 5, .inl (E.2.1 0, 6, .inl (nf (fun _ => 0)))), (g1 6, .inl (E.2.1 0, 30, .inl (nf (fun _ => 0)))), (g1 7, .inl (E.2.1 0, 120, .inl (nf (fun _ => 0))))] (by decide) (by rw [hMc]; decide) (by rw [hMs]; decide) (Nat.le_of_ble_eq_true rfl) rfl rfl rfl rfl (by decide) ?_
  rintro w ⟨q, rfl, rfl⟩ hC
  show G (kS K 62 1824) E 4 [(x 0, .inr (11, oL x h dr)), (x 1, .inl (E.2.1 3, 2, .inr (.inr (.inr (.inr (fun j => some ((if j = 0 then g0 else g1) 0))))))), (x 2, .inl (E.2.1 2, 2, .inl (fun _ => nI 0))), (x 3, .inl (E.2.1 0, 3, .inl (fun _ => nI 0))), (x 4, .inr (10, oT x (nI 0) (nI 0) (nI 0) (nI 0) (nI 0))), (x 5, .inl (E.2.1 1, 150, .inl (nf (fun _ => 0)))), (x 6, .inr (4, oF x 0 1)), (x 7, .inr (6, oG x)), (x 8, .inl (E.2.1 4, 6, .inr (.inr (.inr (.inr (fun j => some (x (14 + j)))))))), (x 9, .inl (E.2.1 0, 10, .inl (nf (fun _ => 0)))), (x 10, .inl (E.2.1 0, 10, .inl (nf (fun _ => 0)))), (x 11, .inl (E.2.1 0, 10, .inl (nf (fun _ => 0)))), (x 12, .inr (8, oS x (nI 0) (nI 0) (nI 0))), (x 13, .inl (E.2.1 0, 7, .inl (nf (fun _ => 0)))), (x 14, .inr (7, [])), (x 15, .inr (0, [])), (x 16, .inr (3, [])), (x 17, .inr (1, [])), (x 18, .inr (9, [])), (x 19, .inr (2, [])), (h 0, .inr (5, oH h (nI 0) (nI 0) (nI 0) (nI 0) (nI 0))), (h 1, .inl (E.2.1 0, 7, .inl (nf (fun _ => 0)))), (h 2, .inl (E.2.1 0, 7, .inl (nf (fun _ => 0)))), (h 3, .inl (E.2.1 0, 7, .inl (nf (fun _ => 0)))), (h 4, .inl (E.2.1 0, 6, .inl (nf (fun _ => 0)))), (h 5, .inl (E.2.1 0, 6, .inl (nf (fun _ => 0)))), (h 6, .inl (E.2.1 0, 30, .inl (nf (fun _ => 0)))), (h 7, .inl (E.2.1 0, 120, .inl (nf (fun _ => 0)))), (dr 0, .inr (5, oH dr (nI 0) (nI 0) (nI 0) (nI 0) (nI 0))), (dr 1, .inl (E.2.1 0, 7, .inl (nf (fun _ => 0)))), (dr 2, .inl (E.2.1 0, 7, .inl (nf (fun _ => 0)))), (dr 3, .inl (E.2.1 0, 7, .inl (nf (fun _ => 0)))), (dr 4, .inl (E.2.1 0, 6, .inl (nf (fun _ => 0)))), (dr 5, .inl (E.2.1 0, 6, .inl (nf (fun _ => 0)))), (dr 6, .inl (E.2.1 0, 30, .inl (nf (fun _ => 0)))), (dr 7, .inl (E.2.1 0, 120, .inl (nf (fun _ => 0)))), (g0 0, .inr (5, oH g0 (nI 0) (nI 0) (nI 0) (nI 0) (nI 0))), (g0 1, .inl (E.2.1 0, 7, .inl (nf (fun _ => 0)))), (g0 2, .inl (E.2.1 0, 7, .inl (nf (fun _ => 0)))), (g0 3, .inl (E.2.1 0, 7, .inl (nf (fun _ => 0)))), (g0 4, .inl (E.2.1 0, 6, .inl (nf (fun _ => 0)))), (g0 5, .inl (E.2.1 0, 6, .inl (nf (fun _ => 0)))), (g0 6, .inl (E.2.1 0, 30, .inl (nf (fun _ => 0)))), (g0 7, .inl (E.2.1 0, 120, .inl (nf (fun _ => 0)))), (g1 0, .inr (5, oH g1 (nI 0) (nI 0) (nI 0) (nI 0) (nI 0))), (g1 1, .inl (E.2.1 0, 7, .inl (nf (fun _ => 0)))), (g1 2, .inl (E.2.1 0, 7, .inl (nf (fun _ => 0)))), (g1 3, .inl (E.2.1 0, 7, .inl (nf (fun _ => 0)))), (g1 4, .inl (E.2.1 0, 6, .inl (nf (fun _ => 0)))), (g1 5, .inl (E.2.1 0, 6, .inl (nf (fun _ => 0)))), (g1 6, .inl (E.2.1 0, 30, .inl (nf (fun _ => 0)))), (g1 7, .inl (E.2.1 0, 120, .inl (nf (fun _ => 0)))), (q 0, .inr (12, oM q 0 1 (nI 0) (nI 0) (nI 0) (nI 0) (nI 0) (nI 0) (nI 0) (nI 0))), (q 1, .inl (E.2.1 0, 188, .inl (beg (fun _ => nI 0) (nI 0)))), (q 2, .inl (E.2.1 0, 376, .inl (fun _ => nI 0))), (q 3, .inl (E.2.1 2, 2, .inl (fun _ => nI 0))), (q 4, .inl (E.2.1 0, 3, .inl (fun _ => nI 0))), (q 5, .inl (E.2.1 0, 7, .inl (fun _ => nI 0))), (q 6, .inl (E.2.1 0, 4, .inl (fun _ => nI 0))), (q 7, .inl (E.2.1 0, 150, .inl (fun _ => nI 0))), (q 8, .inl (E.2.1 0, 68, .inl (fun _ => nI 0))), (q 9, .inl (E.2.1 0, 2, .inl (fun _ => nI 0)))] [(1, .ref (x 0)), (0, .ref b)] 15 [.ref (q 0)]
  refine g_astore_n hC [(2, .ref (q 0)), (1, .ref (x 0)), (0, .ref b)] dL_law_15 rfl (by decide) rfl ?_
  refine g_iconst (v := nI 0) hC dL_law_16 (by decide) ?_
  refine g_istore_n hC [(3, .int (nI 0)), (2, .ref (q 0)), (1, .ref (x 0)), (0, .ref b)] dL_law_17 rfl (by decide) rfl ?_
  refine g_lv (lv' := [(0, .ref b), (1, .ref (x 0)), (2, .ref (q 0)), (3, .int (nI 0))]) [3, 2, 1, 0] rfl ?_
  refine g_ws (ws' := WW E x h dr g0 g1 q (fun _ => nI 0) (fun _ => nI 0) (nI 0) (nI 0) (nI 0) (nI 0) (nI 0) (fun _ => 0) 0 1 (fun _ => 0) (fun _ => 0) (fun _ => 0) (nI 0) (nI 0) (nI 0) (nf (fun _ => 0)) (nI 0) (nI 0) (nI 0) (nI 0) (nI 0) (fun _ => 0) (fun _ => 0) (fun _ => 0) (fun _ => 0) (fun _ => 0) (fun _ => 0) (nf (fun _ => 0)) (nI 0) (nI 0) (nI 0) (nI 0) (nI 0) (nf (fun _ => 0)) (nf (fun _ => 0)) (nf (fun _ => 0)) (nf (fun _ => 0)) (nf (fun _ => 0)) (nf (fun _ => 0)) (nf (fun _ => 0)) (nI 0) (nI 0) (nI 0) (nI 0) (nI 0) (fun _ => 0) (fun _ => 0) (fun _ => 0) (fun _ => 0) (fun _ => 0) (fun _ => 0) (nf (fun _ => 0)) (nI 0) (nI 0) (nI 0) (nI 0) (nI 0) (fun _ => 0) (fun _ => 0) (fun _ => 0) (fun _ => 0) (fun _ => 0) (fun _ => 0) (nf (fun _ => 0)) 0 1 (nI 0) (nI 0) (nI 0) (nI 0) (nI 0) (nI 0) (nI 0) (nI 0) (beg (fun _ => nI 0) (nI 0)) (fun _ => nI 0) (fun _ => nI 0) (fun _ => nI 0) (fun _ => nI 0) (fun _ => nI 0) (fun _ => nI 0) (fun _ => nI 0) (fun _ => nI 0)) rfl ?_
  exact law_loop (K := kS K 62 1824) hC hX hbl hbA hL hEnd (L + 1) 0 _ (Rw_in RH_hamlet.1 (RH_hamlet (a := (fun _ => nI 0)) (ps := (fun _ => nI 0)) (kd := (fun _ => 0)) (pl := (fun _ => 0)) (dn := (fun _ => 0)) (dp := (fun _ => 0)) (nt := (fun _ => 0))).2 (Nat.zero_le _) (fun j hj => absurd hj (Nat.not_lt_zero j)) (Or.inl rfl) (Or.inl rfl)) (by omega) (by omega)
/-- the law, from its entry -/
theorem whole_start {p : Program} {e : Env} {s : State} {m : MethodId} {below : List Frame} {meth : Method} {c : Code} (l : Launch) {b L : Nat} {xs : Nat → Int32} (hL : L ≤ 384) (C0 : lw_At p s m meth c b L xs) : W p l e room_1 s m #[Value.ref b] below meth c s.heap [] 0 0 (lw_Z below #[Value.ref b] s) (entryFrame m ([Value.ref b] : List Value).toArray 4) := by
  obtain ⟨hx, hb, hr, hml, hown, hts, hX, hbl, hlocks, hgv⟩ := id C0
  obtain ⟨E, hK, hE⟩ := st_E (A := fun q : Nat => s.heap.size ≤ q) hts hgv (fun a h => Nat.not_le.mpr h)
  have hG : ∀ w ∈ lw_G, w.before #[Value.ref b] s = true := fun w hw => hts w (List.mem_filter.mp hw).1
  have hC : Cx (kS (p, l, e, room_1, s, m, #[Value.ref b], below, meth, c, (fun q : Nat => s.heap.size ≤ q), 0, 0, lw_Z below #[Value.ref b] s) 0 0) E cL_law 4 "LastCalledLaw" 8 := ⟨hx, hb, hml, hown, hG, hK, fun q h => h, hE, Nat.le_of_ble_eq_true rfl, Nat.le_of_ble_eq_true rfl, Nat.zero_le _, Nat.zero_le _⟩
  have main := law_head (xs := xs) hC rfl rfl hX hbl (Nat.not_le.mpr hbl) hL (fun w lv H locs ls hP hD hS hl => va_forget hS.2.2 (lw_ret hx hb hr hlocks dL_law_1078))
  rw [lg_entry_eq]
  exact main s.heap [] _ (fun k q h => by simp at h) ⟨fun i j p q h => by simp at h, fun k q h => by simp at h⟩ va_S.rf (lv_entry [.ref b] (Nat.le_of_ble_eq_true rfl))
