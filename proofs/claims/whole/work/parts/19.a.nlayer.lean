/-! ===== making: the same judgement, with cells and slots that grow ===== -/
def kS (K : Kx) (c s : Nat) : Kx := (kp K, kl K, ke K, kR K, ks K, km K, ka K, kb K, kt K, kc K, kA K, c, s, kQ K)
def rmi (d mc ms : Nat) : Room := { frames := d, cells := mc, slots := ms, locals := 40 * d }
def FiQ (E : Ew) (ws : va_W) (Z : va_W → Prop) (sz : Nat) : Array Value → State → Outcome → State → Prop := va_Qv Z (fun w t => va_P E.1 vwCl w t.heap ∧ va_D (va_A ws sz) w) (va_A ws sz)
/-- a constructor: over ws it makes mc cells of ms slots, and leaves a world of Z -/
def Fi (l : Launch) (E : Ew) (d mc ms : Nat) (y : MethodName) (cc : ByteArray) (nL : Nat) (as : List Value) (ws : va_W) (Z : va_W → Prop) : Prop :=
  ∀ sz : Nat, Met l y (.code y cc nL none :: lw_G) (rmi d mc ms) (FnP E as ws sz) (FiQ E ws Z sz) mc ms (va_A ws sz)
theorem Cx_S {K : Kx} {E : Ew} {cc : ByteArray} {nL d c s c' s' : Nat} {own : String} (hC : Cx (kS K c s) E cc nL own d) (hc : c' ≤ (kR K).cells) (hs : s' ≤ (kR K).slots) : Cx (kS K c' s') E cc nL own d := ⟨hC.1, hC.2.1, hC.2.2.1, hC.2.2.2.1, hC.2.2.2.2.1, hC.2.2.2.2.2.1, hC.2.2.2.2.2.2.1, hC.2.2.2.2.2.2.2.1, hC.2.2.2.2.2.2.2.2.1, hC.2.2.2.2.2.2.2.2.2.1, hc, hs⟩
section NL
variable {K : Kx} {E : Ew} {cc cc' : ByteArray} {nL nL' d d' pc index c s : Nat} {own : String} {ws ws' wc wr : va_W} {lv : List (Nat × Value)} {st rest : List Value}
theorem g_new (hC : Cx (kS K c s) E cc nL own d) {C : String} {T : u_T} {N : Nat} (ci : Nat) (fs : List Value) {ty : Nat → FieldType} (hin : ∀ w ∈ u_ws C T N, w ∈ lw_G) (hty : ∀ k, k < N → parseFieldDescriptor (T k).2.2.1 = some (ty k)) (hm1 : Cond.classLink own index C ∈ lw_G) (hm2 : Cond.instantiable C N ∈ lw_G) (hm3 : Cond.initialized C ∈ lw_G) (hc : vwCl[ci]? = some (C, T, N)) (hfs : ∀ j, j < N → defaultValue (ty j) = vp_V fs j) (h1 : c + 1 ≤ (kR K).cells) (h2 : s + N ≤ (kR K).slots) (hd : decode cc pc = .ok (.new index, 3)) (k : ∀ q : Nat, Cx (kS K (c + 1) (s + N)) E cc nL own d → G (kS K (c + 1) (s + N)) E nL (ws ++ [(q, .inr (ci, fs))]) lv (pc + 3) (.ref q :: st)) : G (kS K c s) E nL ws lv pc st := by
  intro H locs ls hP hD hS hl
  exact va_new (D := E.1) (ci := ci) (fs := fs) (C := C) (T := T) (N := N) (ty := ty) hC.1 hC.2.1 hC.2.2.2.2.1 hin hty hC.2.2.2.1 (hC.2.2.2.2.1 _ hm1) (hC.2.2.2.2.1 _ hm2) (hC.2.2.2.2.1 _ hm3) hC.2.2.2.2.2.1 hP hD hS hC.2.2.2.2.2.2.1 hc hfs h1 h2 hd (fun q H1 hP1 hD1 hS1 => k q (Cx_S hC h1 h2) H1 locs ls hP1 hD1 hS1 hl)
theorem g_newa (hC : Cx (kS K c s) E cc nL own d) {atype : ArrayType} (t : Nat) {ty : FieldType} (N : Nat) (hm : Cond.arrayClass (newarray.typeOf atype) ∈ lw_G) (hty : newarray.typeOf atype = ty) (ht : (kT E)[t]? = some (E.2.1 t, ty)) (hra : ∀ (U : State) (cA : ClassId), va_RA U cA ty → U.vm.findClass ("[" ++ ty.toString) = some cA) (ha : ∀ cA : ClassId, vp_cell cA (N, .inl (fun _ => nI 0)) = arrV cA N (fun _ => defaultValue ty)) (hN : N < 2147483648) (hbytes : N * componentBytes ty ≤ 536870912) (h1 : c + 1 ≤ (kR K).cells) (h2 : s + N ≤ (kR K).slots) (hd : decode cc pc = .ok (.newarray atype, 2)) (k : ∀ q : Nat, Cx (kS K (c + 1) (s + N)) E cc nL own d → G (kS K (c + 1) (s + N)) E nL (ws ++ [(q, .inl (E.2.1 t, N, .inl (fun _ => nI 0)))]) lv (pc + 2) (.ref q :: st)) : G (kS K c s) E nL ws lv pc (.int (nI N) :: st) := by
  intro H locs ls hP hD hS hl
  refine va_newa (D := E.1) hC.1 hC.2.1 (hC.2.2.2.2.1 _ hm) hty hC.2.2.2.2.2.1 hP hD hS hC.2.2.2.2.2.2.1 (a0 := (N, .inl (fun _ => nI 0))) ha (nI_pos hN) (nI_clamp hN) hbytes h1 h2 hd (fun q cA H1 hK1 hP1 hD1 hS1 => ?_)
  have e1 := hra _ _ (hK1.2 5 (cA, ty) rfl).2
  have e2 := hra _ _ (hC.2.2.2.2.2.1.2 t _ ht).2
  have e : cA = E.2.1 t := Option.some.inj (e1.symm.trans e2)
  subst e
  exact k q (Cx_S hC h1 h2) H1 locs ls hP1 hD1 hS1 hl
theorem g_newq (hC : Cx (kS K c s) E cc nL own d) {C : String} (t N : Nat) (hm : Cond.classLink own index C ∈ lw_G) (hov : va_AO C (ks K)) (ht : (kT E)[t]? = some (E.2.1 t, .object C)) (hN : N < 1000) (h1 : c + 1 ≤ (kR K).cells) (h2 : s + N ≤ (kR K).slots) (hd : decode cc pc = .ok (.anewarray index, 3)) (k : ∀ q : Nat, Cx (kS K (c + 1) (s + N)) E cc nL own d → G (kS K (c + 1) (s + N)) E nL (ws ++ [(q, .inl (E.2.1 t, N, .inr (.inr (.inr (.inr (fun _ => none))))))]) lv (pc + 3) (.ref q :: st)) : G (kS K c s) E nL ws lv pc (.int (nI N) :: st) := by
  intro H locs ls hP hD hS hl
  refine va_newq (D := E.1) hC.1 hC.2.1 hC.2.2.2.1 (hC.2.2.2.2.1 _ hm) hov hC.2.2.2.2.2.1 hP hD hS hC.2.2.2.2.2.2.1 (nI_pos (by omega)) (nI_clamp (by omega)) (by omega) h1 h2 hd (fun q cA H1 hK1 hP1 hD1 hS1 => ?_)
  have hra : ∀ (U : State) (cA : ClassId), va_RA U cA (.object C) → U.vm.findClass ("[" ++ (FieldType.object C).toString) = some cA := fun U cA hh => by
    obtain ⟨_, _, _, _, _, h⟩ := hh
    exact h
  have e1 := hra _ _ (hK1.2 5 (cA, .object C) rfl).2
  have e2 := hra _ _ (hC.2.2.2.2.2.1.2 t _ ht).2
  have e : cA = E.2.1 t := Option.some.inj (e1.symm.trans e2)
  subst e
  exact k q (Cx_S hC h1 h2) H1 locs ls hP1 hD1 hS1 hl
theorem g_aast (hC : Cx K E cc nL own d) (q0 t qk ci : Nat) (ws' : va_W) {a n v j : Nat} {r : vw_C} {vs : List Value} {f : Nat → Option Nat} (ha : ws[q0]? = some (a, .inl (E.2.1 t, n, .inr (.inr (.inr (.inr f)))))) (ht : (kT E)[t]? = some (E.2.1 t, .object r.1)) (hv : ws[qk]? = some (v, .inr (ci, vs))) (hc : vwCl[ci]? = some r) (hj : j < n) (hn : n < 2147483648) (hd : decode cc pc = .ok (.aastore, 1)) (hw : ws.set q0 (a, .inl (E.2.1 t, n, .inr (.inr (.inr (.inr (va_up f j (some v))))))) = ws') (k : G K E nL ws' lv (pc + 1) st) : G K E nL ws lv pc (.ref v :: .int (nI j) :: .ref a :: st) := by
  subst hw
  intro H locs ls hP hD hS hl
  exact va_astq (D := E.1) hC.1 hC.2.1 hC.2.2.2.2.2.1 hP hD hS q0 t qk ci ha ht hv hc (vp_in_nI hj hn) hd (fun H1 l1 h1 h2 h3 => k H1 l1 ls (by rw [nI_clamp (Nat.lt_trans hj hn)] at h1; exact h1) (by rw [nI_clamp (Nat.lt_trans hj hn)] at h2; exact h2) h3 hl)
theorem g_aastO (hC : Cx K E cc nL own d) (q0 t qk ci : Nat) (ws' : va_W) {B : String} {a n v j : Nat} {r : vw_C} {vs : List Value} {f : Nat → Option Nat} (ha : ws[q0]? = some (a, .inl (E.2.1 t, n, .inr (.inr (.inr (.inr f)))))) (ht : (kT E)[t]? = some (E.2.1 t, .object B)) (hca : va_Nw (.castable r.1 B) (ks K)) (hv : ws[qk]? = some (v, .inr (ci, vs))) (hc : vwCl[ci]? = some r) (hj : j < n) (hn : n < 2147483648) (hd : decode cc pc = .ok (.aastore, 1)) (hw : ws.set q0 (a, .inl (E.2.1 t, n, .inr (.inr (.inr (.inr (va_up f j (some v))))))) = ws') (k : G K E nL ws' lv (pc + 1) st) : G K E nL ws lv pc (.ref v :: .int (nI j) :: .ref a :: st) := by
  subst hw
  intro H locs ls hP hD hS hl
  exact va_astqO (D := E.1) hC.1 hC.2.1 hC.2.2.2.2.2.1 hP hD hS q0 t qk ci ha ht hca hv hc (vp_in_nI hj hn) hd (fun H1 l1 h1 h2 h3 => k H1 l1 ls (by rw [nI_clamp (Nat.lt_trans hj hn)] at h1; exact h1) (by rw [nI_clamp (Nat.lt_trans hj hn)] at h2; exact h2) h3 hl)
theorem g_putF (hC : Cx K E cc nL own d) (hI : (kt K).name = "<init>") (q0 ci f : Nat) {a n v : Nat} {fs : List Value} {C : String} {T : u_T} (ws' : va_W) (ty : FieldType) {ty0 : Nat → FieldType} (hin : ∀ w ∈ u_ws C T n, w ∈ lw_G) (hty : ∀ k, k < n → parseFieldDescriptor (T k).2.2.1 = some (ty0 k)) (hnm : ∀ a, a < n → ∀ b, b < n → a ≠ b → (T a).2.1 ≠ (T b).2.1) (hm : Cond.fieldLink own index (T f).1 (T f).2.1 (T f).2.2.1 ∈ lw_G) (hd : decode cc pc = .ok (.putfield index, 3)) (he : ws[q0]? = some (a, .inr (ci, fs))) (hc : vwCl[ci]? = some (C, T, n)) (hf : f < n) (hfin : (T f).2.2.2 = true) (hdecl : (T f).1 = own) (hpd : parseFieldDescriptor (T f).2.2.1 = some ty) (hn : narrow ty (.ref v) = .ref v) (hfit : fits ty (.ref v) = true) (hl0 : f < fs.length) (hw : ws.set q0 (a, .inr (ci, fs.set f (.ref v))) = ws') (k : G K E nL ws' lv (pc + 3) st) : G K E nL ws lv pc (.ref v :: .ref a :: st) := by
  subst hw
  exact fun H locs ls hP hD hS hl => va_putF (D := E.1) hC.1 hC.2.1 hC.2.2.2.2.1 hin ty0 hty hnm hC.2.2.2.1 hC.2.2.2.2.2.1 hP hD hS q0 he hc f hf (hC.2.2.2.2.1 _ hm) (fun _ h => h) hfin hI hdecl hpd hn hfit hl0 hd (fun H1 l1 h1 h2 h3 => k H1 l1 ls h1 h2 h3 hl)
theorem g_objI (hC : Cx K E cc nL own d) {a : Nat} (hm : Cond.methodLink own index Lib.objectInit ∈ lw_G) (hd : decode cc pc = .ok (.invokespecial index, 3)) (hdd : 1 ≤ d) (hrest : (st.map fun v => v.category).sum ≤ 8) (k : G K E nL ws lv (pc + 3) st) : G K E nL ws lv pc (.ref a :: st) := by
  intro H locs ls hP hD hS hl
  have h8 := hC.2.2.2.2.2.2.2.2.1
  have h9 := hC.2.2.2.2.2.2.2.2.2.1
  refine W.objInit hC.1 hC.2.1 hC.2.2.2.1 (hC.2.2.2.2.1 _ hm) (hC.2.2.2.2.1 _ m1_28) (hC.2.2.2.2.1 _ m1_29) rfl (by rw [hC.2.2.1]; exact hl.1) rfl hd (Nat.le_trans hdd h8) ?_ ?_
  · show 2 * 0 + (st.map fun v => v.category).sum + 12 ≤ _
    omega
  · exact W.eq (g2 := F0 (km K) (pc + 3) ls st) rfl (k H locs ls hP hD hS hl)
theorem g_sel (is : List Nat) (ws' : va_W) (hs : is.map (fun i => ws[i]?) = ws'.map some) (hnd : va_nd is = true) (k : G K E nL ws' lv pc st) : G K E nL ws lv pc st := fun H locs ls hP hD hS hl => k H locs ls (wsel_P hP hs) (hD.sub is hnd hs) hS hl
theorem g_arrQ (q0 : Nat) (ws' : va_W) {a n : Nat} {cA : ClassId} {f : Nat → Option Nat} (g : Nat → Option Nat) (he : ws[q0]? = some (a, .inl (cA, n, .inr (.inr (.inr (.inr f)))))) (h : ∀ j, j < n → f j = g j) (hw : ws.set q0 (a, .inl (cA, n, .inr (.inr (.inr (.inr g))))) = ws') (k : G K E nL ws' lv pc st) : G K E nL ws lv pc st := by
  subst hw
  intro H locs ls hP hD hS hl
  refine k H locs ls ?_ (va_D_fst hD ?_) hS hl
  · intro i q hq
    rw [List.getElem?_set] at hq
    split at hq
    · split at hq
      · cases hq
        have h1 := hP q0 _ he
        show H[a]? = some (vp_cell cA (n, .inr (.inr (.inr (.inr g)))))
        have h2 : H[a]? = some (vp_cell cA (n, .inr (.inr (.inr (.inr f))))) := h1
        rw [h2, vp_cell_q, vp_cell_q, arrV_cong (fun j hj => by rw [h j hj])]
      · cases hq
    · exact hP i q hq
  · have hlt : q0 < ws.length := (List.getElem?_eq_some_iff.mp he).1
    apply List.ext_getElem?
    intro i
    rw [List.getElem?_map, List.getElem?_map, List.getElem?_set]
    by_cases hi : q0 = i
    · subst hi
      rw [if_pos rfl, if_pos hlt, he]
      rfl
    · rw [if_neg hi]
/-- the words of a constructor -/
def wdI (y : MethodName) (cc : ByteArray) (nL : Nat) : Prop := y.name = "<init>" ∧ Cond.instanceMethod y ∈ lw_G ∧ Cond.initialized y.cls ∈ lw_G ∧ Cond.code y cc nL none ∈ lw_G ∧ nL ≤ 21 ∧ wdD y 0
theorem g_afterI (hC : Cx (kS K c s) E cc nL own d) {y : MethodName} {mc ms : Nat} {Z : va_W → Prop} {H : Heap} {locs : List Loc} {ls : Array Slot} {a : Array Value} {st0 : List Value} (hr : va_Run (kp K) (kl K) (ke K) (kR K) (ks K) (km K) (ka K) (kb K) (kt K) (kc K) H locs c s mc ms (F0 (km K) pc ls st0) rest (FiQ E wc Z H.size a) (va_A wc H.size)) (hP : va_P E.1 vwCl ws H) (hD : va_D (kA K) ws) (hS : va_S (kA K) (ks K).heap H locs) (hl : lv_has ls nL lv) (isC isR : List Nat) (hsC : isC.map (fun i => ws[i]?) = wc.map some) (hsR : isR.map (fun i => ws[i]?) = wr.map some) (hnR : va_nd isR = true) (hdis : ∀ i ∈ isR, i ∉ isC) (k : ∀ w, Z w → G (kS K (c + mc) (s + ms)) E nL (wr ++ w) lv (pc + 3) rest) : W (kp K) (kl K) (ke K) (kR K) (ks K) (km K) (ka K) (kb K) (kt K) (kc K) H locs c s (kQ K) (F0 (km K) pc ls st0) := by
  have hFc := va_free hD hS hC.2.2.2.2.2.2.1 isC hsC
  refine va_callv hr hS (fun q _ h => hFc q h) hFc (fun w t H1 locs1 ht hvm hz hB hz1 hk1 hS1 => ?_)
  obtain ⟨hP1, hD1⟩ := hB
  rw [ht] at hP1
  obtain ⟨hP2, hD2⟩ := va_join hP hD isC isR hsC hsR hnR hdis hk1 hFc hP1 hD1
  exact k w hz H1 locs1 ls hP2 hD2 hS1 hl
theorem g_callI (hC : Cx (kS K c s) E cc nL own d) {y : MethodName} {b mc ms : Nat} {Z : va_W → Prop} (hF : Fi (kl K) E d' mc ms y cc' nL' [.ref b] wc Z) (hw : wdI y cc' nL') (hm : Cond.methodLink own index y ∈ lw_G) (hd : decode cc pc = .ok (.invokespecial index, 3)) (isC isR : List Nat) (wr : va_W) (hdd : d' + 1 ≤ d) (h1 : c + mc ≤ (kR K).cells) (h2 : s + ms ≤ (kR K).slots) (hrest : (rest.map fun v => v.category).sum ≤ 8) (hnC : va_nd isC = true) (hsC : isC.map (fun i => ws[i]?) = wc.map some) (hsR : isR.map (fun i => ws[i]?) = wr.map some) (hnR : va_nd isR = true) (hdis : ∀ i ∈ isR, i ∉ isC) (k : ∀ w, Z w → Cx (kS K (c + mc) (s + ms)) E cc nL own d → G (kS K (c + mc) (s + ms)) E nL (wr ++ w) lv (pc + 3) rest) : G (kS K c s) E nL ws lv pc (.ref b :: rest) := by
  intro H locs ls hP hD hS hl
  obtain ⟨w0, w1, w2, w3, w4, w5⟩ := hw
  have hrm : (rmi d' mc ms).frames + 1 ≤ (kR K).frames ∧ 8 + (nL' + 11) + (rmi d' mc ms).locals ≤ (kR K).locals := g_room (K := kS K c s) hC hdd w4
  have hpr := g_pre (K := kS K c s) (as := [.ref b]) hC hP hD hS hnC hsC
  exact g_afterI (y := y) hC (va_runI (As := []) (rest := rest) (g := F0 (km K) pc ls (.ref b :: rest)) (b := b) ⟨hC.1, hC.2.1, hC.2.2.1, hC.2.2.2.1, hC.2.2.2.2.1⟩ (hF H.size) (cwI 0 hC.2.2.2.2.1 (g_sub w3) rfl rfl rfl (hC.2.2.2.2.1 _ w2) (hC.2.2.2.2.1 _ hm) (hC.2.2.2.2.1 _ w1) w0 w5 hrm) ⟨g_blind, hpr⟩ rfl rfl hl.1 rfl (lv_room hrest) hd ⟨h1, h2⟩) hP hD hS hl isC isR hsC hsR hnR hdis (fun w hz => k w hz (Cx_S hC h1 h2))
theorem g_callIN (hC : Cx (kS K c s) E cc nL own d) {y : MethodName} {host : String} {b mc ms : Nat} {Z : va_W → Prop} (hF : Fi (kl K) E d' mc ms y cc' nL' [.ref b] wc Z) (hw : wdI y cc' nL') (hm : (own, index, y, host) ∈ nx_l) (hd : decode cc pc = .ok (.invokespecial index, 3)) (isC isR : List Nat) (wr : va_W) (hdd : d' + 1 ≤ d) (h1 : c + mc ≤ (kR K).cells) (h2 : s + ms ≤ (kR K).slots) (hrest : (rest.map fun v => v.category).sum ≤ 8) (hnC : va_nd isC = true) (hsC : isC.map (fun i => ws[i]?) = wc.map some) (hsR : isR.map (fun i => ws[i]?) = wr.map some) (hnR : va_nd isR = true) (hdis : ∀ i ∈ isR, i ∉ isC) (k : ∀ w, Z w → Cx (kS K (c + mc) (s + ms)) E cc nL own d → G (kS K (c + mc) (s + ms)) E nL (wr ++ w) lv (pc + 3) rest) : G (kS K c s) E nL ws lv pc (.ref b :: rest) := by
  intro H locs ls hP hD hS hl
  obtain ⟨w0, w1, w2, w3, w4, w5⟩ := hw
  have hrm : (rmi d' mc ms).frames + 1 ≤ (kR K).frames ∧ 8 + (nL' + 11) + (rmi d' mc ms).locals ≤ (kR K).locals := g_room (K := kS K c s) hC hdd w4
  have hpr := g_pre (K := kS K c s) (as := [.ref b]) hC hP hD hS hnC hsC
  exact g_afterI (y := y) hC (va_runIN (As := []) (rest := rest) (g := F0 (km K) pc ls (.ref b :: rest)) (b := b) ⟨hC.1, hC.2.1, hC.2.2.1, hC.2.2.2.1, hC.2.2.2.2.1⟩ (hF H.size) ⟨va_cnB (host := host) 0 hC.2.2.2.2.1 (g_sub w3) rfl rfl rfl (hC.2.2.2.2.2.2.2.1.1 _ hm) (hC.2.2.2.2.1 _ w2) w5 hrm, w0, hC.2.2.2.2.1 _ w1⟩ ⟨g_blind, hpr⟩ rfl rfl hl.1 rfl (lv_room hrest) hd ⟨h1, h2⟩) hP hD hS hl isC isR hsC hsR hnR hdis (fun w hz => k w hz (Cx_S hC h1 h2))
end NL
theorem fi_V {l : Launch} {E : Ew} {d mc ms : Nat} {y : MethodName} {cc : ByteArray} {nL : Nat} {as : List Value} {ws : va_W} {Z : va_W → Prop} (hy : plainName y.cls = true) (hyn : y.name = "<init>") (hnl : (lg_sl as).length ≤ nL) (body : ∀ K : Kx, Cx (kS K 0 0) E cc nL y.cls d → (kR K).cells = mc → (kR K).slots = ms → (kt K).name = "<init>" → (∀ (w : va_W) (lv : List (Nat × Value)) (pc : Nat), Z w → decode cc pc = .ok (.return_, 1) → G (kS K mc ms) E nL w lv pc []) → G (kS K 0 0) E nL ws (lv_args 0 as) 0 []) : Fi l E d mc ms y cc nL as ws Z := by
  refine fun sz => Met.ofW (cc := cc) (maxL := nL) (ret := none) hy rfl ?_
  intro p e s m args below meth c s₁ B hml hv
  obtain ⟨rfl, hsz, hP, hK, hD0, hE⟩ := hv
  subst hsz
  have hD := hD0.self (sz := s.heap.size)
  have hlocks := B.notSynchronized
  have hin : meth.name = y.name := (name_of_methodNamed B.named B.method).1
  have hC : Cx (p, l, e, rmi d mc ms, s, m, as.toArray, below, meth, c, va_A ws s.heap.size, 0, 0, MQ below (FiQ E ws Z s.heap.size) as.toArray s mc ms (va_A ws s.heap.size)) E cc nL y.cls d := ⟨B.exec, B.bytes, hml, findClass_of_methodNamed B.named, fun w hw => atoms_spec (ws := .code y cc nL none :: lw_G) B.pre w (List.mem_cons_of_mem _ hw), hK, fun q h => Or.inr h, hE, Nat.le_refl _, Nat.le_refl _, Nat.zero_le _, Nat.zero_le _⟩
  have h := body (p, l, e, rmi d mc ms, s, m, as.toArray, below, meth, c, va_A ws s.heap.size, 0, 0, MQ below (FiQ E ws Z s.heap.size) as.toArray s mc ms (va_A ws s.heap.size)) hC rfl rfl (hin.trans hyn) (fun w lv pc hz hd H locs ls hP hD hS hl => W.vret B.exec B.bytes B.returns (fun t ht hW => ⟨⟨w, rfl, hz, by rw [ht]; exact hP, hD⟩, hS.F ht⟩) hS.2.2 hd hlocks)
  rw [lg_entry_eq]
  exact h s.heap [] _ hP hD va_S.rf (lv_entry as hnl)
