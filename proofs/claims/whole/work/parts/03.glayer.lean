/-! ===== words ===== -/
def lw_G : List Cond := lw_tbl.filter goodWord
theorem lw_Gm {w : Cond} (h : w ∈ tables_1) (g : goodWord w = true) : w ∈ lw_G := List.mem_filter.mpr ⟨List.mem_append_right _ h, g⟩
theorem lw_t1 {w : Cond} (h : w ∈ tables_1_1) : w ∈ tables_1 := List.mem_append_left _ h
theorem lw_t2 {w : Cond} (h : w ∈ tables_1_2) : w ∈ tables_1 := List.mem_append_right _ (List.mem_append_left _ h)
theorem lw_t3 {w : Cond} (h : w ∈ tables_1_3) : w ∈ tables_1 := List.mem_append_right _ (List.mem_append_right _ (List.mem_append_left _ h))
theorem lw_t4 {w : Cond} (h : w ∈ tables_1_4) : w ∈ tables_1 := List.mem_append_right _ (List.mem_append_right _ (List.mem_append_right _ (List.mem_append_left _ h)))
theorem lw_t5 {w : Cond} (h : w ∈ tables_1_5) : w ∈ tables_1 := List.mem_append_right _ (List.mem_append_right _ (List.mem_append_right _ (List.mem_append_right _ h)))
theorem lw_s1 {w : Cond} {q : MethodName × Nat} (hq : q ∈ lw_privs) (e : w = Cond.selects q.1.cls q.1 q.1) (g : goodWord w = true) : w ∈ lw_G := List.mem_filter.mpr ⟨List.mem_append_left _ (List.mem_map.mpr ⟨q, hq, e.symm⟩), g⟩
def nx_l : List (String × Nat × MethodName × String) := [("LastCalled", 9, ⟨"LastCalled$Hamlet", "<init>", "()V"⟩, "LastCalled"), ("LastCalled", 29, ⟨"LastCalled$Text", "<init>", "()V"⟩, "LastCalled"), ("LastCalled", 36, ⟨"LastCalled$Fraction", "<init>", "()V"⟩, "LastCalled"), ("LastCalled", 43, ⟨"LastCalled$Hearing", "<init>", "()V"⟩, "LastCalled"), ("LastCalled$Hearing", 11, ⟨"LastCalled$Plain", "<init>", "()V"⟩, "LastCalled"), ("LastCalled$Hearing", 14, ⟨"LastCalled$Careful", "<init>", "()V"⟩, "LastCalled"), ("LastCalled$Careful", 1, ⟨"LastCalled$Plain", "<init>", "()V"⟩, "LastCalled"), ("LastCalled$Hearing", 17, ⟨"LastCalled$Deaf", "<init>", "()V"⟩, "LastCalled"), ("LastCalled$Deaf", 1, ⟨"LastCalled$Plain", "<init>", "()V"⟩, "LastCalled"), ("LastCalled$Hearing", 20, ⟨"LastCalled$Child", "<init>", "()V"⟩, "LastCalled"), ("LastCalled$Child", 1, ⟨"LastCalled$Plain", "<init>", "()V"⟩, "LastCalled"), ("LastCalled$Hearing", 23, ⟨"LastCalled$Sheep", "<init>", "()V"⟩, "LastCalled"), ("LastCalled$Sheep", 1, ⟨"LastCalled$Child", "<init>", "()V"⟩, "LastCalled"), ("LastCalled$Hearing", 26, ⟨"LastCalled$Cliff", "<init>", "()V"⟩, "LastCalled"), ("LastCalled$Cliff", 1, ⟨"LastCalled$Careful", "<init>", "()V"⟩, "LastCalled"), ("LastCalled", 50, ⟨"LastCalled$Search", "<init>", "()V"⟩, "LastCalled"), ("LastCalled$Hamlet", 65, ⟨"LastCalled", "within", "(II)Z"⟩, "LastCalled"), ("LastCalled$Hearing", 43, ⟨"LastCalled", "within", "(II)Z"⟩, "LastCalled"), ("LastCalled$Hamlet", 61, ⟨"LastCalled", "bit", "(II)I"⟩, "LastCalled"), ("LastCalled$Search", 48, ⟨"LastCalled", "bit", "(II)I"⟩, "LastCalled"), ("LastCalled$Search", 78, ⟨"LastCalled", "settle", "([III)V"⟩, "LastCalled"), ("LastCalled$Search", 52, ⟨"LastCalled", "owners", "([I)I"⟩, "LastCalled")]
def nx_U (U : State) : Prop := ∀ q ∈ nx_l, va_Nw (.methodLinkNest q.1 q.2.1 q.2.2.1 q.2.2.2) U
/-! ===== the world's constants: classes' numbers and slots, array classes, the literals' cells ===== -/
abbrev Ew : Type := va_G × (Nat → ClassId) × (Nat → Nat) × (Nat → Nat)
def kT (E : Ew) : List (ClassId × FieldType) := [(E.2.1 0, .int), (E.2.1 1, .byte), (E.2.1 2, .boolean), (E.2.1 3, .object "LastCalled$Hamlet"), (E.2.1 4, .object "LastCalled$Plain")]
def kL : List Nat := [6, 3, 5, 4]
def kB : List (List Int32) := [[104, 97, 109, 108, 101, 116], [111, 110, 101], [98, 101, 97, 114, 115], [110, 111, 110, 101]]
def kRs (E : Ew) (U : State) : Prop := vk_R "LastCalled$Text" 25 "hamlet" (E.2.2.1 0) U ∧ vk_R "LastCalled$Text" 51 "one" (E.2.2.1 1) U ∧ vk_R "LastCalled$Text" 59 "bears" (E.2.2.1 2) U ∧ vk_R "LastCalled$Text" 64 "none" (E.2.2.1 3) U
def kC : List String := ["LastCalled$Careful", "LastCalled$Deaf", "LastCalled$Child", "LastCalled$Sheep", "LastCalled$Cliff"]
def Ev (E : Ew) (A : Nat → Prop) (U : State) (H : Heap) : Prop := nx_U U ∧ kRs E U ∧ vk_S 4 kL kB E.2.2.1 E.2.2.2 A U H ∧ va_Z "java/lang/String" "COMPACT_STRINGS" "Z" (.int 1) A U H ∧ va_Zq "jdk/internal/util/Preconditions" "SIOOBE_FORMATTER" "Ljava/util/function/BiFunction;" A U H ∧ va_AO "LastCalled$Hamlet" U ∧ va_AO "LastCalled$Plain" U ∧ ∀ C ∈ kC, va_Nw (.castable C "LastCalled$Plain") U
theorem Ev_go {E : Ew} {A B : Nat → Prop} {s U : State} {H : Heap} (h : Ev E A s s.heap) (hW : s.WarmedH U.vm) (hk : ∀ q : Nat, q < s.heap.size → ¬ A q → H[q]? = s.heap[q]?) (hAB : ∀ q, B q → A q) : Ev E B U H := by
  obtain ⟨h1, ⟨r0, r1, r2, r3⟩, h3, h4, h5, h6, h7, h8⟩ := h
  exact ⟨fun q hq => va_Nw.warmM hW (h1 q hq), ⟨vk_R.warm hW r0, vk_R.warm hW r1, vk_R.warm hW r2, vk_R.warm hW r3⟩, ((h3.kept hk).moved hW.alike).narrow hAB, ((h4.kept hk).moved hW.alike).narrow hAB, ((h5.kept hk).moved hW.alike).narrow hAB, h6.moved hW.alike, h7.moved hW.alike, fun C hC => va_Nw.warmC hW (h8 C hC)⟩
theorem Ev_same {E : Ew} {A : Nat → Prop} {s U : State} {H : Heap} (h : Ev E A s H) (hv : U.vm = s.vm) : Ev E A U H := by
  obtain ⟨h1, ⟨r0, r1, r2, r3⟩, h3, h4, h5, h6, h7, h8⟩ := h
  have ha : s.vm.Alike U.vm := by rw [hv]; exact Vm.Alike.refl s.vm
  exact ⟨fun q hq => va_Nw.same rfl hv.symm (h1 q hq), ⟨vk_R.same hv r0, vk_R.same hv r1, vk_R.same hv r2, vk_R.same hv r3⟩, h3.moved ha, h4.moved ha, h5.moved ha, h6.moved ha, h7.moved ha, fun C hC => va_Nw.same rfl hv.symm (h8 C hC)⟩
/-! ===== contracts ===== -/
def FnP (E : Ew) (as : List Value) (ws : va_W) (sz : Nat) : Array Value → State → Prop := va_Pc as (fun U => U.heap.size = sz ∧ va_P E.1 vwCl ws U.heap ∧ va_K E.1 vwCl (kT E) U ∧ va_D (fun _ => True) ws ∧ Ev E (va_A ws sz) U U.heap)
def FnQ (E : Ew) (ws ws' : va_W) (v : Option Value) (sz : Nat) : Array Value → State → Outcome → State → Prop := fun _ st oc t => (oc = .returned v ∧ va_P E.1 vwCl ws' t.heap) ∧ va_F (va_A ws sz) st t
def rmd (d : Nat) : Room := { frames := d, cells := 0, slots := 0, locals := 40 * d }
/-- method y, called with 'as' where the world holds 'ws', returns v and leaves ws' -/
def Fn (l : Launch) (E : Ew) (d : Nat) (y : MethodName) (cc : ByteArray) (nL : Nat) (ret : Option FieldType) (as : List Value) (ws : va_W) (v : Option Value) (ws' : va_W) : Prop :=
  ws'.map Prod.fst = ws.map Prod.fst ∧ ∀ sz : Nat, Met l y (.code y cc nL ret :: lw_G) (rmd d) (FnP E as ws sz) (FnQ E ws ws' v sz) 0 0 (va_A ws sz)
abbrev Kx : Type := Program × Launch × Env × Room × State × MethodId × Array Value × List Frame × Method × Code × (Nat → Prop) × Nat × Nat × (State → Prop)
abbrev kp (K : Kx) := K.1
abbrev kl (K : Kx) := K.2.1
abbrev ke (K : Kx) := K.2.2.1
abbrev kR (K : Kx) := K.2.2.2.1
abbrev ks (K : Kx) := K.2.2.2.2.1
abbrev km (K : Kx) := K.2.2.2.2.2.1
abbrev ka (K : Kx) := K.2.2.2.2.2.2.1
abbrev kb (K : Kx) := K.2.2.2.2.2.2.2.1
abbrev kt (K : Kx) := K.2.2.2.2.2.2.2.2.1
abbrev kc (K : Kx) := K.2.2.2.2.2.2.2.2.2.1
abbrev kA (K : Kx) := K.2.2.2.2.2.2.2.2.2.2.1
abbrev kn (K : Kx) := K.2.2.2.2.2.2.2.2.2.2.2.1
abbrev ko (K : Kx) := K.2.2.2.2.2.2.2.2.2.2.2.2.1
abbrev kQ (K : Kx) := K.2.2.2.2.2.2.2.2.2.2.2.2.2
def G (K : Kx) (E : Ew) (nL : Nat) (ws : va_W) (lv : List (Nat × Value)) (pc : Nat) (st : List Value) : Prop :=
  ∀ (H : Heap) (locs : List Loc) (ls : Array Slot), va_P E.1 vwCl ws H → va_D (kA K) ws → va_S (kA K) (ks K).heap H locs → lv_has ls nL lv → W (kp K) (kl K) (ke K) (kR K) (ks K) (km K) (ka K) (kb K) (kt K) (kc K) H locs (kn K) (ko K) (kQ K) (F0 (km K) pc ls st)
def Cx (K : Kx) (E : Ew) (cc : ByteArray) (nL : Nat) (own : String) (d : Nat) : Prop :=
  (kp K).tables.exec = Jvm.exec ∧ (kc K).code = cc ∧ (kc K).maxLocals = nL ∧ (ks K).vm.findClass own = some (km K).cls ∧ (∀ w ∈ lw_G, w.before (ka K) (ks K) = true) ∧ va_K E.1 vwCl (kT E) (ks K) ∧ (∀ q, (ks K).heap.size ≤ q → kA K q) ∧ Ev E (kA K) (ks K) (ks K).heap ∧ d ≤ (kR K).frames ∧ 40 * d ≤ (kR K).locals ∧ kn K ≤ (kR K).cells ∧ ko K ≤ (kR K).slots
section GR
variable {K : Kx} {E : Ew} {cc : ByteArray} {nL d pc : Nat} {own : String} {ws : va_W} {lv : List (Nat × Value)} {st : List Value}
theorem g_val {v v' : Value} (h : v' = v) (k : G K E nL ws lv pc (v' :: st)) : G K E nL ws lv pc (v :: st) := h ▸ k
theorem g_ws {ws' : va_W} (h : ws' = ws) (k : G K E nL ws' lv pc st) : G K E nL ws lv pc st := h ▸ k
theorem g_lv {lv' : List (Nat × Value)} (ks : List Nat) (h : lv_pick lv ks = lv') (k : G K E nL ws lv' pc st) : G K E nL ws lv pc st := fun H locs ls hP hD hS hl => k H locs ls hP hD hS (lv_sub hl ks h)
theorem g_lve {lv' : List (Nat × Value)} (h : lv' = lv) (k : G K E nL ws lv' pc st) : G K E nL ws lv pc st := h ▸ k
theorem g_iconst (hC : Cx K E cc nL own d) {n : Int} {v : Int32} (hd : decode cc pc = .ok (.iconst n, 1)) (hv : Int32.ofInt n = v) (k : G K E nL ws lv (pc + 1) (.int v :: st)) : G K E nL ws lv pc (st) := fun H locs ls hP hD hS hl => lv_iconst hC.1 hC.2.1 hd hv (k H locs ls hP hD hS hl)
theorem g_bipush (hC : Cx K E cc nL own d) {n : Int} {v : Int32} (hd : decode cc pc = .ok (.bipush n, 2)) (hv : (Int8.ofInt n).toInt32 = v) (k : G K E nL ws lv (pc + 2) (.int v :: st)) : G K E nL ws lv pc (st) := fun H locs ls hP hD hS hl => lv_bipush hC.1 hC.2.1 hd hv (k H locs ls hP hD hS hl)
theorem g_sipush (hC : Cx K E cc nL own d) {n : Int} {v : Int32} (hd : decode cc pc = .ok (.sipush n, 3)) (hv : (Int16.ofInt n).toInt32 = v) (k : G K E nL ws lv (pc + 3) (.int v :: st)) : G K E nL ws lv pc (st) := fun H locs ls hP hD hS hl => lv_sipush hC.1 hC.2.1 hd hv (k H locs ls hP hD hS hl)
theorem g_lconst (hC : Cx K E cc nL own d) {n : Fin 2} {v : Int64} (hd : decode cc pc = .ok (.lconst n, 1)) (hv : Int64.ofNat (n : Nat) = v) (k : G K E nL ws lv (pc + 1) (.long v :: st)) : G K E nL ws lv pc (st) := fun H locs ls hP hD hS hl => lv_lconst hC.1 hC.2.1 hd hv (k H locs ls hP hD hS hl)
theorem g_ldc (hC : Cx K E cc nL own d) {v : Int32} {index : Nat} (hd : decode cc pc = .ok (.ldc index, 2)) (hm : Cond.constant own index v ∈ lw_G) (k : G K E nL ws lv (pc + 2) (.int v :: st)) : G K E nL ws lv pc (st) := fun H locs ls hP hD hS hl => lv_ldc hC.1 hC.2.1 hC.2.2.2.1 (hC.2.2.2.2.1 _ hm) hd (k H locs ls hP hD hS hl)
theorem g_ldc2 (hC : Cx K E cc nL own d) {v : Int64} {index : Nat} (hd : decode cc pc = .ok (.ldc2_w index, 3)) (hm : Cond.constantLong own index v ∈ lw_G) (k : G K E nL ws lv (pc + 3) (.long v :: st)) : G K E nL ws lv pc (st) := fun H locs ls hP hD hS hl => lv_ldc2 hC.1 hC.2.1 hC.2.2.2.1 (hC.2.2.2.2.1 _ hm) hd (k H locs ls hP hD hS hl)
theorem g_iload_n (hC : Cx K E cc nL own d) {j : Fin 4} {i : Nat} {x : Int32} (hd : decode cc pc = .ok (.iload_n j, 1)) (hj : (j : Nat) = i) (q : Nat) (hq : lv[q]? = some (i, .int x)) (k : G K E nL ws lv (pc + 1) (.int x :: st)) : G K E nL ws lv pc (st) := fun H locs ls hP hD hS hl => lv_iload_n hC.1 hC.2.1 hd hj (lv_at hl q hq) (k H locs ls hP hD hS hl)
theorem g_iload (hC : Cx K E cc nL own d) {i : Nat} {x : Int32} (hd : decode cc pc = .ok (.iload i, 2)) (q : Nat) (hq : lv[q]? = some (i, .int x)) (k : G K E nL ws lv (pc + 2) (.int x :: st)) : G K E nL ws lv pc (st) := fun H locs ls hP hD hS hl => lv_iload hC.1 hC.2.1 hd (lv_at hl q hq) (k H locs ls hP hD hS hl)
theorem g_istore_n (hC : Cx K E cc nL own d) {j : Fin 4} {i : Nat} {x : Int32} (lv' : List (Nat × Value)) (hd : decode cc pc = .ok (.istore_n j, 1)) (hj : (j : Nat) = i) (hn : i < nL) (hv : (i, .int x) :: lv.filter (fun q => !(q.1 == i) && !(q.1 + 1 == i && q.2.category == 2)) = lv') (k : G K E nL ws lv' (pc + 1) st) : G K E nL ws lv pc (.int x :: st) := fun H locs ls hP hD hS hl => lv_istore_n hC.1 hC.2.1 hd hj hl hn hv (fun ls' hl' => k H locs ls' hP hD hS hl')
theorem g_istore (hC : Cx K E cc nL own d) {i : Nat} {x : Int32} (lv' : List (Nat × Value)) (hd : decode cc pc = .ok (.istore i, 2)) (hn : i < nL) (hv : (i, .int x) :: lv.filter (fun q => !(q.1 == i) && !(q.1 + 1 == i && q.2.category == 2)) = lv') (k : G K E nL ws lv' (pc + 2) st) : G K E nL ws lv pc (.int x :: st) := fun H locs ls hP hD hS hl => lv_istore hC.1 hC.2.1 hd hl hn hv (fun ls' hl' => k H locs ls' hP hD hS hl')
theorem g_lload_n (hC : Cx K E cc nL own d) {j : Fin 4} {i : Nat} {x : Int64} (hd : decode cc pc = .ok (.lload_n j, 1)) (hj : (j : Nat) = i) (q : Nat) (hq : lv[q]? = some (i, .long x)) (k : G K E nL ws lv (pc + 1) (.long x :: st)) : G K E nL ws lv pc (st) := fun H locs ls hP hD hS hl => lv_lload_n hC.1 hC.2.1 hd hj (lv_at hl q hq) (k H locs ls hP hD hS hl)
theorem g_lload (hC : Cx K E cc nL own d) {i : Nat} {x : Int64} (hd : decode cc pc = .ok (.lload i, 2)) (q : Nat) (hq : lv[q]? = some (i, .long x)) (k : G K E nL ws lv (pc + 2) (.long x :: st)) : G K E nL ws lv pc (st) := fun H locs ls hP hD hS hl => lv_lload hC.1 hC.2.1 hd (lv_at hl q hq) (k H locs ls hP hD hS hl)
theorem g_lstore_n (hC : Cx K E cc nL own d) {j : Fin 4} {i : Nat} {x : Int64} (lv' : List (Nat × Value)) (hd : decode cc pc = .ok (.lstore_n j, 1)) (hj : (j : Nat) = i) (hn : i + 1 < nL) (hv : (i, .long x) :: lv.filter (fun q => !(q.1 == i) && (!(q.1 == i + 1) && !(q.1 + 1 == i && q.2.category == 2))) = lv') (k : G K E nL ws lv' (pc + 1) st) : G K E nL ws lv pc (.long x :: st) := fun H locs ls hP hD hS hl => lv_lstore_n hC.1 hC.2.1 hd hj hl hn hv (fun ls' hl' => k H locs ls' hP hD hS hl')
theorem g_lstore (hC : Cx K E cc nL own d) {i : Nat} {x : Int64} (lv' : List (Nat × Value)) (hd : decode cc pc = .ok (.lstore i, 2)) (hn : i + 1 < nL) (hv : (i, .long x) :: lv.filter (fun q => !(q.1 == i) && (!(q.1 == i + 1) && !(q.1 + 1 == i && q.2.category == 2))) = lv') (k : G K E nL ws lv' (pc + 2) st) : G K E nL ws lv pc (.long x :: st) := fun H locs ls hP hD hS hl => lv_lstore hC.1 hC.2.1 hd hl hn hv (fun ls' hl' => k H locs ls' hP hD hS hl')
theorem g_aload_n (hC : Cx K E cc nL own d) {j : Fin 4} {i : Nat} {x : Nat} (hd : decode cc pc = .ok (.aload_n j, 1)) (hj : (j : Nat) = i) (q : Nat) (hq : lv[q]? = some (i, .ref x)) (k : G K E nL ws lv (pc + 1) (.ref x :: st)) : G K E nL ws lv pc (st) := fun H locs ls hP hD hS hl => lv_aload_n hC.1 hC.2.1 hd hj (lv_at hl q hq) (k H locs ls hP hD hS hl)
theorem g_aload (hC : Cx K E cc nL own d) {i : Nat} {x : Nat} (hd : decode cc pc = .ok (.aload i, 2)) (q : Nat) (hq : lv[q]? = some (i, .ref x)) (k : G K E nL ws lv (pc + 2) (.ref x :: st)) : G K E nL ws lv pc (st) := fun H locs ls hP hD hS hl => lv_aload hC.1 hC.2.1 hd (lv_at hl q hq) (k H locs ls hP hD hS hl)
theorem g_astore_n (hC : Cx K E cc nL own d) {j : Fin 4} {i : Nat} {x : Nat} (lv' : List (Nat × Value)) (hd : decode cc pc = .ok (.astore_n j, 1)) (hj : (j : Nat) = i) (hn : i < nL) (hv : (i, .ref x) :: lv.filter (fun q => !(q.1 == i) && !(q.1 + 1 == i && q.2.category == 2)) = lv') (k : G K E nL ws lv' (pc + 1) st) : G K E nL ws lv pc (.ref x :: st) := fun H locs ls hP hD hS hl => lv_astore_n hC.1 hC.2.1 hd hj hl hn hv (fun ls' hl' => k H locs ls' hP hD hS hl')
theorem g_astore (hC : Cx K E cc nL own d) {i : Nat} {x : Nat} (lv' : List (Nat × Value)) (hd : decode cc pc = .ok (.astore i, 2)) (hn : i < nL) (hv : (i, .ref x) :: lv.filter (fun q => !(q.1 == i) && !(q.1 + 1 == i && q.2.category == 2)) = lv') (k : G K E nL ws lv' (pc + 2) st) : G K E nL ws lv pc (.ref x :: st) := fun H locs ls hP hD hS hl => lv_astore hC.1 hC.2.1 hd hl hn hv (fun ls' hl' => k H locs ls' hP hD hS hl')
theorem g_iinc (hC : Cx K E cc nL own d) {i q : Nat} {n : Int} {x v : Int32} (lv' : List (Nat × Value)) (hd : decode cc pc = .ok (.iinc i n, 3)) (hq : lv[q]? = some (i, .int x)) (hv : x + Int32.ofInt n = v) (hn : i < nL) (hl' : (i, Value.int v) :: lv.filter (fun q => !(q.1 == i) && !(q.1 + 1 == i && q.2.category == 2)) = lv') (k : G K E nL ws lv' (pc + 3) st) : G K E nL ws lv pc st := fun H locs ls hP hD hS hl => lv_iinc hC.1 hC.2.1 hd hl hq hv hn hl' (fun ls' h => k H locs ls' hP hD hS h)
theorem g_iadd (hC : Cx K E cc nL own d) {x y : Int32} (hd : decode cc pc = .ok (.iadd, 1)) (k : G K E nL ws lv (pc + 1) (.int (x + y) :: st)) : G K E nL ws lv pc (.int y :: .int x :: st) := fun H locs ls hP hD hS hl => lv_iadd hC.1 hC.2.1 hd (k H locs ls hP hD hS hl)
theorem g_isub (hC : Cx K E cc nL own d) {x y : Int32} (hd : decode cc pc = .ok (.isub, 1)) (k : G K E nL ws lv (pc + 1) (.int (x - y) :: st)) : G K E nL ws lv pc (.int y :: .int x :: st) := fun H locs ls hP hD hS hl => lv_isub hC.1 hC.2.1 hd (k H locs ls hP hD hS hl)
theorem g_imul (hC : Cx K E cc nL own d) {x y : Int32} (hd : decode cc pc = .ok (.imul, 1)) (k : G K E nL ws lv (pc + 1) (.int (x * y) :: st)) : G K E nL ws lv pc (.int y :: .int x :: st) := fun H locs ls hP hD hS hl => lv_imul hC.1 hC.2.1 hd (k H locs ls hP hD hS hl)
theorem g_iand (hC : Cx K E cc nL own d) {x y : Int32} (hd : decode cc pc = .ok (.iand, 1)) (k : G K E nL ws lv (pc + 1) (.int (x &&& y) :: st)) : G K E nL ws lv pc (.int y :: .int x :: st) := fun H locs ls hP hD hS hl => lv_iand hC.1 hC.2.1 hd (k H locs ls hP hD hS hl)
theorem g_ior (hC : Cx K E cc nL own d) {x y : Int32} (hd : decode cc pc = .ok (.ior, 1)) (k : G K E nL ws lv (pc + 1) (.int (x ||| y) :: st)) : G K E nL ws lv pc (.int y :: .int x :: st) := fun H locs ls hP hD hS hl => lv_ior hC.1 hC.2.1 hd (k H locs ls hP hD hS hl)
theorem g_ixor (hC : Cx K E cc nL own d) {x y : Int32} (hd : decode cc pc = .ok (.ixor, 1)) (k : G K E nL ws lv (pc + 1) (.int (x ^^^ y) :: st)) : G K E nL ws lv pc (.int y :: .int x :: st) := fun H locs ls hP hD hS hl => lv_ixor hC.1 hC.2.1 hd (k H locs ls hP hD hS hl)
theorem g_ishl (hC : Cx K E cc nL own d) {x y : Int32} (hd : decode cc pc = .ok (.ishl, 1)) (k : G K E nL ws lv (pc + 1) (.int (x <<< (y &&& 31)) :: st)) : G K E nL ws lv pc (.int y :: .int x :: st) := fun H locs ls hP hD hS hl => lv_ishl hC.1 hC.2.1 hd (k H locs ls hP hD hS hl)
theorem g_ishr (hC : Cx K E cc nL own d) {x y : Int32} (hd : decode cc pc = .ok (.ishr, 1)) (k : G K E nL ws lv (pc + 1) (.int (x >>> (y &&& 31)) :: st)) : G K E nL ws lv pc (.int y :: .int x :: st) := fun H locs ls hP hD hS hl => lv_ishr hC.1 hC.2.1 hd (k H locs ls hP hD hS hl)
theorem g_idiv (hC : Cx K E cc nL own d) {x y : Int32} (hd : decode cc pc = .ok (.idiv, 1)) (hne : ¬ y = 0) (k : G K E nL ws lv (pc + 1) (.int (x / y) :: st)) : G K E nL ws lv pc (.int y :: .int x :: st) := fun H locs ls hP hD hS hl => lv_idiv hC.1 hC.2.1 hd hne (k H locs ls hP hD hS hl)
theorem g_irem (hC : Cx K E cc nL own d) {x y : Int32} (hd : decode cc pc = .ok (.irem, 1)) (hne : ¬ y = 0) (k : G K E nL ws lv (pc + 1) (.int (x - x / y * y) :: st)) : G K E nL ws lv pc (.int y :: .int x :: st) := fun H locs ls hP hD hS hl => lv_irem hC.1 hC.2.1 hd hne (k H locs ls hP hD hS hl)
theorem g_ladd (hC : Cx K E cc nL own d) {x y : Int64} (hd : decode cc pc = .ok (.ladd, 1)) (k : G K E nL ws lv (pc + 1) (.long (x + y) :: st)) : G K E nL ws lv pc (.long y :: .long x :: st) := fun H locs ls hP hD hS hl => lv_ladd hC.1 hC.2.1 hd (k H locs ls hP hD hS hl)
theorem g_lsub (hC : Cx K E cc nL own d) {x y : Int64} (hd : decode cc pc = .ok (.lsub, 1)) (k : G K E nL ws lv (pc + 1) (.long (x - y) :: st)) : G K E nL ws lv pc (.long y :: .long x :: st) := fun H locs ls hP hD hS hl => lv_lsub hC.1 hC.2.1 hd (k H locs ls hP hD hS hl)
theorem g_lmul (hC : Cx K E cc nL own d) {x y : Int64} (hd : decode cc pc = .ok (.lmul, 1)) (k : G K E nL ws lv (pc + 1) (.long (x * y) :: st)) : G K E nL ws lv pc (.long y :: .long x :: st) := fun H locs ls hP hD hS hl => lv_lmul hC.1 hC.2.1 hd (k H locs ls hP hD hS hl)
theorem g_ldiv (hC : Cx K E cc nL own d) {x y : Int64} (hd : decode cc pc = .ok (.ldiv, 1)) (hne : ¬ y = 0) (k : G K E nL ws lv (pc + 1) (.long (x / y) :: st)) : G K E nL ws lv pc (.long y :: .long x :: st) := fun H locs ls hP hD hS hl => lv_ldiv hC.1 hC.2.1 hd hne (k H locs ls hP hD hS hl)
theorem g_lrem (hC : Cx K E cc nL own d) {x y : Int64} (hd : decode cc pc = .ok (.lrem, 1)) (hne : ¬ y = 0) (k : G K E nL ws lv (pc + 1) (.long (x - x / y * y) :: st)) : G K E nL ws lv pc (.long y :: .long x :: st) := fun H locs ls hP hD hS hl => lv_lrem hC.1 hC.2.1 hd hne (k H locs ls hP hD hS hl)
theorem g_ineg (hC : Cx K E cc nL own d) {x : Int32} (hd : decode cc pc = .ok (.ineg, 1)) (k : G K E nL ws lv (pc + 1) (.int (-x) :: st)) : G K E nL ws lv pc (.int x :: st) := fun H locs ls hP hD hS hl => lv_ineg hC.1 hC.2.1 hd (k H locs ls hP hD hS hl)
theorem g_i2l (hC : Cx K E cc nL own d) {x : Int32} (hd : decode cc pc = .ok (.i2l, 1)) (k : G K E nL ws lv (pc + 1) (.long x.toInt64 :: st)) : G K E nL ws lv pc (.int x :: st) := fun H locs ls hP hD hS hl => lv_i2l hC.1 hC.2.1 hd rfl (k H locs ls hP hD hS hl)
theorem g_l2i (hC : Cx K E cc nL own d) {x : Int64} (hd : decode cc pc = .ok (.l2i, 1)) (k : G K E nL ws lv (pc + 1) (.int x.toInt32 :: st)) : G K E nL ws lv pc (.long x :: st) := fun H locs ls hP hD hS hl => lv_l2i hC.1 hC.2.1 hd rfl (k H locs ls hP hD hS hl)
theorem g_i2b (hC : Cx K E cc nL own d) {x : Int32} (hd : decode cc pc = .ok (.i2b, 1)) (k : G K E nL ws lv (pc + 1) (.int x.toInt8.toInt32 :: st)) : G K E nL ws lv pc (.int x :: st) := fun H locs ls hP hD hS hl => lv_i2b hC.1 hC.2.1 hd rfl (k H locs ls hP hD hS hl)
theorem g_i2c (hC : Cx K E cc nL own d) {x : Int32} (hd : decode cc pc = .ok (.i2c, 1)) (k : G K E nL ws lv (pc + 1) (.int (x.toUInt32 % 65536).toInt32 :: st)) : G K E nL ws lv pc (.int x :: st) := fun H locs ls hP hD hS hl => lv_i2c hC.1 hC.2.1 hd rfl (k H locs ls hP hD hS hl)
theorem g_iushr (hC : Cx K E cc nL own d) {x y : Int32} (hd : decode cc pc = .ok (.iushr, 1)) (k : G K E nL ws lv (pc + 1) (.int (x.toUInt32 >>> (y.toUInt32 &&& Int32.toUInt32 31)).toInt32 :: st)) : G K E nL ws lv pc (.int y :: .int x :: st) := fun H locs ls hP hD hS hl => lv_iushr hC.1 hC.2.1 hd rfl (k H locs ls hP hD hS hl)
theorem g_lcmp (hC : Cx K E cc nL own d) {x y : Int64} (hd : decode cc pc = .ok (.lcmp, 1)) (k : G K E nL ws lv (pc + 1) (.int (lg_cmp x y) :: st)) : G K E nL ws lv pc (.long y :: .long x :: st) := fun H locs ls hP hD hS hl => W.lcmp hC.1 hC.2.1 hd (k H locs ls hP hD hS hl)
theorem g_dup (hC : Cx K E cc nL own d) {a : Value} (hd : decode cc pc = .ok (.dup, 1)) (ha : a.category = 1) (k : G K E nL ws lv (pc + 1) (a :: a :: st)) : G K E nL ws lv pc (a :: st) := fun H locs ls hP hD hS hl => lv_dup hC.1 hC.2.1 hd ha (k H locs ls hP hD hS hl)
theorem g_pop (hC : Cx K E cc nL own d) {a : Value} (hd : decode cc pc = .ok (.pop, 1)) (ha : a.category = 1) (k : G K E nL ws lv (pc + 1) (st)) : G K E nL ws lv pc (a :: st) := fun H locs ls hP hD hS hl => lv_pop hC.1 hC.2.1 hd ha (k H locs ls hP hD hS hl)
theorem g_dup2 (hC : Cx K E cc nL own d) {a b : Value} (hd : decode cc pc = .ok (.dup2, 1)) (ha : a.category = 1) (hb : b.category = 1) (k : G K E nL ws lv (pc + 1) (a :: b :: a :: b :: st)) : G K E nL ws lv pc (a :: b :: st) := fun H locs ls hP hD hS hl => lv_dup2_11 hC.1 hC.2.1 hd ha hb (k H locs ls hP hD hS hl)
theorem g_if_eq (hC : Cx K E cc nL own d) {x : Int32} {off : Int} {tgt : Nat} (hd : decode cc pc = .ok (.ifCond .eq off, 3)) (ht : (pc : Int) + off = (tgt : Int)) (kt : x = 0 → G K E nL ws lv tgt st) (kf : ¬ x = 0 → G K E nL ws lv (pc + 3) st) : G K E nL ws lv pc (.int x :: st) := fun H locs ls hP hD hS hl => lv_if_eq hC.1 hC.2.1 hd ht (fun h => kt h H locs ls hP hD hS hl) (fun h => kf h H locs ls hP hD hS hl)
theorem g_icmp_eq (hC : Cx K E cc nL own d) {x y : Int32} {off : Int} {tgt : Nat} (hd : decode cc pc = .ok (.if_icmp .eq off, 3)) (ht : (pc : Int) + off = (tgt : Int)) (kt : x = y → G K E nL ws lv tgt st) (kf : ¬ x = y → G K E nL ws lv (pc + 3) st) : G K E nL ws lv pc (.int y :: .int x :: st) := fun H locs ls hP hD hS hl => lv_icmp_eq hC.1 hC.2.1 hd ht (fun h => kt h H locs ls hP hD hS hl) (fun h => kf h H locs ls hP hD hS hl)
theorem g_if_ne (hC : Cx K E cc nL own d) {x : Int32} {off : Int} {tgt : Nat} (hd : decode cc pc = .ok (.ifCond .ne off, 3)) (ht : (pc : Int) + off = (tgt : Int)) (kt : ¬ x = 0 → G K E nL ws lv tgt st) (kf : x = 0 → G K E nL ws lv (pc + 3) st) : G K E nL ws lv pc (.int x :: st) := fun H locs ls hP hD hS hl => lv_if_ne hC.1 hC.2.1 hd ht (fun h => kt h H locs ls hP hD hS hl) (fun h => kf h H locs ls hP hD hS hl)
theorem g_icmp_ne (hC : Cx K E cc nL own d) {x y : Int32} {off : Int} {tgt : Nat} (hd : decode cc pc = .ok (.if_icmp .ne off, 3)) (ht : (pc : Int) + off = (tgt : Int)) (kt : ¬ x = y → G K E nL ws lv tgt st) (kf : x = y → G K E nL ws lv (pc + 3) st) : G K E nL ws lv pc (.int y :: .int x :: st) := fun H locs ls hP hD hS hl => lv_icmp_ne hC.1 hC.2.1 hd ht (fun h => kt h H locs ls hP hD hS hl) (fun h => kf h H locs ls hP hD hS hl)
theorem g_if_lt (hC : Cx K E cc nL own d) {x : Int32} {off : Int} {tgt : Nat} (hd : decode cc pc = .ok (.ifCond .lt off, 3)) (ht : (pc : Int) + off = (tgt : Int)) (kt : x < 0 → G K E nL ws lv tgt st) (kf : ¬ x < 0 → G K E nL ws lv (pc + 3) st) : G K E nL ws lv pc (.int x :: st) := fun H locs ls hP hD hS hl => lv_if_lt hC.1 hC.2.1 hd ht (fun h => kt h H locs ls hP hD hS hl) (fun h => kf h H locs ls hP hD hS hl)
theorem g_icmp_lt (hC : Cx K E cc nL own d) {x y : Int32} {off : Int} {tgt : Nat} (hd : decode cc pc = .ok (.if_icmp .lt off, 3)) (ht : (pc : Int) + off = (tgt : Int)) (kt : x < y → G K E nL ws lv tgt st) (kf : ¬ x < y → G K E nL ws lv (pc + 3) st) : G K E nL ws lv pc (.int y :: .int x :: st) := fun H locs ls hP hD hS hl => lv_icmp_lt hC.1 hC.2.1 hd ht (fun h => kt h H locs ls hP hD hS hl) (fun h => kf h H locs ls hP hD hS hl)
theorem g_if_ge (hC : Cx K E cc nL own d) {x : Int32} {off : Int} {tgt : Nat} (hd : decode cc pc = .ok (.ifCond .ge off, 3)) (ht : (pc : Int) + off = (tgt : Int)) (kt : 0 ≤ x → G K E nL ws lv tgt st) (kf : ¬ 0 ≤ x → G K E nL ws lv (pc + 3) st) : G K E nL ws lv pc (.int x :: st) := fun H locs ls hP hD hS hl => lv_if_ge hC.1 hC.2.1 hd ht (fun h => kt h H locs ls hP hD hS hl) (fun h => kf h H locs ls hP hD hS hl)
theorem g_icmp_ge (hC : Cx K E cc nL own d) {x y : Int32} {off : Int} {tgt : Nat} (hd : decode cc pc = .ok (.if_icmp .ge off, 3)) (ht : (pc : Int) + off = (tgt : Int)) (kt : y ≤ x → G K E nL ws lv tgt st) (kf : ¬ y ≤ x → G K E nL ws lv (pc + 3) st) : G K E nL ws lv pc (.int y :: .int x :: st) := fun H locs ls hP hD hS hl => lv_icmp_ge hC.1 hC.2.1 hd ht (fun h => kt h H locs ls hP hD hS hl) (fun h => kf h H locs ls hP hD hS hl)
theorem g_if_gt (hC : Cx K E cc nL own d) {x : Int32} {off : Int} {tgt : Nat} (hd : decode cc pc = .ok (.ifCond .gt off, 3)) (ht : (pc : Int) + off = (tgt : Int)) (kt : 0 < x → G K E nL ws lv tgt st) (kf : ¬ 0 < x → G K E nL ws lv (pc + 3) st) : G K E nL ws lv pc (.int x :: st) := fun H locs ls hP hD hS hl => lv_if_gt hC.1 hC.2.1 hd ht (fun h => kt h H locs ls hP hD hS hl) (fun h => kf h H locs ls hP hD hS hl)
theorem g_icmp_gt (hC : Cx K E cc nL own d) {x y : Int32} {off : Int} {tgt : Nat} (hd : decode cc pc = .ok (.if_icmp .gt off, 3)) (ht : (pc : Int) + off = (tgt : Int)) (kt : y < x → G K E nL ws lv tgt st) (kf : ¬ y < x → G K E nL ws lv (pc + 3) st) : G K E nL ws lv pc (.int y :: .int x :: st) := fun H locs ls hP hD hS hl => lv_icmp_gt hC.1 hC.2.1 hd ht (fun h => kt h H locs ls hP hD hS hl) (fun h => kf h H locs ls hP hD hS hl)
theorem g_if_le (hC : Cx K E cc nL own d) {x : Int32} {off : Int} {tgt : Nat} (hd : decode cc pc = .ok (.ifCond .le off, 3)) (ht : (pc : Int) + off = (tgt : Int)) (kt : x ≤ 0 → G K E nL ws lv tgt st) (kf : ¬ x ≤ 0 → G K E nL ws lv (pc + 3) st) : G K E nL ws lv pc (.int x :: st) := fun H locs ls hP hD hS hl => lv_if_le hC.1 hC.2.1 hd ht (fun h => kt h H locs ls hP hD hS hl) (fun h => kf h H locs ls hP hD hS hl)
theorem g_icmp_le (hC : Cx K E cc nL own d) {x y : Int32} {off : Int} {tgt : Nat} (hd : decode cc pc = .ok (.if_icmp .le off, 3)) (ht : (pc : Int) + off = (tgt : Int)) (kt : x ≤ y → G K E nL ws lv tgt st) (kf : ¬ x ≤ y → G K E nL ws lv (pc + 3) st) : G K E nL ws lv pc (.int y :: .int x :: st) := fun H locs ls hP hD hS hl => lv_icmp_le hC.1 hC.2.1 hd ht (fun h => kt h H locs ls hP hD hS hl) (fun h => kf h H locs ls hP hD hS hl)
theorem g_icmp_eqN (hC : Cx K E cc nL own d) {a b : Nat} {off : Int} {tgt : Nat} (hd : decode cc pc = .ok (.if_icmp .eq off, 3)) (ht : (pc : Int) + off = (tgt : Int)) (ha : a < 2147483648) (hb : b < 2147483648) (kt : a = b → G K E nL ws lv tgt st) (kf : a ≠ b → G K E nL ws lv (pc + 3) st) : G K E nL ws lv pc (.int (nI b) :: .int (nI a) :: st) := g_icmp_eq hC hd ht (fun h => kt (by have := (nI_eq ha hb).mp h; omega)) (fun h => kf (by have := mt (nI_eq ha hb).mpr h; omega))
theorem g_if_eqN (hC : Cx K E cc nL own d) {a : Nat} {off : Int} {tgt : Nat} (hd : decode cc pc = .ok (.ifCond .eq off, 3)) (ht : (pc : Int) + off = (tgt : Int)) (ha : a < 2147483648) (kt : a = 0 → G K E nL ws lv tgt st) (kf : a ≠ 0 → G K E nL ws lv (pc + 3) st) : G K E nL ws lv pc (.int (nI a) :: st) := by
  have hb : (0 : Nat) < 2147483648 := by decide
  exact g_if_eq hC hd ht (fun h => kt (by have := (nI_eq ha hb).mp h; omega)) (fun h => kf (by have := mt (nI_eq ha hb).mpr h; omega))
theorem g_icmp_neN (hC : Cx K E cc nL own d) {a b : Nat} {off : Int} {tgt : Nat} (hd : decode cc pc = .ok (.if_icmp .ne off, 3)) (ht : (pc : Int) + off = (tgt : Int)) (ha : a < 2147483648) (hb : b < 2147483648) (kt : a ≠ b → G K E nL ws lv tgt st) (kf : a = b → G K E nL ws lv (pc + 3) st) : G K E nL ws lv pc (.int (nI b) :: .int (nI a) :: st) := g_icmp_ne hC hd ht (fun h => kt (by have := (not_congr (nI_eq ha hb)).mp h; omega)) (fun h => kf (by have := mt (not_congr (nI_eq ha hb)).mpr (fun q => q h); omega))
theorem g_if_neN (hC : Cx K E cc nL own d) {a : Nat} {off : Int} {tgt : Nat} (hd : decode cc pc = .ok (.ifCond .ne off, 3)) (ht : (pc : Int) + off = (tgt : Int)) (ha : a < 2147483648) (kt : a ≠ 0 → G K E nL ws lv tgt st) (kf : a = 0 → G K E nL ws lv (pc + 3) st) : G K E nL ws lv pc (.int (nI a) :: st) := by
  have hb : (0 : Nat) < 2147483648 := by decide
  exact g_if_ne hC hd ht (fun h => kt (by have := (not_congr (nI_eq ha hb)).mp h; omega)) (fun h => kf (by have := mt (not_congr (nI_eq ha hb)).mpr (fun q => q h); omega))
theorem g_icmp_ltN (hC : Cx K E cc nL own d) {a b : Nat} {off : Int} {tgt : Nat} (hd : decode cc pc = .ok (.if_icmp .lt off, 3)) (ht : (pc : Int) + off = (tgt : Int)) (ha : a < 2147483648) (hb : b < 2147483648) (kt : a < b → G K E nL ws lv tgt st) (kf : b ≤ a → G K E nL ws lv (pc + 3) st) : G K E nL ws lv pc (.int (nI b) :: .int (nI a) :: st) := g_icmp_lt hC hd ht (fun h => kt (by have := (nI_ltI ha hb).mp h; omega)) (fun h => kf (by have := mt (nI_ltI ha hb).mpr h; omega))
theorem g_if_ltN (hC : Cx K E cc nL own d) {a : Nat} {off : Int} {tgt : Nat} (hd : decode cc pc = .ok (.ifCond .lt off, 3)) (ht : (pc : Int) + off = (tgt : Int)) (ha : a < 2147483648) (kt : a < 0 → G K E nL ws lv tgt st) (kf : 0 ≤ a → G K E nL ws lv (pc + 3) st) : G K E nL ws lv pc (.int (nI a) :: st) := by
  have hb : (0 : Nat) < 2147483648 := by decide
  exact g_if_lt hC hd ht (fun h => kt (by have := (nI_ltI ha hb).mp h; omega)) (fun h => kf (by have := mt (nI_ltI ha hb).mpr h; omega))
theorem g_icmp_geN (hC : Cx K E cc nL own d) {a b : Nat} {off : Int} {tgt : Nat} (hd : decode cc pc = .ok (.if_icmp .ge off, 3)) (ht : (pc : Int) + off = (tgt : Int)) (ha : a < 2147483648) (hb : b < 2147483648) (kt : b ≤ a → G K E nL ws lv tgt st) (kf : a < b → G K E nL ws lv (pc + 3) st) : G K E nL ws lv pc (.int (nI b) :: .int (nI a) :: st) := g_icmp_ge hC hd ht (fun h => kt (by have := (nI_leI hb ha).mp h; omega)) (fun h => kf (by have := mt (nI_leI hb ha).mpr h; omega))
theorem g_if_geN (hC : Cx K E cc nL own d) {a : Nat} {off : Int} {tgt : Nat} (hd : decode cc pc = .ok (.ifCond .ge off, 3)) (ht : (pc : Int) + off = (tgt : Int)) (ha : a < 2147483648) (kt : 0 ≤ a → G K E nL ws lv tgt st) (kf : a < 0 → G K E nL ws lv (pc + 3) st) : G K E nL ws lv pc (.int (nI a) :: st) := by
  have hb : (0 : Nat) < 2147483648 := by decide
  exact g_if_ge hC hd ht (fun h => kt (by have := (nI_leI hb ha).mp h; omega)) (fun h => kf (by have := mt (nI_leI hb ha).mpr h; omega))
theorem g_icmp_gtN (hC : Cx K E cc nL own d) {a b : Nat} {off : Int} {tgt : Nat} (hd : decode cc pc = .ok (.if_icmp .gt off, 3)) (ht : (pc : Int) + off = (tgt : Int)) (ha : a < 2147483648) (hb : b < 2147483648) (kt : b < a → G K E nL ws lv tgt st) (kf : a ≤ b → G K E nL ws lv (pc + 3) st) : G K E nL ws lv pc (.int (nI b) :: .int (nI a) :: st) := g_icmp_gt hC hd ht (fun h => kt (by have := (nI_ltI hb ha).mp h; omega)) (fun h => kf (by have := mt (nI_ltI hb ha).mpr h; omega))
theorem g_if_gtN (hC : Cx K E cc nL own d) {a : Nat} {off : Int} {tgt : Nat} (hd : decode cc pc = .ok (.ifCond .gt off, 3)) (ht : (pc : Int) + off = (tgt : Int)) (ha : a < 2147483648) (kt : 0 < a → G K E nL ws lv tgt st) (kf : a ≤ 0 → G K E nL ws lv (pc + 3) st) : G K E nL ws lv pc (.int (nI a) :: st) := by
  have hb : (0 : Nat) < 2147483648 := by decide
  exact g_if_gt hC hd ht (fun h => kt (by have := (nI_ltI hb ha).mp h; omega)) (fun h => kf (by have := mt (nI_ltI hb ha).mpr h; omega))
theorem g_icmp_leN (hC : Cx K E cc nL own d) {a b : Nat} {off : Int} {tgt : Nat} (hd : decode cc pc = .ok (.if_icmp .le off, 3)) (ht : (pc : Int) + off = (tgt : Int)) (ha : a < 2147483648) (hb : b < 2147483648) (kt : a ≤ b → G K E nL ws lv tgt st) (kf : b < a → G K E nL ws lv (pc + 3) st) : G K E nL ws lv pc (.int (nI b) :: .int (nI a) :: st) := g_icmp_le hC hd ht (fun h => kt (by have := (nI_leI ha hb).mp h; omega)) (fun h => kf (by have := mt (nI_leI ha hb).mpr h; omega))
theorem g_if_leN (hC : Cx K E cc nL own d) {a : Nat} {off : Int} {tgt : Nat} (hd : decode cc pc = .ok (.ifCond .le off, 3)) (ht : (pc : Int) + off = (tgt : Int)) (ha : a < 2147483648) (kt : a ≤ 0 → G K E nL ws lv tgt st) (kf : 0 < a → G K E nL ws lv (pc + 3) st) : G K E nL ws lv pc (.int (nI a) :: st) := by
  have hb : (0 : Nat) < 2147483648 := by decide
  exact g_if_le hC hd ht (fun h => kt (by have := (nI_leI ha hb).mp h; omega)) (fun h => kf (by have := mt (nI_leI ha hb).mpr h; omega))
theorem g_goto (hC : Cx K E cc nL own d) {off : Int} {tgt : Nat} (hd : decode cc pc = .ok (.goto off, 3)) (ht : (pc : Int) + off = (tgt : Int)) (k : G K E nL ws lv tgt st) : G K E nL ws lv pc st := fun H locs ls hP hD hS hl => lv_goto hC.1 hC.2.1 hd ht (k H locs ls hP hD hS hl)
theorem g_tabOut (hC : Cx K E cc nL own d) {dflt lo hi : Int} {offs : Array Int} {len : Nat} {x : Int32} {tgt : Nat} (hd : decode cc pc = .ok (.tableswitch dflt lo hi offs, len)) (h : x.toInt < lo ∨ hi < x.toInt) (ht : (pc : Int) + dflt = (tgt : Int)) (k : G K E nL ws lv tgt st) : G K E nL ws lv pc (.int x :: st) := fun H locs ls hP hD hS hl => lv_tableOut hC.1 hC.2.1 hd h ht (k H locs ls hP hD hS hl)
theorem g_tabIn (hC : Cx K E cc nL own d) {dflt lo hi : Int} {offs : Array Int} {len : Nat} {x : Int32} {off : Int} {tgt : Nat} (hd : decode cc pc = .ok (.tableswitch dflt lo hi offs, len)) (h1 : ¬ x.toInt < lo) (h2 : ¬ hi < x.toInt) (ho : offs[(x.toInt - lo).toNat]? = some off) (ht : (pc : Int) + off = (tgt : Int)) (k : G K E nL ws lv tgt st) : G K E nL ws lv pc (.int x :: st) := fun H locs ls hP hD hS hl => lv_tableIn hC.1 hC.2.1 hd h1 h2 ho ht (k H locs ls hP hD hS hl)
theorem g_iaddN (hC : Cx K E cc nL own d) {a b : Nat} (hd : decode cc pc = .ok (.iadd, 1)) (k : G K E nL ws lv (pc + 1) (.int (nI (a + b)) :: st)) : G K E nL ws lv pc (.int (nI b) :: .int (nI a) :: st) := g_iadd hC hd (by rw [nI_add]; exact k)
theorem g_isubN (hC : Cx K E cc nL own d) {a b : Nat} (hd : decode cc pc = .ok (.isub, 1)) (h : b ≤ a) (k : G K E nL ws lv (pc + 1) (.int (nI (a - b)) :: st)) : G K E nL ws lv pc (.int (nI b) :: .int (nI a) :: st) := g_isub hC hd (by rw [pk_sub h]; exact k)
theorem g_imulN (hC : Cx K E cc nL own d) {a b : Nat} (hd : decode cc pc = .ok (.imul, 1)) (k : G K E nL ws lv (pc + 1) (.int (nI (a * b)) :: st)) : G K E nL ws lv pc (.int (nI b) :: .int (nI a) :: st) := g_imul hC hd (by rw [pk_mul]; exact k)
theorem g_idivN (hC : Cx K E cc nL own d) {a b : Nat} (hd : decode cc pc = .ok (.idiv, 1)) (ha : a < 2147483648) (h0 : 0 < b) (hb : b < 2147483648) (k : G K E nL ws lv (pc + 1) (.int (nI (a / b)) :: st)) : G K E nL ws lv pc (.int (nI b) :: .int (nI a) :: st) := g_idiv hC hd (nI_ne0 h0 hb) (by rw [pk_div ha h0 hb]; exact k)
theorem g_iremN (hC : Cx K E cc nL own d) {a b : Nat} (hd : decode cc pc = .ok (.irem, 1)) (ha : a < 2147483648) (h0 : 0 < b) (hb : b < 2147483648) (k : G K E nL ws lv (pc + 1) (.int (nI (a % b)) :: st)) : G K E nL ws lv pc (.int (nI b) :: .int (nI a) :: st) := g_irem hC hd (nI_ne0 h0 hb) (by rw [pk_rem ha h0 hb]; exact k)
theorem g_iincN (hC : Cx K E cc nL own d) {i q a : Nat} (n : Nat) {z : Int} (lv' : List (Nat × Value)) (hd : decode cc pc = .ok (.iinc i z, 3)) (hz : Int32.ofInt z = nI n) (hq : lv[q]? = some (i, .int (nI a))) (hn : i < nL) (hl' : (i, Value.int (nI (a + n))) :: lv.filter (fun q => !(q.1 == i) && !(q.1 + 1 == i && q.2.category == 2)) = lv') (k : G K E nL ws lv' (pc + 3) st) : G K E nL ws lv pc st := g_iinc hC lv' hd hq (by rw [hz, nI_add]) hn hl' k
theorem g_get (hC : Cx K E cc nL own d) (q0 ci f : Nat) {a index n : Nat} {fs : List Value} {C : String} {T : u_T} {v : Value} (hin : ∀ w ∈ u_ws C T n, w ∈ lw_G) (hm : Cond.fieldLink own index (T f).1 (T f).2.1 (T f).2.2.1 ∈ lw_G) (hd : decode cc pc = .ok (.getfield index, 3)) (he : ws[q0]? = some (a, .inr (ci, fs))) (hc : vwCl[ci]? = some (C, T, n)) (hf : f < n) (hv : fs[f]? = some v) (k : G K E nL ws lv (pc + 3) (v :: st)) : G K E nL ws lv pc (.ref a :: st) := fun H locs ls hP hD hS hl => va_get (D := E.1) hC.1 hC.2.1 hC.2.2.2.2.1 hin hC.2.2.2.1 hC.2.2.2.2.2.1 hP q0 he hc f hf (hC.2.2.2.2.1 _ hm) (fun _ h => h) hv hd (k H locs ls hP hD hS hl)
theorem g_put (hC : Cx K E cc nL own d) (q0 ci f : Nat) {a index n : Nat} {fs : List Value} {C : String} {T : u_T} {v : Value} (ws' : va_W) (ty : FieldType) {ty0 : Nat → FieldType} (hin : ∀ w ∈ u_ws C T n, w ∈ lw_G) (hty : ∀ k, k < n → parseFieldDescriptor (T k).2.2.1 = some (ty0 k)) (hnm : ∀ a, a < n → ∀ b, b < n → a ≠ b → (T a).2.1 ≠ (T b).2.1) (hm : Cond.fieldLink own index (T f).1 (T f).2.1 (T f).2.2.1 ∈ lw_G) (hd : decode cc pc = .ok (.putfield index, 3)) (he : ws[q0]? = some (a, .inr (ci, fs))) (hc : vwCl[ci]? = some (C, T, n)) (hf : f < n) (hfin : (T f).2.2.2 = false) (hpd : parseFieldDescriptor (T f).2.2.1 = some ty) (hn : narrow ty v = v) (hfit : fits ty v = true) (hl0 : f < fs.length) (hw : ws.set q0 (a, .inr (ci, fs.set f v)) = ws') (k : G K E nL ws' lv (pc + 3) st) : G K E nL ws lv pc (v :: .ref a :: st) := by
  subst hw
  exact fun H locs ls hP hD hS hl => va_put (D := E.1) hC.1 hC.2.1 hC.2.2.2.2.1 hin ty0 hty hnm hC.2.2.2.1 hC.2.2.2.2.2.1 hP hD hS q0 he hc f hf (hC.2.2.2.2.1 _ hm) (fun _ h => h) hfin hpd hn hfit hl0 hd (fun H1 l1 h1 h2 h3 => k H1 l1 ls h1 h2 h3 hl)
theorem g_iald (hC : Cx K E cc nL own d) (q0 : Nat) {a n : Nat} {f : Nat → Int32} {i : Int32} (hd : decode cc pc = .ok (.iaload, 1)) (he : ws[q0]? = some (a, .inl (E.2.1 0, n, .inl f))) (hi : vp_in i n) (k : G K E nL ws lv (pc + 1) (.int (f i.toNatClampNeg) :: st)) : G K E nL ws lv pc (.int i :: .ref a :: st) := fun H locs ls hP hD hS hl => va_iald (D := E.1) hC.1 hC.2.1 hC.2.2.2.2.2.1 hP q0 0 he rfl hi hd (k H locs ls hP hD hS hl)
theorem g_ialdN (hC : Cx K E cc nL own d) (q0 : Nat) {a n j : Nat} {f : Nat → Int32} (hd : decode cc pc = .ok (.iaload, 1)) (he : ws[q0]? = some (a, .inl (E.2.1 0, n, .inl f))) (hn : n < 2147483648) (hi : j < n) (k : G K E nL ws lv (pc + 1) (.int (f j) :: st)) : G K E nL ws lv pc (.int (nI j) :: .ref a :: st) := g_iald hC q0 hd he (vp_in_nI hi hn) (by rw [nI_clamp (Nat.lt_trans hi hn)]; exact k)
theorem g_bald (hC : Cx K E cc nL own d) (q0 : Nat) {a n : Nat} {f : Nat → Int32} {i : Int32} (hd : decode cc pc = .ok (.baload, 1)) (he : ws[q0]? = some (a, .inl (E.2.1 1, n, .inl f))) (hi : vp_in i n) (k : G K E nL ws lv (pc + 1) (.int (f i.toNatClampNeg) :: st)) : G K E nL ws lv pc (.int i :: .ref a :: st) := fun H locs ls hP hD hS hl => va_bald (D := E.1) hC.1 hC.2.1 hC.2.2.2.2.2.1 hP q0 1 he rfl hi hd (k H locs ls hP hD hS hl)
theorem g_baldN (hC : Cx K E cc nL own d) (q0 : Nat) {a n j : Nat} {f : Nat → Int32} (hd : decode cc pc = .ok (.baload, 1)) (he : ws[q0]? = some (a, .inl (E.2.1 1, n, .inl f))) (hn : n < 2147483648) (hi : j < n) (k : G K E nL ws lv (pc + 1) (.int (f j) :: st)) : G K E nL ws lv pc (.int (nI j) :: .ref a :: st) := g_bald hC q0 hd he (vp_in_nI hi hn) (by rw [nI_clamp (Nat.lt_trans hi hn)]; exact k)
theorem g_zald (hC : Cx K E cc nL own d) (q0 : Nat) {a n : Nat} {f : Nat → Int32} {i : Int32} (hd : decode cc pc = .ok (.baload, 1)) (he : ws[q0]? = some (a, .inl (E.2.1 2, n, .inl f))) (hi : vp_in i n) (k : G K E nL ws lv (pc + 1) (.int (f i.toNatClampNeg) :: st)) : G K E nL ws lv pc (.int i :: .ref a :: st) := fun H locs ls hP hD hS hl => va_zald (D := E.1) hC.1 hC.2.1 hC.2.2.2.2.2.1 hP q0 2 he rfl hi hd (k H locs ls hP hD hS hl)
theorem g_zaldN (hC : Cx K E cc nL own d) (q0 : Nat) {a n j : Nat} {f : Nat → Int32} (hd : decode cc pc = .ok (.baload, 1)) (he : ws[q0]? = some (a, .inl (E.2.1 2, n, .inl f))) (hn : n < 2147483648) (hi : j < n) (k : G K E nL ws lv (pc + 1) (.int (f j) :: st)) : G K E nL ws lv pc (.int (nI j) :: .ref a :: st) := g_zald hC q0 hd he (vp_in_nI hi hn) (by rw [nI_clamp (Nat.lt_trans hi hn)]; exact k)
theorem g_iastN (hC : Cx K E cc nL own d) (q0 : Nat) (ws' : va_W) {a n j : Nat} {f : Nat → Int32} {x : Int32} (hd : decode cc pc = .ok (.iastore, 1)) (he : ws[q0]? = some (a, .inl (E.2.1 0, n, .inl f))) (hn : n < 2147483648) (hi : j < n) (hw : ws.set q0 (a, .inl (E.2.1 0, n, .inl (upd f j x))) = ws') (k : G K E nL ws' lv (pc + 1) st) : G K E nL ws lv pc (.int x :: .int (nI j) :: .ref a :: st) := by
  subst hw
  exact fun H locs ls hP hD hS hl => va_iast (D := E.1) hC.1 hC.2.1 hC.2.2.2.2.2.1 hP hD hS q0 0 he rfl (vp_in_nI hi hn) hd (fun H1 l1 h1 h2 h3 => k H1 l1 ls (by rw [nI_clamp (Nat.lt_trans hi hn)] at h1; exact h1) (by rw [nI_clamp (Nat.lt_trans hi hn)] at h2; exact h2) h3 hl)
theorem g_bastN (hC : Cx K E cc nL own d) (q0 : Nat) (ws' : va_W) {a n j : Nat} {f : Nat → Int32} {x : Int32} (hd : decode cc pc = .ok (.bastore, 1)) (he : ws[q0]? = some (a, .inl (E.2.1 1, n, .inl f))) (hn : n < 2147483648) (hi : j < n) (hw : ws.set q0 (a, .inl (E.2.1 1, n, .inl (upd f j (vp_nar .byte x)))) = ws') (k : G K E nL ws' lv (pc + 1) st) : G K E nL ws lv pc (.int x :: .int (nI j) :: .ref a :: st) := by
  subst hw
  exact fun H locs ls hP hD hS hl => va_bast (D := E.1) hC.1 hC.2.1 hC.2.2.2.2.2.1 hP hD hS q0 1 he rfl (vp_in_nI hi hn) hd (fun H1 l1 h1 h2 h3 => k H1 l1 ls (by rw [nI_clamp (Nat.lt_trans hi hn)] at h1; exact h1) (by rw [nI_clamp (Nat.lt_trans hi hn)] at h2; exact h2) h3 hl)
theorem g_zastN (hC : Cx K E cc nL own d) (q0 : Nat) (ws' : va_W) {a n j : Nat} {f : Nat → Int32} {x : Int32} (hd : decode cc pc = .ok (.bastore, 1)) (he : ws[q0]? = some (a, .inl (E.2.1 2, n, .inl f))) (hn : n < 2147483648) (hi : j < n) (hw : ws.set q0 (a, .inl (E.2.1 2, n, .inl (upd f j (vp_nar .boolean x)))) = ws') (k : G K E nL ws' lv (pc + 1) st) : G K E nL ws lv pc (.int x :: .int (nI j) :: .ref a :: st) := by
  subst hw
  exact fun H locs ls hP hD hS hl => va_zast (D := E.1) hC.1 hC.2.1 hC.2.2.2.2.2.1 hP hD hS q0 2 he rfl (vp_in_nI hi hn) hd (fun H1 l1 h1 h2 h3 => k H1 l1 ls (by rw [nI_clamp (Nat.lt_trans hi hn)] at h1; exact h1) (by rw [nI_clamp (Nat.lt_trans hi hn)] at h2; exact h2) h3 hl)
theorem g_alen (hC : Cx K E cc nL own d) (q0 t0 : Nat) {a : Nat} {cA : ClassId} {x : vp_A} {ty : FieldType} (hd : decode cc pc = .ok (.arraylength, 1)) (he : ws[q0]? = some (a, .inl (cA, x))) (ht : (kT E)[t0]? = some (cA, ty)) (k : G K E nL ws lv (pc + 1) (.int (nI x.1) :: st)) : G K E nL ws lv pc (.ref a :: st) := fun H locs ls hP hD hS hl => va_alen (D := E.1) hC.1 hC.2.1 hC.2.2.2.2.2.1 hP q0 t0 he ht rfl hd (k H locs ls hP hD hS hl)
theorem g_aald (hC : Cx K E cc nL own d) (q0 t0 : Nat) {a n j : Nat} {f : Nat → Option Nat} {C : String} {cA : ClassId} {b : Nat} (hd : decode cc pc = .ok (.aaload, 1)) (he : ws[q0]? = some (a, .inl (cA, n, .inr (.inr (.inr (.inr f)))))) (ht : (kT E)[t0]? = some (cA, .object C)) (hn : n < 2147483648) (hi : j < n) (hf : f j = some b) (k : G K E nL ws lv (pc + 1) (.ref b :: st)) : G K E nL ws lv pc (.int (nI j) :: .ref a :: st) := fun H locs ls hP hD hS hl => va_aldq (D := E.1) hC.1 hC.2.1 hC.2.2.2.2.2.1 hP q0 t0 he ht (vp_in_nI hi hn) hd (by rw [nI_clamp (Nat.lt_trans hi hn), hf]; exact (k H locs ls hP hD hS hl))
end GR
/-! ===== worlds behind a call ===== -/
def wput : va_W → List Nat → va_W → va_W
  | ws, i :: is, x :: xs => wput (ws.set i x) is xs
  | ws, _, _ => ws
theorem wput_get : ∀ (is : List Nat) (xs ws : va_W) (k : Nat) (q : Nat × va_E), is.length = xs.length → (wput ws is xs)[k]? = some q → (∃ j : Nat, is[j]? = some k ∧ xs[j]? = some q) ∨ (k ∉ is ∧ ws[k]? = some q) := by
  intro is
  induction is with
  | nil => intro xs ws k q _ h; exact Or.inr ⟨List.not_mem_nil, by cases xs <;> exact h⟩
  | cons i is ih =>
    intro xs ws k q hl h
    cases xs with
    | nil => simp at hl
    | cons x xs =>
      rcases ih xs (ws.set i x) k q (by simpa using hl) h with ⟨j, h1, h2⟩ | ⟨h1, h2⟩
      · exact Or.inl ⟨j + 1, by simpa using h1, by simpa using h2⟩
      · by_cases hk : k = i
        · subst hk
          rw [List.getElem?_set] at h2
          simp only [if_true] at h2
          split at h2
          · exact Or.inl ⟨0, by simp, by simpa using h2⟩
          · cases h2
        · rw [List.getElem?_set_ne (fun e => hk e.symm)] at h2
          exact Or.inr ⟨by simp [hk, h1], h2⟩
theorem wsel {is : List Nat} {ws wc : va_W} (h : is.map (fun i => ws[i]?) = wc.map some) {j : Nat} {q : Nat × va_E} (hj : wc[j]? = some q) : ∃ i : Nat, is[j]? = some i ∧ ws[i]? = some q := by
  have h1 : (is.map (fun i => ws[i]?))[j]? = (wc.map some)[j]? := by rw [h]
  rw [List.getElem?_map, List.getElem?_map, hj] at h1
  cases hi : is[j]? with
  | none => rw [hi] at h1; simp at h1
  | some i => rw [hi] at h1; simp at h1; exact ⟨i, rfl, h1⟩
theorem wput_P {D : va_G} {cl : List vw_C} {A : Nat → Prop} {is : List Nat} {ws wc wc' : va_W} {H H1 : Heap} (hP : va_P D cl ws H) (hD : va_D A ws) (hs : is.map (fun i => ws[i]?) = wc.map some) (hf : wc'.map Prod.fst = wc.map Prod.fst) (hP1 : va_P D cl wc' H1) (hk : ∀ q : Nat, q < H.size → ¬ va_A wc H.size q → H1[q]? = H[q]?) : va_P D cl (wput ws is wc') H1 := by
  intro k q hq
  have hlen : is.length = wc'.length := by
    have h1 := congrArg List.length hs
    have h2 := congrArg List.length hf
    simp only [List.length_map] at h1 h2
    omega
  rcases wput_get is wc' ws k q hlen hq with ⟨j, -, hx⟩ | ⟨hn, hw⟩
  · exact hP1 j q hx
  · have h := hP k q hw
    refine h.kept (hk q.1 h.lt (fun hA => ?_))
    rcases hA with ⟨j, e, hj⟩ | hge
    · obtain ⟨i, h1, h2⟩ := wsel hs hj
      have hki : k = i := hD.1 k i q (q.1, e) hw h2 rfl
      exact hn (hki ▸ List.mem_of_getElem? h1)
    · exact absurd h.lt (Nat.not_lt.mpr hge)
theorem va_D_fst {A : Nat → Prop} {ws ws' : va_W} (hD : va_D A ws) (hf : ws'.map Prod.fst = ws.map Prod.fst) : va_D A ws' := by
  have key : ∀ (k : Nat) (q : Nat × va_E), ws'[k]? = some q → ∃ r : Nat × va_E, ws[k]? = some r ∧ r.1 = q.1 := by
    intro k q hq
    have h1 : (ws'.map Prod.fst)[k]? = (ws.map Prod.fst)[k]? := by rw [hf]
    rw [List.getElem?_map, List.getElem?_map, hq] at h1
    cases hr : ws[k]? with
    | none => rw [hr] at h1; simp at h1
    | some r => rw [hr] at h1; simp at h1; exact ⟨r, rfl, h1.symm⟩
  refine ⟨fun i j p q hp hq e => ?_, fun k q hq => ?_⟩
  · obtain ⟨p', h1, e1⟩ := key i p hp
    obtain ⟨q', h2, e2⟩ := key j q hq
    exact hD.1 i j p' q' h1 h2 (by rw [e1, e2, e])
  · obtain ⟨r, h1, e1⟩ := key k q hq
    exact e1 ▸ hD.2 k r h1
theorem wsel_P {D : va_G} {cl : List vw_C} {is : List Nat} {ws wc : va_W} {H : Heap} (hP : va_P D cl ws H) (hs : is.map (fun i => ws[i]?) = wc.map some) : va_P D cl wc H := fun j q hj => by
  obtain ⟨i, -, h⟩ := wsel hs hj
  exact hP i q h
theorem lw_gin {X : List Cond} (h : ∀ w ∈ X, w ∈ lw_G) : GoodIn lw_G X := fun w hw => ⟨h w hw, good_of_word (List.mem_filter.mp (h w hw)).2⟩
/-- what the words say of a method: static ones, instance ones -/
abbrev wdD (y : MethodName) (n : Nat) : Prop := y.cls ≠ "java/lang/invoke/MethodHandle" ∧ y.cls ≠ "java/lang/invoke/VarHandle" ∧ (parseMethodDescriptor y.desc).map (fun d => d.parameters.length) = some n
def wdS (y : MethodName) (cc : ByteArray) (nL : Nat) (ret : Option FieldType) (n : Nat) : Prop := Cond.static y ∈ lw_G ∧ Cond.initialized y.cls ∈ lw_G ∧ Cond.code y cc nL ret ∈ lw_G ∧ nL ≤ 21 ∧ wdD y n
def wdV (y : MethodName) (cc : ByteArray) (nL : Nat) (ret : Option FieldType) (n : Nat) : Prop := (Cond.instanceMethod y ∈ lw_G ∧ Cond.selects y.cls y y ∈ lw_G) ∧ Cond.initialized y.cls ∈ lw_G ∧ Cond.code y cc nL ret ∈ lw_G ∧ nL ≤ 21 ∧ wdD y n
section GC
variable {K : Kx} {E : Ew} {cc cc' : ByteArray} {nL nL' d d' pc index n : Nat} {own : String} {ws ws' wc wc' : va_W} {lv : List (Nat × Value)} {st as rest : List Value} {y : MethodName} {ret : Option FieldType} {v : Option Value} {is : List Nat}
theorem g_blind {sz : Nat} : FrameBlind (FnP E as wc sz) := fun a U g mk q => by
  obtain ⟨q0, q1, qP, qK, qD, qE⟩ := q
  exact ⟨q0, q1, qP, va_K.moved (u := U) (U := U.calling g mk a) (Vm.Alike.refl U.vm) qK, qD, Ev_same qE rfl⟩
theorem g_pre (hC : Cx K E cc nL own d) {H : Heap} {locs : List Loc} (hP : va_P E.1 vwCl ws H) (hD : va_D (kA K) ws) (hS : va_S (kA K) (ks K).heap H locs) (hnd : va_nd is = true) (hs : is.map (fun i => ws[i]?) = wc.map some) : ∀ U : State, U.heap = H → (ks K).WarmedH U.vm → FnP E as wc H.size as.toArray U := fun U hU hW =>
  ⟨rfl, by rw [hU], by rw [hU]; exact wsel_P hP hs, va_K.moved hW.alike hC.2.2.2.2.2.1, (hD.sub is hnd hs).weaken (fun _ _ _ _ => trivial), by rw [hU]; exact Ev_go hC.2.2.2.2.2.2.2.1 hW hS.2.1 (va_free hD hS hC.2.2.2.2.2.2.1 is hs)⟩
theorem g_after (hC : Cx K E cc nL own d) {H : Heap} {locs : List Loc} {ls : Array Slot} {a : Array Value} {st0 : List Value} (hr : va_Run (kp K) (kl K) (ke K) (kR K) (ks K) (km K) (ka K) (kb K) (kt K) (kc K) H locs (kn K) (ko K) 0 0 (F0 (km K) pc ls st0) rest (FnQ E wc wc' v H.size a) (va_A wc H.size)) (hP : va_P E.1 vwCl ws H) (hD : va_D (kA K) ws) (hS : va_S (kA K) (ks K).heap H locs) (hl : lv_has ls nL lv) (hs : is.map (fun i => ws[i]?) = wc.map some) (hf : wc'.map Prod.fst = wc.map Prod.fst) (hw : wput ws is wc' = ws') (hf' : ws'.map Prod.fst = ws.map Prod.fst)
    (k : G K E nL ws' lv (pc + 3) (v.toList ++ rest)) : W (kp K) (kl K) (ke K) (kR K) (ks K) (km K) (ka K) (kb K) (kt K) (kc K) H locs (kn K) (ko K) (kQ K) (F0 (km K) pc ls st0) := by
  intro T hT X
  obtain ⟨v', st₀, t, T', L, h0, X', hL, e1, e2, ⟨⟨hv, hp⟩, hz, hk⟩, stp⟩ := hr T hT X
  cases hv
  rw [h0] at hz hk
  have hFc := va_free hD hS hC.2.2.2.2.2.2.1 is hs
  have hP1 : va_P E.1 vwCl ws' T'.heap := by rw [← hw, e1]; exact wput_P hP hD hs hf hp hk
  obtain ⟨t2, a1, b1⟩ := k T'.heap (locs ++ L) ls hP1 (va_D_fst hD hf')
    ⟨Nat.le_trans hS.1 (by rw [e1]; exact hz), fun q h1 h2 => by rw [e1, hk q (Nat.lt_of_lt_of_le h1 hS.1) (fun z => h2 (hFc q z))]; exact hS.2.1 q h1 h2, fun q hq => by
      rcases List.mem_append.mp hq with h | h
      · exact hS.2.2 q h
      · exact hFc _ (hL q h)⟩ hl T' rfl X'
  exact ⟨t2, stp t2 a1, b1⟩
theorem g_room (hC : Cx K E cc nL own d) (hdd : d' + 1 ≤ d) (hn : nL' ≤ 21) : (rmd d').frames + 1 ≤ (kR K).frames ∧ 8 + (nL' + 11) + (rmd d').locals ≤ (kR K).locals := by
  have h1 := hC.2.2.2.2.2.2.2.2.1
  have h2 := hC.2.2.2.2.2.2.2.2.2.1
  exact ⟨Nat.le_trans hdd h1, by show 8 + (nL' + 11) + 40 * d' ≤ _; omega⟩
theorem g_sub {y : MethodName} (hcd : Cond.code y cc' nL' ret ∈ lw_G) : GoodIn lw_G (Cond.code y cc' nL' ret :: lw_G) := lw_gin (fun w hw => by
  rcases List.mem_cons.mp hw with h | h
  · rw [h]; exact hcd
  · exact h)
theorem g_callS (hC : Cx K E cc nL own d) (hF : Fn (kl K) E d' y cc' nL' ret as wc v wc') (hw : wdS y cc' nL' ret n) (hm : Cond.methodLink own index y ∈ lw_G) (hd : decode cc pc = .ok (.invokestatic index, 3)) (is : List Nat) (ws' : va_W) (hdd : d' + 1 ≤ d) (hst : st = as.reverse ++ rest) (hrest : (rest.map fun v => v.category).sum ≤ 8) (hn : as.length = n) (hnd : va_nd is = true) (hs : is.map (fun i => ws[i]?) = wc.map some) (hp : wput ws is wc' = ws') (hf : ws'.map Prod.fst = ws.map Prod.fst) (k : G K E nL ws' lv (pc + 3) (v.toList ++ rest)) : G K E nL ws lv pc st := by
  intro H locs ls hP hD hS hl
  obtain ⟨w1, w2, w3, w4, w5⟩ := hw
  exact g_after hC (va_runS (As := as) (rest := rest) (g := F0 (km K) pc ls st) ⟨hC.1, hC.2.1, hC.2.2.1, hC.2.2.2.1, hC.2.2.2.2.1⟩ (hF.2 H.size) ⟨callB_of n hC.2.2.2.2.1 (g_sub w3) rfl rfl rfl (hC.2.2.2.2.1 _ w2) (hC.2.2.2.2.1 _ hm) w5 (g_room hC hdd w4), hC.2.2.2.2.1 _ w1⟩ ⟨g_blind, g_pre hC hP hD hS hnd hs⟩ rfl hn hl.1 hst (lv_room hrest) hd ⟨hC.2.2.2.2.2.2.2.2.2.2.1, hC.2.2.2.2.2.2.2.2.2.2.2⟩) hP hD hS hl hs hF.1 hp hf k
theorem g_callSN (hC : Cx K E cc nL own d) {host : String} (hF : Fn (kl K) E d' y cc' nL' ret as wc v wc') (hw : wdS y cc' nL' ret n) (hm : (own, index, y, host) ∈ nx_l) (hd : decode cc pc = .ok (.invokestatic index, 3)) (is : List Nat) (ws' : va_W) (hdd : d' + 1 ≤ d) (hst : st = as.reverse ++ rest) (hrest : (rest.map fun v => v.category).sum ≤ 8) (hn : as.length = n) (hnd : va_nd is = true) (hs : is.map (fun i => ws[i]?) = wc.map some) (hp : wput ws is wc' = ws') (hf : ws'.map Prod.fst = ws.map Prod.fst) (k : G K E nL ws' lv (pc + 3) (v.toList ++ rest)) : G K E nL ws lv pc st := by
  intro H locs ls hP hD hS hl
  obtain ⟨w1, w2, w3, w4, w5⟩ := hw
  exact g_after hC (va_runSN (As := as) (rest := rest) (g := F0 (km K) pc ls st) ⟨hC.1, hC.2.1, hC.2.2.1, hC.2.2.2.1, hC.2.2.2.2.1⟩ (hF.2 H.size) ⟨va_cnB (host := host) n hC.2.2.2.2.1 (g_sub w3) rfl rfl rfl (hC.2.2.2.2.2.2.2.1.1 _ hm) (hC.2.2.2.2.1 _ w2) w5 (g_room hC hdd w4), hC.2.2.2.2.1 _ w1, trivial⟩ ⟨g_blind, g_pre hC hP hD hS hnd hs⟩ rfl hn hl.1 hst (lv_room hrest) hd ⟨hC.2.2.2.2.2.2.2.2.2.2.1, hC.2.2.2.2.2.2.2.2.2.2.2⟩) hP hD hS hl hs hF.1 hp hf k
theorem g_callV (hC : Cx K E cc nL own d) {b : Nat} (hF : Fn (kl K) E d' y cc' nL' ret (.ref b :: as) wc v wc') (hw : wdV y cc' nL' ret n) (hm : Cond.methodLink own index y ∈ lw_G) (hd : decode cc pc = .ok (.invokevirtual index, 3)) (is : List Nat) (ws' : va_W) (q0 ci : Nat) {fs : List Value} {T : u_T} {N : Nat} (he : ws[q0]? = some (b, .inr (ci, fs))) (hc : vwCl[ci]? = some (y.cls, T, N)) (hdd : d' + 1 ≤ d) (hst : st = as.reverse ++ .ref b :: rest) (hrest : (rest.map fun v => v.category).sum ≤ 8) (hn : as.length = n) (hnd : va_nd is = true) (hs : is.map (fun i => ws[i]?) = wc.map some) (hp : wput ws is wc' = ws') (hf : ws'.map Prod.fst = ws.map Prod.fst) (k : G K E nL ws' lv (pc + 3) (v.toList ++ rest)) : G K E nL ws lv pc st := by
  intro H locs ls hP hD hS hl
  obtain ⟨⟨w0, w1⟩, w2, w3, w4, w5⟩ := hw
  exact g_after hC (va_runV (As := as) (rest := rest) (g := F0 (km K) pc ls st) (b := b) ⟨hC.1, hC.2.1, hC.2.2.1, hC.2.2.2.1, hC.2.2.2.2.1⟩ (hF.2 H.size) ⟨callB_of n hC.2.2.2.2.1 (g_sub w3) rfl rfl rfl (hC.2.2.2.2.1 _ w2) (hC.2.2.2.2.1 _ hm) w5 (g_room hC hdd w4), hC.2.2.2.2.1 _ w0, hC.2.2.2.2.1 _ w1⟩ ⟨g_blind, va_recv hC.2.2.2.2.2.1 hP (ci := ci) (q0 := q0) hc he, g_pre (as := .ref b :: as) hC hP hD hS hnd hs⟩ rfl hn hl.1 hst (lv_room hrest) hd ⟨hC.2.2.2.2.2.2.2.2.2.2.1, hC.2.2.2.2.2.2.2.2.2.2.2⟩) hP hD hS hl hs hF.1 hp hf k
theorem g_copy (hC : Cx K E cc nL own d) (q0 q1 : Nat) {t0 : Nat} (ws' : va_W) {a0 a n0 n1 sp dp m : Nat} {f g : Nat → Int32} (hm : Cond.methodLink own index arraycopyName ∈ lw_G) (hnat : Cond.native arraycopyName ∈ lw_G) (hstat : Cond.static arraycopyName ∈ lw_G) (hini : Cond.initialized "java/lang/System" ∈ lw_G) (hd : decode cc pc = .ok (.invokestatic index, 3)) (h0 : ws[q0]? = some (a0, .inl (E.2.1 0, n0, .inl f))) (h1 : ws[q1]? = some (a, .inl (E.2.1 0, n1, .inl g))) (hn0 : n0 < 2147483648) (hn1 : n1 < 2147483648) (h4 : sp + m ≤ n0) (h5 : dp + m ≤ n1) (hdd : 1 ≤ d) (hrest : (st.map fun v => v.category).sum ≤ 8) (hw : ws.set q1 (a, .inl (E.2.1 0, n1, .inl (va_cpy f g sp dp m))) = ws') (k : G K E nL ws' lv (pc + 3) st) : G K E nL ws lv pc (.int (nI m) :: .int (nI dp) :: .ref a :: .int (nI sp) :: .ref a0 :: st) := by
  subst hw
  intro H locs ls hP hD hS hl
  have e1 : (nI sp).toNatClampNeg = sp := nI_clamp (by omega)
  have e2 : (nI dp).toNatClampNeg = dp := nI_clamp (by omega)
  have e3 : (nI m).toNatClampNeg = m := nI_clamp (by omega)
  have h9 := hC.2.2.2.2.2.2.2.2.2.1
  have h8 : nativeFrameWords "java/lang/System" "arraycopy" 5 ≤ 20 := by decide +kernel
  have h7 : (st.map fun v => v.category).sum + (nativeFrameWords "java/lang/System" "arraycopy" 5 + 11) ≤ (kR K).locals := by omega
  exact va_copyi (D := E.1) (sp := nI sp) (dp := nI dp) (n := nI m) hC.1 hC.2.1 (by rw [hC.2.2.1]; exact hl.1.symm) hC.2.2.2.1 (hC.2.2.2.2.1 _ hm) (hC.2.2.2.2.1 _ hnat) (hC.2.2.2.2.1 _ hstat) (hC.2.2.2.2.1 _ hini) hC.2.2.2.2.2.1 hP hD hS q0 q1 0 0 h0 h1 rfl rfl rfl (nI_pos (by omega)) (nI_pos (by omega)) (nI_pos (by omega)) (by rw [e1, e3]; exact h4) (by rw [e2, e3]; exact h5) (fun _ _ => rfl) (Nat.le_trans hdd hC.2.2.2.2.2.2.2.2.1) h7 hd (fun H1 l1 g1 g2 g3 => k H1 l1 ls (by rw [e1, e2, e3] at g1; exact g1) (by rw [e1, e2, e3] at g2; exact g2) g3 hl)
end GC
/-! ===== a method's proof: from its entry to its return ===== -/
section GE
variable {l : Launch} {E : Ew} {d : Nat} {y : MethodName} {cc : ByteArray} {nL : Nat} {as : List Value} {ws ws' : va_W}
theorem fn_I {r : Int32} (hy : plainName y.cls = true) (hnl : (lg_sl as).length ≤ nL) (hf : ws'.map Prod.fst = ws.map Prod.fst) (body : ∀ K : Kx, Cx K E cc nL y.cls d → (∀ (lv : List (Nat × Value)) (pc : Nat), decode cc pc = .ok (.ireturn, 1) → G K E nL ws' lv pc [.int r]) → G K E nL ws (lv_args 0 as) 0 []) : Fn l E d y cc nL (some .int) as ws (some (.int r)) ws' := by
  refine ⟨hf, fun sz => Met.ofW (cc := cc) (maxL := nL) (ret := (some .int)) hy rfl ?_⟩
  intro p e s m args below meth c s₁ B hml hv
  obtain ⟨rfl, hsz, hP, hK, hD0, hE⟩ := hv
  subst hsz
  have hD := hD0.self (sz := s.heap.size)
  have hlocks := B.notSynchronized
  have hC : Cx (p, l, e, rmd d, s, m, as.toArray, below, meth, c, va_A ws s.heap.size, 0, 0, MQ below (FnQ E ws ws' (some (.int r)) s.heap.size) as.toArray s 0 0 (va_A ws s.heap.size)) E cc nL y.cls d := ⟨B.exec, B.bytes, hml, findClass_of_methodNamed B.named, fun w hw => atoms_spec (ws := .code y cc nL (some .int) :: lw_G) B.pre w (List.mem_cons_of_mem _ hw), hK, fun q h => Or.inr h, hE, Nat.le_refl _, Nat.le_refl _, Nat.le_refl _, Nat.le_refl _⟩
  have h := body _ hC (fun lv pc hd H locs ls hP hD hS hl => W.iret B.exec B.bytes B.returns (fun t ht hW => ⟨⟨rfl, by rw [ht]; exact hP⟩, hS.F ht⟩) hS.2.2 hd hlocks)
  rw [lg_entry_eq]
  exact h s.heap [] _ hP hD va_S.rf (lv_entry as hnl)
theorem fn_Z {r : Int32} {ty : FieldType} (hy : plainName y.cls = true) (hnl : (lg_sl as).length ≤ nL) (hf : ws'.map Prod.fst = ws.map Prod.fst) (hn : narrow ty (.int r) = .int r) (body : ∀ K : Kx, Cx K E cc nL y.cls d → (∀ (lv : List (Nat × Value)) (pc : Nat), decode cc pc = .ok (.ireturn, 1) → G K E nL ws' lv pc [.int r]) → G K E nL ws (lv_args 0 as) 0 []) : Fn l E d y cc nL (some ty) as ws (some (.int r)) ws' := by
  refine ⟨hf, fun sz => Met.ofW (cc := cc) (maxL := nL) (ret := (some ty)) hy rfl ?_⟩
  intro p e s m args below meth c s₁ B hml hv
  obtain ⟨rfl, hsz, hP, hK, hD0, hE⟩ := hv
  subst hsz
  have hD := hD0.self (sz := s.heap.size)
  have hlocks := B.notSynchronized
  have hC : Cx (p, l, e, rmd d, s, m, as.toArray, below, meth, c, va_A ws s.heap.size, 0, 0, MQ below (FnQ E ws ws' (some (.int r)) s.heap.size) as.toArray s 0 0 (va_A ws s.heap.size)) E cc nL y.cls d := ⟨B.exec, B.bytes, hml, findClass_of_methodNamed B.named, fun w hw => atoms_spec (ws := .code y cc nL (some ty) :: lw_G) B.pre w (List.mem_cons_of_mem _ hw), hK, fun q h => Or.inr h, hE, Nat.le_refl _, Nat.le_refl _, Nat.le_refl _, Nat.le_refl _⟩
  have h := body _ hC (fun lv pc hd H locs ls hP hD hS hl => W.zret B.exec B.bytes B.returns hn (fun t ht hW => ⟨⟨rfl, by rw [ht]; exact hP⟩, hS.F ht⟩) hS.2.2 hd hlocks)
  rw [lg_entry_eq]
  exact h s.heap [] _ hP hD va_S.rf (lv_entry as hnl)
theorem fn_L {r : Int64} (hy : plainName y.cls = true) (hnl : (lg_sl as).length ≤ nL) (hf : ws'.map Prod.fst = ws.map Prod.fst) (body : ∀ K : Kx, Cx K E cc nL y.cls d → (∀ (lv : List (Nat × Value)) (pc : Nat), decode cc pc = .ok (.lreturn, 1) → G K E nL ws' lv pc [.long r]) → G K E nL ws (lv_args 0 as) 0 []) : Fn l E d y cc nL (some .long) as ws (some (.long r)) ws' := by
  refine ⟨hf, fun sz => Met.ofW (cc := cc) (maxL := nL) (ret := (some .long)) hy rfl ?_⟩
  intro p e s m args below meth c s₁ B hml hv
  obtain ⟨rfl, hsz, hP, hK, hD0, hE⟩ := hv
  subst hsz
  have hD := hD0.self (sz := s.heap.size)
  have hlocks := B.notSynchronized
  have hC : Cx (p, l, e, rmd d, s, m, as.toArray, below, meth, c, va_A ws s.heap.size, 0, 0, MQ below (FnQ E ws ws' (some (.long r)) s.heap.size) as.toArray s 0 0 (va_A ws s.heap.size)) E cc nL y.cls d := ⟨B.exec, B.bytes, hml, findClass_of_methodNamed B.named, fun w hw => atoms_spec (ws := .code y cc nL (some .long) :: lw_G) B.pre w (List.mem_cons_of_mem _ hw), hK, fun q h => Or.inr h, hE, Nat.le_refl _, Nat.le_refl _, Nat.le_refl _, Nat.le_refl _⟩
  have h := body _ hC (fun lv pc hd H locs ls hP hD hS hl => W.lret B.exec B.bytes B.returns (fun t ht hW => ⟨⟨rfl, by rw [ht]; exact hP⟩, hS.F ht⟩) hS.2.2 hd hlocks)
  rw [lg_entry_eq]
  exact h s.heap [] _ hP hD va_S.rf (lv_entry as hnl)
theorem fn_V (hy : plainName y.cls = true) (hnl : (lg_sl as).length ≤ nL) (hf : ws'.map Prod.fst = ws.map Prod.fst) (body : ∀ K : Kx, Cx K E cc nL y.cls d → (∀ (lv : List (Nat × Value)) (pc : Nat), decode cc pc = .ok (.return_, 1) → G K E nL ws' lv pc []) → G K E nL ws (lv_args 0 as) 0 []) : Fn l E d y cc nL none as ws none ws' := by
  refine ⟨hf, fun sz => Met.ofW (cc := cc) (maxL := nL) (ret := none) hy rfl ?_⟩
  intro p e s m args below meth c s₁ B hml hv
  obtain ⟨rfl, hsz, hP, hK, hD0, hE⟩ := hv
  subst hsz
  have hD := hD0.self (sz := s.heap.size)
  have hlocks := B.notSynchronized
  have hC : Cx (p, l, e, rmd d, s, m, as.toArray, below, meth, c, va_A ws s.heap.size, 0, 0, MQ below (FnQ E ws ws' none s.heap.size) as.toArray s 0 0 (va_A ws s.heap.size)) E cc nL y.cls d := ⟨B.exec, B.bytes, hml, findClass_of_methodNamed B.named, fun w hw => atoms_spec (ws := .code y cc nL none :: lw_G) B.pre w (List.mem_cons_of_mem _ hw), hK, fun q h => Or.inr h, hE, Nat.le_refl _, Nat.le_refl _, Nat.le_refl _, Nat.le_refl _⟩
  have h := body _ hC (fun lv pc hd H locs ls hP hD hS hl => W.vret B.exec B.bytes B.returns (fun t ht hW => ⟨⟨rfl, by rw [ht]; exact hP⟩, hS.F ht⟩) hS.2.2 hd hlocks)
  rw [lg_entry_eq]
  exact h s.heap [] _ hP hD va_S.rf (lv_entry as hnl)
end GE
