def lh (h : Int64) (v : Int32) : Int64 := 31 * h + v.toInt64
/-- what count tells -/
def cnF (a : Nat → Int32) (n : Nat) (bl : Int32) (wh : Nat) : Int32 := if wh = 0 then a 0 else if wh = 1 then a 1 else if wh = 2 then nI (ow (N5 a) n) else if wh = 3 then a 2 else if wh = 4 then a 3 else if wh = 5 then a 4 else bl
def dg1 (a : Nat → Int32) (n : Nat) (bl : Int32) : Nat → Int64
  | 0 => 1201
  | k + 1 => lh (dg1 a n bl k) (cnF a n bl k)
def dg2 (a : Nat → Int32) (h : Int64) : Nat → Int64
  | 0 => h
  | k + 1 => lh (lh (lh (dg2 a h k) (a (19 + k))) (a (12 + k))) (a (5 + k))
def smF (a : Nat → Int32) (h : Int64) (f : Nat) : Nat → Int64
  | 0 => h
  | k + 1 => lh (smF a h f k) (a (f + k))
def dgF (a : Nat → Int32) (n u v : Nat) (bl : Int32) (ab be : Int64) : Int64 := 31 * (31 * smF a (smF a (dg2 a (dg1 a n bl 7) n) 26 (2 * u)) 38 (5 * v) + ab) + be
def imK (k a : Nat → Int32) (i m : Nat) : Nat → Int32 := fun j => if 188 * i ≤ j ∧ j < 188 * i + m then a (j - 188 * i) else k j
theorem imK_0 (k a : Nat → Int32) (i : Nat) : imK k a i 0 = k := by funext j; simp only [imK]; rw [if_neg (by omega)]
theorem imK_s (k a : Nat → Int32) (i m : Nat) : upd (imK k a i m) (188 * i + m) (a m) = imK k a i (m + 1) := by
  funext j
  by_cases h : j = 188 * i + m
  · subst h; simp only [upd, if_pos, imK]; rw [if_pos (by omega), show 188 * i + m - 188 * i = m by omega]
  · simp only [upd, if_neg h, imK]
    by_cases h2 : 188 * i ≤ j ∧ j < 188 * i + m
    · rw [if_pos h2, if_pos (by omega)]
    · rw [if_neg h2, if_neg (by omega)]
section GE2
variable {l : Launch} {E : Ew} {d : Nat} {y : MethodName} {cc : ByteArray} {nL : Nat} {as : List Value} {ws : va_W} {ws' : Jk → va_W}
theorem fe_L {r : Int64} (hy : plainName y.cls = true) (hnl : (lg_sl as).length ≤ nL) (hf : ∀ jj, (ws' jj).map Prod.fst = ws.map Prod.fst) (body : ∀ K : Kx, Cx K E cc nL y.cls d → (∀ (jj : Jk) (lv : List (Nat × Value)) (pc : Nat), decode cc pc = .ok (.lreturn, 1) → G K E nL (ws' jj) lv pc [.long r]) → G K E nL ws (lv_args 0 as) 0 []) : Fe l E d y cc nL (some .long) as ws (some (.long r)) ws' := by
  refine ⟨hf, fun sz => Met.ofW (cc := cc) (maxL := nL) (ret := (some .long)) hy rfl ?_⟩
  intro p e s m args below meth c s₁ B hml hv
  obtain ⟨rfl, hsz, hP, hK, hD0, hE⟩ := hv
  subst hsz
  have hD := hD0.self (sz := s.heap.size)
  have hlocks := B.notSynchronized
  have hC : Cx (p, l, e, rmd d, s, m, as.toArray, below, meth, c, va_A ws s.heap.size, 0, 0, MQ below (FeQ E ws ws' (some (.long r)) s.heap.size) as.toArray s 0 0 (va_A ws s.heap.size)) E cc nL y.cls d := ⟨B.exec, B.bytes, hml, findClass_of_methodNamed B.named, fun w hw => atoms_spec (ws := .code y cc nL (some .long) :: lw_G) B.pre w (List.mem_cons_of_mem _ hw), hK, fun q h => Or.inr h, hE, Nat.le_refl _, Nat.le_refl _, Nat.le_refl _, Nat.le_refl _⟩
  have h := body _ hC (fun jj lv pc hd H locs ls hP hD hS hl => W.lret B.exec B.bytes B.returns (fun t ht hW => ⟨⟨jj, rfl, by rw [ht]; exact hP⟩, hS.F ht⟩) hS.2.2 hd hlocks)
  rw [lg_entry_eq]
  exact h s.heap [] _ hP hD va_S.rf (lv_entry as hnl)
end GE2
