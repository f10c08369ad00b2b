/-! ===== an array is what it holds below its length ===== -/
theorem arrV_cong {c : ClassId} {n : Nat} {f g : Nat → Value} (h : ∀ j, j < n → f j = g j) : arrV c n f = arrV c n g := by
  unfold arrV
  have : (fun j : Fin n => f j.val) = (fun j : Fin n => g j.val) := funext (fun j => h j.val j.isLt)
  rw [this]
theorem g_arr {K : Kx} {E : Ew} {nL pc : Nat} {ws : va_W} {lv : List (Nat × Value)} {st : List Value} (q0 : Nat) (ws' : va_W) {a n : Nat} {cA : ClassId} {f : Nat → Int32} (g : Nat → Int32) (he : ws[q0]? = some (a, .inl (cA, n, .inl f))) (h : ∀ j, j < n → f j = g j) (hw : ws.set q0 (a, .inl (cA, n, .inl g)) = ws') (k : G K E nL ws' lv pc st) : G K E nL ws lv pc st := by
  subst hw
  intro H locs ls hP hD hS hl
  refine k H locs ls ?_ (va_D_fst hD ?_) hS hl
  · intro i q hq
    rw [List.getElem?_set] at hq
    split at hq
    · split at hq
      · cases hq
        have h1 := hP q0 _ he
        show H[a]? = some (vp_cell cA (n, .inl g))
        have h2 : H[a]? = some (vp_cell cA (n, .inl f)) := h1
        rw [h2, vp_cell_i, vp_cell_i, arrV_cong (fun j hj => by rw [h j hj])]
      · cases hq
    · exact hP i q hq
  · have hlt : q0 < ws.length := (List.getElem?_eq_some_iff.mp he).1
    apply List.ext_getElem?
    intro i
    rw [List.getElem?_map, List.getElem?_map, List.getElem?_set]
    by_cases hi : q0 = i
    · subst hi
      rw [if_pos rfl, if_pos hlt, he]
      rfl
    · rw [if_neg hi]
