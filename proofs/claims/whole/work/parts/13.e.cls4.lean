def gvN (bn : Nat → Nat) (p n : Nat) : Nat → Nat := fun j => if j < n then andn (bn j) (2 ^ p) else bn j
theorem gvN_0 (bn : Nat → Nat) (p : Nat) : gvN bn p 0 = bn := by funext j; simp [gvN]
theorem gvN_k (bn : Nat → Nat) (p k : Nat) : gvN bn p k k = bn k := by simp [gvN]
theorem gvN_s (bn : Nat → Nat) (p k : Nat) : gvN bn p (k + 1) = un (gvN bn p k) k (andn (bn k) (2 ^ p)) := by
  funext j
  by_cases h : j = k
  · subst h; simp [gvN, un]
  · by_cases h2 : j < k
    · simp [gvN, un, h, h2, show j < k + 1 by omega]
    · simp [gvN, un, h, h2, show ¬ j < k + 1 by omega]
def pC (dn dp : Nat → Nat) (x : Nat) : Nat → Nat
  | 0 => 0
  | k + 1 => pC dn dp x k + if dn k = x then dp k else 0
def wrN (nt : Nat → Nat) (p x d b t v : Nat) : Nat → Nat := un (un (un (un (un nt (v * 5) p) (v * 5 + 1) x) (v * 5 + 2) d) (v * 5 + 3) b) (v * 5 + 4) t
def rmG (bn pl : Nat → Nat) (da : Int32) (ps : Nat → Int32) (u : Nat) : Nat → Int32 := upd (va_cpy (nf pl) (va_cpy (nf bn) ps 0 (u * 15) 7) 0 (u * 15 + 7) 7) (u * 15 + 14) da
def rmF (bn pl : Nat → Nat) (da : Int32) (ps : Nat → Int32) (u : Nat) : Nat → Int32 := if u = 8 then rmG bn pl da (va_cpy ps ps 15 0 (7 * 15)) 7 else rmG bn pl da ps u
theorem cpN_all {f g : Nat → Nat} {n : Nat} : ∀ j, j < n → nf (cpN f g 0 0 n) j = nf f j := by
  intro j hj; simp only [nf, cpN]; rw [if_pos (by omega), show 0 + (j - 0) = j by omega]
theorem cpy_all {f g : Nat → Int32} {n : Nat} : ∀ j, j < n → va_cpy f g 0 0 n j = f j := by
  intro j hj; rw [pk_cpy_in (by omega) (by omega), show 0 + (j - 0) = j by omega]
def fl (f : Nat → Int32) (v : Int32) (k : Nat) : Nat → Int32 := fun j => if j < k then v else f j
theorem fl_0 (f : Nat → Int32) (v : Int32) : fl f v 0 = f := by funext j; simp [fl]
theorem fl_s (f : Nat → Int32) (v : Int32) (k : Nat) : upd (fl f v k) k v = fl f v (k + 1) := by
  funext p
  by_cases h : p = k
  · subst h; simp [upd, fl]
  · by_cases h2 : p < k
    · simp [upd, fl, h, h2, show p < k + 1 by omega]
    · simp [upd, fl, h, h2, show ¬ p < k + 1 by omega]
def mx1 (kd pl bn : Nat → Nat) (n : Nat) (h : Int64) : Nat → Int64
  | 0 => h
  | k + 1 => lh (lh (lh (mx1 kd pl bn n h k) (nI (kd k))) (nI (pl k))) (fi (fun m => (bn m).testBit k) n)
def mx2 (dn dp : Nat → Nat) (h : Int64) : Nat → Int64
  | 0 => h
  | k + 1 => lh (lh (mx2 dn dp h k) (nI (dn k))) (nI (dp k))
def mx3 (nt : Nat → Nat) (h : Int64) : Nat → Int64
  | 0 => h
  | k + 1 => lh (mx3 nt h k) (nI (nt k))
theorem eu_step {s t o w k : Nat} (ht : 0 < t) (h : k = 0 ∧ s = o ∧ t = w ∨ t ≤ s ∧ s * t * 2 ^ (k - 1) ≤ o * w ∧ 0 < k) : (s % t ≤ t ∧ t * (s % t) * 2 ^ (k + 1 - 1) ≤ o * w) := by
  have hm := Nat.mod_lt s ht
  refine ⟨Nat.le_of_lt hm, ?_⟩
  rcases h with ⟨rfl, rfl, rfl⟩ | ⟨hts, h2, hk⟩
  · have := Nat.mod_le s t
    simp only [Nat.zero_add, Nat.sub_self, Nat.pow_zero, Nat.mul_one]
    calc t * (s % t) ≤ t * s := Nat.mul_le_mul_left t this
      _ = s * t := Nat.mul_comm _ _
  · have h3 : 2 * (s % t) ≤ s := by
      have h4 := Nat.div_add_mod s t
      have h5 : 1 ≤ s / t := Nat.div_pos hts ht
      have h6 : t * 1 ≤ t * (s / t) := Nat.mul_le_mul_left t h5
      omega
    have e : k + 1 - 1 = (k - 1) + 1 := by omega
    rw [e, Nat.pow_succ]
    calc t * (s % t) * (2 ^ (k - 1) * 2) = t * (2 * (s % t)) * 2 ^ (k - 1) := by
          rw [Nat.mul_comm (2 ^ (k - 1)) 2, ← Nat.mul_assoc, Nat.mul_assoc t (s % t) 2, Nat.mul_comm (s % t) 2]
      _ ≤ t * s * 2 ^ (k - 1) := Nat.mul_le_mul_right _ (Nat.mul_le_mul_left t h3)
      _ = s * t * 2 ^ (k - 1) := by rw [Nat.mul_comm t s]
      _ ≤ o * w := h2
theorem eu_end {s t o w : Nat} (ho : o < 1099511627776) (hw : w < 1099511627776) (hs : 0 < s) {k : Nat} (hk : 200 ≤ k) (h : k = 0 ∧ s = o ∧ t = w ∨ t ≤ s ∧ s * t * 2 ^ (k - 1) ≤ o * w ∧ 0 < k) : t = 0 := by
  rcases h with ⟨h, _, _⟩ | ⟨_, h, _⟩
  · omega
  · rcases Nat.eq_zero_or_pos t with q | q
    · exact q
    · exfalso
      have h1 : 1 ≤ s * t := Nat.mul_pos hs q
      have h2 : 2 ^ 100 ≤ 2 ^ (k - 1) := Nat.pow_le_pow_right (by decide) (by omega)
      have h3 : 1 * 2 ^ 100 ≤ s * t * 2 ^ (k - 1) := Nat.mul_le_mul h1 h2
      have h4 : o * w ≤ 1099511627776 * 1099511627776 := Nat.mul_le_mul (Nat.le_of_lt ho) (Nat.le_of_lt hw)
      have h5 : 1099511627776 * 1099511627776 < 1 * 2 ^ 100 := by decide
      omega
theorem inB_m1 (n : Nat) : inB (-1) n = false := by simp only [inB]; rw [show (-1 : Int32).toInt = -1 by decide]; rfl

set_option maxHeartbeats 4000000 in
set_option maxRecDepth 100000 in
theorem f_J7_fill_53178 (l : Launch) (E : Ew) (bq : Nat) (f : Nat → Int32) (v : Int32)  : Fn l E 0 yJ7_fill_53178 cJ7_fill_53178 4 none [.ref bq, .int v] [(bq, .inl (E.2.1 0, 7, .inl f))] none [(bq, .inl (E.2.1 0, 7, .inl (fl f v 7)))] := by
  refine fn_V (by decide) (Nat.le_of_ble_eq_true rfl) rfl ?_
  intro K hC hR
  show G K E 4 [(bq, .inl (E.2.1 0, 7, .inl f))] [(0, .ref bq), (1, .int v)] 0 []
  refine g_iconst (v := (nI 0)) hC dJ7_fill_53178_0 (by decide) ?_
  refine g_istore_n hC [(2, .int (nI 0)), (0, .ref bq), (1, .int v)] dJ7_fill_53178_1 rfl (by decide) rfl ?_
  refine g_aload_n hC dJ7_fill_53178_2 rfl 1 rfl ?_
  refine g_alen hC 0 0 dJ7_fill_53178_3 rfl rfl ?_
  refine g_istore_n hC [(3, .int (nI 7)), (2, .int (nI 0)), (0, .ref bq), (1, .int v)] dJ7_fill_53178_4 rfl (by decide) rfl ?_
  have L_5 : ∀ (fu : Nat) (k : Nat) (hk : k ≤ 7), 7 - k < fu → G K E 4 [(bq, .inl (E.2.1 0, 7, .inl (fl f v k)))] [(2, .int (nI k)), (3, .int (nI 7)), (0, .ref bq), (1, .int v)] 5 [] := by
    intro fu
    induction fu with
    | zero => intro k hk hm_5; exact absurd hm_5 (Nat.not_lt_zero _)
    | succ fu ih_5 =>
      intro k hk hm_5
      refine g_iload_n hC dJ7_fill_53178_5 rfl 0 rfl ?_
      refine g_iload_n hC dJ7_fill_53178_6 rfl 1 rfl ?_
      refine g_icmp_geN (tgt := 20) hC dJ7_fill_53178_7 (by decide) (by omega) (by omega) (fun h_7 => ?_) (fun h_7 => ?_)
      · exact g_ws (by rw [show k = 7 by omega]) (hR _ _ dJ7_fill_53178_20)
      · refine g_aload_n hC dJ7_fill_53178_10 rfl 2 rfl ?_
        refine g_iload_n hC dJ7_fill_53178_11 rfl 0 rfl ?_
        refine g_iload_n hC dJ7_fill_53178_12 rfl 3 rfl ?_
        refine g_iastN hC 0 [(bq, .inl (E.2.1 0, 7, .inl (upd (fl f v k) k v)))] dJ7_fill_53178_13 rfl (by decide) (by omega) rfl ?_
        refine g_iincN hC (q := 0) 1 [(2, .int (nI (k + 1))), (3, .int (nI 7)), (0, .ref bq), (1, .int v)] dJ7_fill_53178_14 rfl rfl (by decide) rfl ?_
        refine g_goto (tgt := 5) hC dJ7_fill_53178_17 (by decide) ?_
        refine g_lv (lv' := [(2, .int (nI (k + 1))), (3, .int (nI 7)), (0, .ref bq), (1, .int v)]) [0, 1, 2, 3] rfl ?_
        refine g_ws (ws' := [(bq, .inl (E.2.1 0, 7, .inl (fl f v (k + 1))))]) (by rw [fl_s]) ?_
        exact ih_5 (k + 1) (by omega) (by omega)
  refine g_lv (lv' := [(2, .int (nI 0)), (3, .int (nI 7)), (0, .ref bq), (1, .int v)]) [1, 0, 2, 3] rfl ?_
  refine g_ws (ws' := [(bq, .inl (E.2.1 0, 7, .inl (fl f v 0)))]) (by rw [fl_0]) ?_
  exact L_5 ((7 - 0) + 1) 0 (by omega) (Nat.lt_succ_self _)
set_option maxHeartbeats 4000000 in
set_option maxRecDepth 100000 in
theorem f_X5_begin (l : Launch) (E : Ew) (h : Nat → Nat) (da : Int32) (pe : Int32) (de : Int32) (no : Int32) (pa : Int32) (bn : Nat → Nat) (dy : Int32)  : Fn l E 1 yX5_begin cX5_begin 2 none [.ref (h 0), .int dy] [(h 0, .inr (5, oH h da pe de no pa)), (h 3, .inl (E.2.1 0, 7, .inl (nf bn)))] none [(h 0, .inr (5, oH h dy (nI 0) (nI 0) (nI 0) (nI 0))), (h 3, .inl (E.2.1 0, 7, .inl (nf (fun _ => 0))))] := by
  refine fn_V (by decide) (Nat.le_of_ble_eq_true rfl) rfl ?_
  intro K hC hR
  show G K E 2 [(h 0, .inr (5, oH h da pe de no pa)), (h 3, .inl (E.2.1 0, 7, .inl (nf bn)))] [(0, .ref (h 0)), (1, .int dy)] 0 []
  refine g_aload_n hC dX5_begin_0 rfl 0 rfl ?_
  refine g_iload_n hC dX5_begin_1 rfl 1 rfl ?_
  refine g_put hC 0 5 0 [(h 0, .inr (5, oH h dy pe de no pa)), (h 3, .inl (E.2.1 0, 7, .inl (nf bn)))] .int inX5 tyX5_ok nmX5 m1_36 dX5_begin_2 rfl rfl (by decide) rfl (by decide +kernel) rfl rfl (Nat.le_of_ble_eq_true rfl) rfl ?_
  refine g_aload_n hC dX5_begin_5 rfl 0 rfl ?_
  refine g_iconst (v := (nI 0)) hC dX5_begin_6 (by decide) ?_
  refine g_put hC 0 5 1 [(h 0, .inr (5, oH h dy (nI 0) de no pa)), (h 3, .inl (E.2.1 0, 7, .inl (nf bn)))] .int inX5 tyX5_ok nmX5 m1_39 dX5_begin_7 rfl rfl (by decide) rfl (by decide +kernel) rfl rfl (Nat.le_of_ble_eq_true rfl) rfl ?_
  refine g_aload_n hC dX5_begin_10 rfl 0 rfl ?_
  refine g_get hC 0 5 4 inX5 m1_50 dX5_begin_11 rfl rfl (by decide) rfl ?_
  refine g_iconst (v := (nI 0)) hC dX5_begin_14 (by decide) ?_
  refine g_callS hC (f_J7_fill_53178 (kl K) E (h 3) (nf bn) (nI 0)) wJ7_fill_53178 m2_24 dX5_begin_15 [1] [(h 0, .inr (5, oH h dy (nI 0) de no pa)), (h 3, .inl (E.2.1 0, 7, .inl (fl (nf bn) (nI 0) 7)))] (by decide) rfl (Nat.le_of_ble_eq_true rfl) rfl rfl rfl rfl rfl ?_
  refine g_arr 1 [(h 0, .inr (5, oH h dy (nI 0) de no pa)), (h 3, .inl (E.2.1 0, 7, .inl (nf (fun _ => 0))))] (nf (fun _ => 0)) rfl (fun j hj => by simp only [fl, if_pos hj]; rfl) rfl ?_
  refine g_aload_n hC dX5_begin_18 rfl 0 rfl ?_
  refine g_iconst (v := (nI 0)) hC dX5_begin_19 (by decide) ?_
  refine g_put hC 0 5 5 [(h 0, .inr (5, oH h dy (nI 0) (nI 0) no pa)), (h 3, .inl (E.2.1 0, 7, .inl (nf (fun _ => 0))))] .int inX5 tyX5_ok nmX5 m1_53 dX5_begin_20 rfl rfl (by decide) rfl (by decide +kernel) rfl rfl (Nat.le_of_ble_eq_true rfl) rfl ?_
  refine g_aload_n hC dX5_begin_23 rfl 0 rfl ?_
  refine g_iconst (v := (nI 0)) hC dX5_begin_24 (by decide) ?_
  refine g_put hC 0 5 8 [(h 0, .inr (5, oH h dy (nI 0) (nI 0) (nI 0) pa)), (h 3, .inl (E.2.1 0, 7, .inl (nf (fun _ => 0))))] .int inX5 tyX5_ok nmX5 m1_59 dX5_begin_25 rfl rfl (by decide) rfl (by decide +kernel) rfl rfl (Nat.le_of_ble_eq_true rfl) rfl ?_
  refine g_aload_n hC dX5_begin_28 rfl 0 rfl ?_
  refine g_iconst (v := (nI 0)) hC dX5_begin_29 (by decide) ?_
  refine g_put hC 0 5 10 [(h 0, .inr (5, oH h dy (nI 0) (nI 0) (nI 0) (nI 0))), (h 3, .inl (E.2.1 0, 7, .inl (nf (fun _ => 0))))] .int inX5 tyX5_ok nmX5 m1_63 dX5_begin_30 rfl rfl (by decide) rfl (by decide +kernel) rfl rfl (Nat.le_of_ble_eq_true rfl) rfl ?_
  exact g_ws (rfl) (hR _ _ dX5_begin_33)
set_option maxHeartbeats 4000000 in
set_option maxRecDepth 100000 in
theorem f_X5_join (l : Launch) (E : Ew) (h : Nat → Nat) (da : Int32) (de : Int32) (no : Int32) (pa : Int32) (kd : Nat → Nat) (pl : Nat → Nat) (bn : Nat → Nat) (n : Nat) (k0 : Nat) (p0 : Nat) (hn : n < 7) : Fn l E 0 yX5_join cX5_join 3 none [.ref (h 0), .int (nI k0), .int (nI p0)] [(h 0, .inr (5, oH h da (nI n) de no pa)), (h 1, .inl (E.2.1 0, 7, .inl (nf kd))), (h 2, .inl (E.2.1 0, 7, .inl (nf pl))), (h 3, .inl (E.2.1 0, 7, .inl (nf bn)))] none [(h 0, .inr (5, oH h da (nI (n + 1)) de no (nI 0))), (h 1, .inl (E.2.1 0, 7, .inl (nf (un kd n k0)))), (h 2, .inl (E.2.1 0, 7, .inl (nf (un pl n p0)))), (h 3, .inl (E.2.1 0, 7, .inl (nf (un bn n (2 ^ n)))))] := by
  refine fn_V (by decide) (Nat.le_of_ble_eq_true rfl) rfl ?_
  intro K hC hR
  show G K E 3 [(h 0, .inr (5, oH h da (nI n) de no pa)), (h 1, .inl (E.2.1 0, 7, .inl (nf kd))), (h 2, .inl (E.2.1 0, 7, .inl (nf pl))), (h 3, .inl (E.2.1 0, 7, .inl (nf bn)))] [(0, .ref (h 0)), (1, .int (nI k0)), (2, .int (nI p0))] 0 []
  refine g_aload_n hC dX5_join_0 rfl 0 rfl ?_
  refine g_get hC 0 5 1 inX5 m1_39 dX5_join_1 rfl rfl (by decide) rfl ?_
  refine g_bipush (v := (nI 7)) hC dX5_join_4 (by decide) ?_
  refine g_icmp_ltN (tgt := 10) hC dX5_join_6 (by decide) (by omega) (by omega) (fun h_6 => ?_) (fun h_6 => ?_)
  · refine g_aload_n hC dX5_join_10 rfl 0 rfl ?_
    refine g_get hC 0 5 2 inX5 m1_44 dX5_join_11 rfl rfl (by decide) rfl ?_
    refine g_aload_n hC dX5_join_14 rfl 0 rfl ?_
    refine g_get hC 0 5 1 inX5 m1_39 dX5_join_15 rfl rfl (by decide) rfl ?_
    refine g_iload_n hC dX5_join_18 rfl 1 rfl ?_
    refine g_iastN hC 1 [(h 0, .inr (5, oH h da (nI n) de no pa)), (h 1, .inl (E.2.1 0, 7, .inl (upd (nf kd) n (nI k0)))), (h 2, .inl (E.2.1 0, 7, .inl (nf pl))), (h 3, .inl (E.2.1 0, 7, .inl (nf bn)))] dX5_join_19 rfl (by decide) (by omega) rfl ?_
    refine g_ws (ws' := [(h 0, .inr (5, oH h da (nI n) de no pa)), (h 1, .inl (E.2.1 0, 7, .inl (nf (un kd n k0)))), (h 2, .inl (E.2.1 0, 7, .inl (nf pl))), (h 3, .inl (E.2.1 0, 7, .inl (nf bn)))]) (by rw [nf_u kd n k0]) ?_
    refine g_aload_n hC dX5_join_20 rfl 0 rfl ?_
    refine g_get hC 0 5 3 inX5 m1_47 dX5_join_21 rfl rfl (by decide) rfl ?_
    refine g_aload_n hC dX5_join_24 rfl 0 rfl ?_
    refine g_get hC 0 5 1 inX5 m1_39 dX5_join_25 rfl rfl (by decide) rfl ?_
    refine g_iload_n hC dX5_join_28 rfl 2 rfl ?_
    refine g_iastN hC 2 [(h 0, .inr (5, oH h da (nI n) de no pa)), (h 1, .inl (E.2.1 0, 7, .inl (nf (un kd n k0)))), (h 2, .inl (E.2.1 0, 7, .inl (upd (nf pl) n (nI p0)))), (h 3, .inl (E.2.1 0, 7, .inl (nf bn)))] dX5_join_29 rfl (by decide) (by omega) rfl ?_
    refine g_ws (ws' := [(h 0, .inr (5, oH h da (nI n) de no pa)), (h 1, .inl (E.2.1 0, 7, .inl (nf (un kd n k0)))), (h 2, .inl (E.2.1 0, 7, .inl (nf (un pl n p0)))), (h 3, .inl (E.2.1 0, 7, .inl (nf bn)))]) (by rw [nf_u pl n p0]) ?_
    refine g_aload_n hC dX5_join_30 rfl 0 rfl ?_
    refine g_get hC 0 5 4 inX5 m1_50 dX5_join_31 rfl rfl (by decide) rfl ?_
    refine g_aload_n hC dX5_join_34 rfl 0 rfl ?_
    refine g_get hC 0 5 1 inX5 m1_39 dX5_join_35 rfl rfl (by decide) rfl ?_
    refine g_iconst (v := (nI 1)) hC dX5_join_38 (by decide) ?_
    refine g_aload_n hC dX5_join_39 rfl 0 rfl ?_
    refine g_get hC 0 5 1 inX5 m1_39 dX5_join_40 rfl rfl (by decide) rfl ?_
    refine g_ishl hC dX5_join_43 ?_
    refine g_val (v' := .int (nI (2 ^ n))) (by rw [sh1 (by omega)]) ?_
    refine g_iastN hC 3 [(h 0, .inr (5, oH h da (nI n) de no pa)), (h 1, .inl (E.2.1 0, 7, .inl (nf (un kd n k0)))), (h 2, .inl (E.2.1 0, 7, .inl (nf (un pl n p0)))), (h 3, .inl (E.2.1 0, 7, .inl (upd (nf bn) n (nI (2 ^ n)))))] dX5_join_44 rfl (by decide) (by omega) rfl ?_
    refine g_ws (ws' := [(h 0, .inr (5, oH h da (nI n) de no pa)), (h 1, .inl (E.2.1 0, 7, .inl (nf (un kd n k0)))), (h 2, .inl (E.2.1 0, 7, .inl (nf (un pl n p0)))), (h 3, .inl (E.2.1 0, 7, .inl (nf (un bn n (2 ^ n)))))]) (by rw [nf_u bn n (2 ^ n)]) ?_
    refine g_aload_n hC dX5_join_45 rfl 0 rfl ?_
    refine g_dup hC dX5_join_46 rfl ?_
    refine g_get hC 0 5 1 inX5 m1_39 dX5_join_47 rfl rfl (by decide) rfl ?_
    refine g_iconst (v := (nI 1)) hC dX5_join_50 (by decide) ?_
    refine g_iaddN hC dX5_join_51 ?_
    refine g_put hC 0 5 1 [(h 0, .inr (5, oH h da (nI (n + 1)) de no pa)), (h 1, .inl (E.2.1 0, 7, .inl (nf (un kd n k0)))), (h 2, .inl (E.2.1 0, 7, .inl (nf (un pl n p0)))), (h 3, .inl (E.2.1 0, 7, .inl (nf (un bn n (2 ^ n)))))] .int inX5 tyX5_ok nmX5 m1_39 dX5_join_52 rfl rfl (by decide) rfl (by decide +kernel) rfl rfl (Nat.le_of_ble_eq_true rfl) rfl ?_
    refine g_aload_n hC dX5_join_55 rfl 0 rfl ?_
    refine g_iconst (v := (nI 0)) hC dX5_join_56 (by decide) ?_
    refine g_put hC 0 5 10 [(h 0, .inr (5, oH h da (nI (n + 1)) de no (nI 0))), (h 1, .inl (E.2.1 0, 7, .inl (nf (un kd n k0)))), (h 2, .inl (E.2.1 0, 7, .inl (nf (un pl n p0)))), (h 3, .inl (E.2.1 0, 7, .inl (nf (un bn n (2 ^ n)))))] .int inX5 tyX5_ok nmX5 m1_63 dX5_join_57 rfl rfl (by decide) rfl (by decide +kernel) rfl rfl (Nat.le_of_ble_eq_true rfl) rfl ?_
    exact g_ws (rfl) (hR _ _ dX5_join_60)
  · omega
set_option maxHeartbeats 4000000 in
set_option maxRecDepth 100000 in
theorem f_X5_nameOf (l : Launch) (E : Ew) (h : Nat → Nat) (da : Int32) (de : Int32) (no : Int32) (pa : Int32) (bn : Nat → Nat) (n : Nat) (p : Nat) (hn7 : n ≤ 7) (hb : ∀ j, j < 7 → bn j < 2147483648) (hp : p < 31) : Fn l E 1 yX5_nameOf cX5_nameOf 3 (some .int) [.ref (h 0), .int (nI p)] [(h 0, .inr (5, oH h da (nI n) de no pa)), (h 3, .inl (E.2.1 0, 7, .inl (nf bn)))] (some (.int (fi (fun m => (bn m).testBit p) n))) [(h 0, .inr (5, oH h da (nI n) de no pa)), (h 3, .inl (E.2.1 0, 7, .inl (nf bn)))] := by
  refine fn_I (by decide) (Nat.le_of_ble_eq_true rfl) rfl ?_
  intro K hC hR
  show G K E 3 [(h 0, .inr (5, oH h da (nI n) de no pa)), (h 3, .inl (E.2.1 0, 7, .inl (nf bn)))] [(0, .ref (h 0)), (1, .int (nI p))] 0 []
  refine g_iconst (v := (nI 0)) hC dX5_nameOf_0 (by decide) ?_
  refine g_istore_n hC [(2, .int (nI 0)), (0, .ref (h 0)), (1, .int (nI p))] dX5_nameOf_1 rfl (by decide) rfl ?_
  have L_2 : ∀ (fu : Nat) (k : Nat) (hk : k ≤ n) (hf : fi (fun m => (bn m).testBit p) k = -1), n - k < fu → G K E 3 [(h 0, .inr (5, oH h da (nI n) de no pa)), (h 3, .inl (E.2.1 0, 7, .inl (nf bn)))] [(2, .int (nI k)), (0, .ref (h 0)), (1, .int (nI p))] 2 [] := by
    intro fu
    induction fu with
    | zero => intro k hk hf hm_2; exact absurd hm_2 (Nat.not_lt_zero _)
    | succ fu ih_2 =>
      intro k hk hf hm_2
      refine g_iload_n hC dX5_nameOf_2 rfl 0 rfl ?_
      refine g_aload_n hC dX5_nameOf_3 rfl 1 rfl ?_
      refine g_get hC 0 5 1 inX5 m1_39 dX5_nameOf_4 rfl rfl (by decide) rfl ?_
      refine g_icmp_geN (tgt := 32) hC dX5_nameOf_7 (by decide) (by omega) (by omega) (fun h_7 => ?_) (fun h_7 => ?_)
      · refine g_iconst (v := (-1)) hC dX5_nameOf_32 (by decide) ?_
        exact g_val (by rw [show n = k by omega, hf]) (g_ws (rfl) (hR _ _ dX5_nameOf_33))
      · refine g_aload_n hC dX5_nameOf_10 rfl 1 rfl ?_
        refine g_get hC 0 5 4 inX5 m1_50 dX5_nameOf_11 rfl rfl (by decide) rfl ?_
        refine g_iload_n hC dX5_nameOf_14 rfl 0 rfl ?_
        refine g_ialdN hC 1 dX5_nameOf_15 rfl (by decide) (by omega) ?_
        refine g_val (v' := .int (nI (bn k))) rfl ?_
        refine g_iload_n hC dX5_nameOf_16 rfl 2 rfl ?_
        refine g_callSN hC (f_X11_bit (kl K) E (bn k) p (hb k (by omega)) (by omega)) wX11_bit (List.mem_of_getElem? (i := 18) rfl) dX5_nameOf_17 [] [(h 0, .inr (5, oH h da (nI n) de no pa)), (h 3, .inl (E.2.1 0, 7, .inl (nf bn)))] (by decide) rfl (Nat.le_of_ble_eq_true rfl) rfl rfl rfl rfl rfl ?_
        refine g_iconst (v := (nI 1)) hC dX5_nameOf_20 (by decide) ?_
        refine g_icmp_ne (tgt := 26) hC dX5_nameOf_21 (by decide) (fun h_21 => ?_) (fun h_21 => ?_)
        · refine g_iincN hC (q := 0) 1 [(2, .int (nI (k + 1))), (0, .ref (h 0)), (1, .int (nI p))] dX5_nameOf_26 rfl rfl (by decide) rfl ?_
          refine g_goto (tgt := 2) hC dX5_nameOf_29 (by decide) ?_
          refine g_lv (lv' := [(2, .int (nI (k + 1))), (0, .ref (h 0)), (1, .int (nI p))]) [0, 1, 2] rfl ?_
          exact ih_2 (k + 1) (by omega) (fi_no (P := (fun m => (bn m).testBit p)) hf (by cases q : (bn k).testBit p; rfl; rw [q] at h_21; exact absurd rfl h_21)) (by omega)
        · refine g_iload_n hC dX5_nameOf_24 rfl 0 rfl ?_
          exact g_val (by rw [fi_stay' (k := k + 1) (by rw [fi_yes (P := (fun m => (bn m).testBit p)) hf ((bI_N1 _).mp h_21)]; exact nI_m1 (by omega)) (by omega), fi_yes (P := (fun m => (bn m).testBit p)) hf ((bI_N1 _).mp h_21)]) (g_ws (rfl) (hR _ _ dX5_nameOf_25))
  refine g_lv (lv' := [(2, .int (nI 0)), (0, .ref (h 0)), (1, .int (nI p))]) [0, 1, 2] rfl ?_
  exact L_2 ((n - 0) + 1) 0 (by omega) (rfl) (Nat.lt_succ_self _)
set_option maxHeartbeats 4000000 in
set_option maxRecDepth 100000 in
theorem f_X5_give_y (l : Launch) (E : Ew) (h : Nat → Nat) (da : Int32) (de : Int32) (no : Int32) (pa : Int32) (bn : Nat → Nat) (n : Nat) (p : Nat) (x : Nat) (hn7 : n ≤ 7) (hb : ∀ j, j < 7 → bn j < 2147483648) (hp : p < n) (hx : x < n) : Fn l E 1 yX5_give cX5_give 4 none [.ref (h 0), .int (nI p), .int (nI x)] [(h 0, .inr (5, oH h da (nI n) de no pa)), (h 3, .inl (E.2.1 0, 7, .inl (nf bn)))] none [(h 0, .inr (5, oH h da (nI n) de no pa)), (h 3, .inl (E.2.1 0, 7, .inl (nf (un (gvN bn p n) x (gvN bn p n x ||| 2 ^ p)))))] := by
  refine fn_V (by decide) (Nat.le_of_ble_eq_true rfl) rfl ?_
  intro K hC hR
  show G K E 4 [(h 0, .inr (5, oH h da (nI n) de no pa)), (h 3, .inl (E.2.1 0, 7, .inl (nf bn)))] [(0, .ref (h 0)), (1, .int (nI p)), (2, .int (nI x))] 0 []
  refine g_iconst (v := (nI 0)) hC dX5_give_0 (by decide) ?_
  refine g_istore_n hC [(3, .int (nI 0)), (0, .ref (h 0)), (1, .int (nI p)), (2, .int (nI x))] dX5_give_1 rfl (by decide) rfl ?_
  have L_2 : ∀ (fu : Nat) (k : Nat) (hk : k ≤ n), n - k < fu → G K E 4 [(h 0, .inr (5, oH h da (nI n) de no pa)), (h 3, .inl (E.2.1 0, 7, .inl (nf (gvN bn p k))))] [(3, .int (nI k)), (0, .ref (h 0)), (1, .int (nI p)), (2, .int (nI x))] 2 [] := by
    intro fu
    induction fu with
    | zero => intro k hk hm_2; exact absurd hm_2 (Nat.not_lt_zero _)
    | succ fu ih_2 =>
      intro k hk hm_2
      refine g_iload_n hC dX5_give_2 rfl 0 rfl ?_
      refine g_aload_n hC dX5_give_3 rfl 1 rfl ?_
      refine g_get hC 0 5 1 inX5 m1_39 dX5_give_4 rfl rfl (by decide) rfl ?_
      refine g_icmp_geN (tgt := 30) hC dX5_give_7 (by decide) (by omega) (by omega) (fun h_7 => ?_) (fun h_7 => ?_)
      · refine g_iload_n hC dX5_give_30 rfl 3 rfl ?_
        refine g_aload_n hC dX5_give_31 rfl 1 rfl ?_
        refine g_get hC 0 5 1 inX5 m1_39 dX5_give_32 rfl rfl (by decide) rfl ?_
        refine g_callSN hC (f_X11_within (kl K) E (nI x) n (by omega)) wX11_within (List.mem_of_getElem? (i := 16) rfl) dX5_give_35 [] [(h 0, .inr (5, oH h da (nI n) de no pa)), (h 3, .inl (E.2.1 0, 7, .inl (nf (gvN bn p k))))] (by decide) rfl (Nat.le_of_ble_eq_true rfl) rfl rfl rfl rfl rfl ?_
        refine g_if_eqB (tgt := 53) hC dX5_give_38 (by decide) (fun h_38 => ?_) (fun h_38 => ?_)
        · exact Bool.noConfusion ((inB_ok (by omega) (by omega)).symm.trans h_38)
        · refine g_aload_n hC dX5_give_41 rfl 1 rfl ?_
          refine g_get hC 0 5 4 inX5 m1_50 dX5_give_42 rfl rfl (by decide) rfl ?_
          refine g_iload_n hC dX5_give_45 rfl 3 rfl ?_
          refine g_dup2 hC dX5_give_46 rfl rfl ?_
          refine g_ialdN hC 1 dX5_give_47 rfl (by decide) (by omega) ?_
          refine g_val (v' := .int (nI ((gvN bn p k) x))) rfl ?_
          refine g_iconst (v := (nI 1)) hC dX5_give_48 (by decide) ?_
          refine g_iload_n hC dX5_give_49 rfl 2 rfl ?_
          refine g_ishl hC dX5_give_50 ?_
          refine g_val (v' := .int (nI (2 ^ p))) (by rw [sh1 (by omega)]) ?_
          refine g_ior hC dX5_give_51 ?_
          refine g_val (v' := .int (nI (gvN bn p k x ||| 2 ^ p))) (by rw [fa_or]) ?_
          refine g_iastN hC 1 [(h 0, .inr (5, oH h da (nI n) de no pa)), (h 3, .inl (E.2.1 0, 7, .inl (upd (nf (gvN bn p k)) x (nI (gvN bn p k x ||| 2 ^ p)))))] dX5_give_52 rfl (by decide) (by omega) rfl ?_
          refine g_ws (ws' := [(h 0, .inr (5, oH h da (nI n) de no pa)), (h 3, .inl (E.2.1 0, 7, .inl (nf (un (gvN bn p k) x (gvN bn p k x ||| 2 ^ p)))))]) (by rw [nf_u (gvN bn p k) x (gvN bn p k x ||| 2 ^ p)]) ?_
          exact g_ws (by rw [show k = n by omega]) (hR _ _ dX5_give_53)
      · refine g_aload_n hC dX5_give_10 rfl 1 rfl ?_
        refine g_get hC 0 5 4 inX5 m1_50 dX5_give_11 rfl rfl (by decide) rfl ?_
        refine g_iload_n hC dX5_give_14 rfl 0 rfl ?_
        refine g_dup2 hC dX5_give_15 rfl rfl ?_
        refine g_ialdN hC 1 dX5_give_16 rfl (by decide) (by omega) ?_
        refine g_val (v' := .int (nI ((gvN bn p k) k))) rfl ?_
        refine g_val (v' := .int (nI (bn k))) (by rw [gvN_k]) ?_
        refine g_iconst (v := (nI 1)) hC dX5_give_17 (by decide) ?_
        refine g_iload_n hC dX5_give_18 rfl 2 rfl ?_
        refine g_ishl hC dX5_give_19 ?_
        refine g_val (v' := .int (nI (2 ^ p))) (by rw [sh1 (by omega)]) ?_
        refine g_iconst (v := (-1)) hC dX5_give_20 (by decide) ?_
        refine g_ixor hC dX5_give_21 ?_
        refine g_iand hC dX5_give_22 ?_
        refine g_val (v' := .int (nI (andn (bn k) (2 ^ p)))) (by rw [andn_N (hb k (by omega))]) ?_
        refine g_iastN hC 1 [(h 0, .inr (5, oH h da (nI n) de no pa)), (h 3, .inl (E.2.1 0, 7, .inl (upd (nf (gvN bn p k)) k (nI (andn (bn k) (2 ^ p))))))] dX5_give_23 rfl (by decide) (by omega) rfl ?_
        refine g_ws (ws' := [(h 0, .inr (5, oH h da (nI n) de no pa)), (h 3, .inl (E.2.1 0, 7, .inl (nf (un (gvN bn p k) k (andn (bn k) (2 ^ p))))))]) (by rw [nf_u (gvN bn p k) k (andn (bn k) (2 ^ p))]) ?_
        refine g_iincN hC (q := 0) 1 [(3, .int (nI (k + 1))), (0, .ref (h 0)), (1, .int (nI p)), (2, .int (nI x))] dX5_give_24 rfl rfl (by decide) rfl ?_
        refine g_goto (tgt := 2) hC dX5_give_27 (by decide) ?_
        refine g_lv (lv' := [(3, .int (nI (k + 1))), (0, .ref (h 0)), (1, .int (nI p)), (2, .int (nI x))]) [0, 1, 2, 3] rfl ?_
        refine g_ws (ws' := [(h 0, .inr (5, oH h da (nI n) de no pa)), (h 3, .inl (E.2.1 0, 7, .inl (nf (gvN bn p (k + 1)))))]) (by rw [gvN_s]) ?_
        exact ih_2 (k + 1) (by omega) (by omega)
  refine g_lv (lv' := [(3, .int (nI 0)), (0, .ref (h 0)), (1, .int (nI p)), (2, .int (nI x))]) [0, 1, 2, 3] rfl ?_
  refine g_ws (ws' := [(h 0, .inr (5, oH h da (nI n) de no pa)), (h 3, .inl (E.2.1 0, 7, .inl (nf (gvN bn p 0))))]) (by rw [gvN_0]) ?_
  exact L_2 ((n - 0) + 1) 0 (by omega) (Nat.lt_succ_self _)
set_option maxHeartbeats 4000000 in
set_option maxRecDepth 100000 in
theorem f_X5_give_n (l : Launch) (E : Ew) (h : Nat → Nat) (da : Int32) (de : Int32) (no : Int32) (pa : Int32) (bn : Nat → Nat) (n : Nat) (p : Nat) (hn7 : n ≤ 7) (hb : ∀ j, j < 7 → bn j < 2147483648) (hp : p < n) : Fn l E 1 yX5_give cX5_give 4 none [.ref (h 0), .int (nI p), .int (-1)] [(h 0, .inr (5, oH h da (nI n) de no pa)), (h 3, .inl (E.2.1 0, 7, .inl (nf bn)))] none [(h 0, .inr (5, oH h da (nI n) de no pa)), (h 3, .inl (E.2.1 0, 7, .inl (nf (gvN bn p n))))] := by
  refine fn_V (by decide) (Nat.le_of_ble_eq_true rfl) rfl ?_
  intro K hC hR
  show G K E 4 [(h 0, .inr (5, oH h da (nI n) de no pa)), (h 3, .inl (E.2.1 0, 7, .inl (nf bn)))] [(0, .ref (h 0)), (1, .int (nI p)), (2, .int (-1))] 0 []
  refine g_iconst (v := (nI 0)) hC dX5_give_0 (by decide) ?_
  refine g_istore_n hC [(3, .int (nI 0)), (0, .ref (h 0)), (1, .int (nI p)), (2, .int (-1))] dX5_give_1 rfl (by decide) rfl ?_
  have L_2 : ∀ (fu : Nat) (k : Nat) (hk : k ≤ n), n - k < fu → G K E 4 [(h 0, .inr (5, oH h da (nI n) de no pa)), (h 3, .inl (E.2.1 0, 7, .inl (nf (gvN bn p k))))] [(3, .int (nI k)), (0, .ref (h 0)), (1, .int (nI p)), (2, .int (-1))] 2 [] := by
    intro fu
    induction fu with
    | zero => intro k hk hm_2; exact absurd hm_2 (Nat.not_lt_zero _)
    | succ fu ih_2 =>
      intro k hk hm_2
      refine g_iload_n hC dX5_give_2 rfl 0 rfl ?_
      refine g_aload_n hC dX5_give_3 rfl 1 rfl ?_
      refine g_get hC 0 5 1 inX5 m1_39 dX5_give_4 rfl rfl (by decide) rfl ?_
      refine g_icmp_geN (tgt := 30) hC dX5_give_7 (by decide) (by omega) (by omega) (fun h_7 => ?_) (fun h_7 => ?_)
      · refine g_iload_n hC dX5_give_30 rfl 3 rfl ?_
        refine g_aload_n hC dX5_give_31 rfl 1 rfl ?_
        refine g_get hC 0 5 1 inX5 m1_39 dX5_give_32 rfl rfl (by decide) rfl ?_
        refine g_callSN hC (f_X11_within (kl K) E (-1) n (by omega)) wX11_within (List.mem_of_getElem? (i := 16) rfl) dX5_give_35 [] [(h 0, .inr (5, oH h da (nI n) de no pa)), (h 3, .inl (E.2.1 0, 7, .inl (nf (gvN bn p k))))] (by decide) rfl (Nat.le_of_ble_eq_true rfl) rfl rfl rfl rfl rfl ?_
        refine g_if_eqB (tgt := 53) hC dX5_give_38 (by decide) (fun h_38 => ?_) (fun h_38 => ?_)
        · exact g_ws (by rw [show k = n by omega]) (hR _ _ dX5_give_53)
        · exact Bool.noConfusion ((inB_m1 n).symm.trans h_38)
      · refine g_aload_n hC dX5_give_10 rfl 1 rfl ?_
        refine g_get hC 0 5 4 inX5 m1_50 dX5_give_11 rfl rfl (by decide) rfl ?_
        refine g_iload_n hC dX5_give_14 rfl 0 rfl ?_
        refine g_dup2 hC dX5_give_15 rfl rfl ?_
        refine g_ialdN hC 1 dX5_give_16 rfl (by decide) (by omega) ?_
        refine g_val (v' := .int (nI ((gvN bn p k) k))) rfl ?_
        refine g_val (v' := .int (nI (bn k))) (by rw [gvN_k]) ?_
        refine g_iconst (v := (nI 1)) hC dX5_give_17 (by decide) ?_
        refine g_iload_n hC dX5_give_18 rfl 2 rfl ?_
        refine g_ishl hC dX5_give_19 ?_
        refine g_val (v' := .int (nI (2 ^ p))) (by rw [sh1 (by omega)]) ?_
        refine g_iconst (v := (-1)) hC dX5_give_20 (by decide) ?_
        refine g_ixor hC dX5_give_21 ?_
        refine g_iand hC dX5_give_22 ?_
        refine g_val (v' := .int (nI (andn (bn k) (2 ^ p)))) (by rw [andn_N (hb k (by omega))]) ?_
        refine g_iastN hC 1 [(h 0, .inr (5, oH h da (nI n) de no pa)), (h 3, .inl (E.2.1 0, 7, .inl (upd (nf (gvN bn p k)) k (nI (andn (bn k) (2 ^ p))))))] dX5_give_23 rfl (by decide) (by omega) rfl ?_
        refine g_ws (ws' := [(h 0, .inr (5, oH h da (nI n) de no pa)), (h 3, .inl (E.2.1 0, 7, .inl (nf (un (gvN bn p k) k (andn (bn k) (2 ^ p))))))]) (by rw [nf_u (gvN bn p k) k (andn (bn k) (2 ^ p))]) ?_
        refine g_iincN hC (q := 0) 1 [(3, .int (nI (k + 1))), (0, .ref (h 0)), (1, .int (nI p)), (2, .int (-1))] dX5_give_24 rfl rfl (by decide) rfl ?_
        refine g_goto (tgt := 2) hC dX5_give_27 (by decide) ?_
        refine g_lv (lv' := [(3, .int (nI (k + 1))), (0, .ref (h 0)), (1, .int (nI p)), (2, .int (-1))]) [0, 1, 2, 3] rfl ?_
        refine g_ws (ws' := [(h 0, .inr (5, oH h da (nI n) de no pa)), (h 3, .inl (E.2.1 0, 7, .inl (nf (gvN bn p (k + 1)))))]) (by rw [gvN_s]) ?_
        exact ih_2 (k + 1) (by omega) (by omega)
  refine g_lv (lv' := [(3, .int (nI 0)), (0, .ref (h 0)), (1, .int (nI p)), (2, .int (-1))]) [0, 1, 2, 3] rfl ?_
  refine g_ws (ws' := [(h 0, .inr (5, oH h da (nI n) de no pa)), (h 3, .inl (E.2.1 0, 7, .inl (nf (gvN bn p 0))))]) (by rw [gvN_0]) ?_
  exact L_2 ((n - 0) + 1) 0 (by omega) (Nat.lt_succ_self _)
set_option maxHeartbeats 4000000 in
set_option maxRecDepth 100000 in
theorem f_X5_penceOn (l : Launch) (E : Ew) (h : Nat → Nat) (da : Int32) (pe : Int32) (no : Int32) (pa : Int32) (dn : Nat → Nat) (dp : Nat → Nat) (u : Nat) (x : Nat) (hu : u ≤ 6) (hx : x < 100) (hdn : ∀ k, k < u → dn k < 100) : Fn l E 0 yX5_penceOn cX5_penceOn 4 (some .int) [.ref (h 0), .int (nI x)] [(h 0, .inr (5, oH h da pe (nI u) no pa)), (h 4, .inl (E.2.1 0, 6, .inl (nf dn))), (h 5, .inl (E.2.1 0, 6, .inl (nf dp)))] (some (.int (nI (pC dn dp x u)))) [(h 0, .inr (5, oH h da pe (nI u) no pa)), (h 4, .inl (E.2.1 0, 6, .inl (nf dn))), (h 5, .inl (E.2.1 0, 6, .inl (nf dp)))] := by
  refine fn_I (by decide) (Nat.le_of_ble_eq_true rfl) rfl ?_
  intro K hC hR
  show G K E 4 [(h 0, .inr (5, oH h da pe (nI u) no pa)), (h 4, .inl (E.2.1 0, 6, .inl (nf dn))), (h 5, .inl (E.2.1 0, 6, .inl (nf dp)))] [(0, .ref (h 0)), (1, .int (nI x))] 0 []
  refine g_iconst (v := (nI 0)) hC dX5_penceOn_0 (by decide) ?_
  refine g_istore_n hC [(2, .int (nI 0)), (0, .ref (h 0)), (1, .int (nI x))] dX5_penceOn_1 rfl (by decide) rfl ?_
  refine g_iconst (v := (nI 0)) hC dX5_penceOn_2 (by decide) ?_
  refine g_istore_n hC [(3, .int (nI 0)), (2, .int (nI 0)), (0, .ref (h 0)), (1, .int (nI x))] dX5_penceOn_3 rfl (by decide) rfl ?_
  have L_4 : ∀ (fu : Nat) (k : Nat) (hk : k ≤ u), u - k < fu → G K E 4 [(h 0, .inr (5, oH h da pe (nI u) no pa)), (h 4, .inl (E.2.1 0, 6, .inl (nf dn))), (h 5, .inl (E.2.1 0, 6, .inl (nf dp)))] [(3, .int (nI k)), (2, .int (nI (pC dn dp x k))), (0, .ref (h 0)), (1, .int (nI x))] 4 [] := by
    intro fu
    induction fu with
    | zero => intro k hk hm_4; exact absurd hm_4 (Nat.not_lt_zero _)
    | succ fu ih_4 =>
      intro k hk hm_4
      refine g_iload_n hC dX5_penceOn_4 rfl 0 rfl ?_
      refine g_aload_n hC dX5_penceOn_5 rfl 2 rfl ?_
      refine g_get hC 0 5 5 inX5 m1_53 dX5_penceOn_6 rfl rfl (by decide) rfl ?_
      refine g_icmp_geN (tgt := 37) hC dX5_penceOn_9 (by decide) (by omega) (by omega) (fun h_9 => ?_) (fun h_9 => ?_)
      · refine g_iload_n hC dX5_penceOn_37 rfl 1 rfl ?_
        exact g_val (by rw [show k = u by omega]) (g_ws (rfl) (hR _ _ dX5_penceOn_38))
      · have hdk := hdn k (by omega)
        refine g_aload_n hC dX5_penceOn_12 rfl 2 rfl ?_
        refine g_get hC 0 5 6 inX5 m1_55 dX5_penceOn_13 rfl rfl (by decide) rfl ?_
        refine g_iload_n hC dX5_penceOn_16 rfl 0 rfl ?_
        refine g_ialdN hC 1 dX5_penceOn_17 rfl (by decide) (by omega) ?_
        refine g_val (v' := .int (nI (dn k))) rfl ?_
        refine g_iload_n hC dX5_penceOn_18 rfl 3 rfl ?_
        refine g_icmp_neN (tgt := 31) hC dX5_penceOn_19 (by decide) (by omega) (by omega) (fun h_19 => ?_) (fun h_19 => ?_)
        · refine g_iincN hC (q := 0) 1 [(3, .int (nI (k + 1))), (2, .int (nI (pC dn dp x k))), (0, .ref (h 0)), (1, .int (nI x))] dX5_penceOn_31 rfl rfl (by decide) rfl ?_
          refine g_goto (tgt := 4) hC dX5_penceOn_34 (by decide) ?_
          refine g_lv (lv' := [(3, .int (nI (k + 1))), (2, .int (nI (pC dn dp x k))), (0, .ref (h 0)), (1, .int (nI x))]) [0, 1, 2, 3] rfl ?_
          refine g_lve (lv' := [(3, .int (nI (k + 1))), (2, .int (nI (pC dn dp x (k + 1)))), (0, .ref (h 0)), (1, .int (nI x))]) (by simp [pC, h_9, h_19]) ?_
          exact ih_4 (k + 1) (by omega) (by omega)
        · refine g_iload_n hC dX5_penceOn_22 rfl 1 rfl ?_
          refine g_aload_n hC dX5_penceOn_23 rfl 2 rfl ?_
          refine g_get hC 0 5 7 inX5 m1_57 dX5_penceOn_24 rfl rfl (by decide) rfl ?_
          refine g_iload_n hC dX5_penceOn_27 rfl 0 rfl ?_
          refine g_ialdN hC 2 dX5_penceOn_28 rfl (by decide) (by omega) ?_
          refine g_val (v' := .int (nI (dp k))) rfl ?_
          refine g_iaddN hC dX5_penceOn_29 ?_
          refine g_istore_n hC [(2, .int (nI (pC dn dp x k + dp k))), (3, .int (nI k)), (0, .ref (h 0)), (1, .int (nI x))] dX5_penceOn_30 rfl (by decide) rfl ?_
          refine g_iincN hC (q := 1) 1 [(3, .int (nI (k + 1))), (2, .int (nI (pC dn dp x k + dp k))), (0, .ref (h 0)), (1, .int (nI x))] dX5_penceOn_31 rfl rfl (by decide) rfl ?_
          refine g_goto (tgt := 4) hC dX5_penceOn_34 (by decide) ?_
          refine g_lv (lv' := [(3, .int (nI (k + 1))), (2, .int (nI (pC dn dp x k + dp k))), (0, .ref (h 0)), (1, .int (nI x))]) [0, 1, 2, 3] rfl ?_
          refine g_lve (lv' := [(3, .int (nI (k + 1))), (2, .int (nI (pC dn dp x (k + 1)))), (0, .ref (h 0)), (1, .int (nI x))]) (by simp [pC, h_9, h_19]) ?_
          exact ih_4 (k + 1) (by omega) (by omega)
  refine g_lv (lv' := [(3, .int (nI 0)), (2, .int (nI 0)), (0, .ref (h 0)), (1, .int (nI x))]) [0, 1, 2, 3] rfl ?_
  refine g_lve (lv' := [(3, .int (nI 0)), (2, .int (nI (pC dn dp x 0))), (0, .ref (h 0)), (1, .int (nI x))]) (rfl) ?_
  exact L_4 ((u - 0) + 1) 0 (by omega) (Nat.lt_succ_self _)
set_option maxHeartbeats 4000000 in
set_option maxRecDepth 100000 in
theorem f_X5_write (l : Launch) (E : Ew) (h : Nat → Nat) (da : Int32) (pe : Int32) (de : Int32) (pa : Int32) (nt : Nat → Nat) (v : Nat) (p : Nat) (x : Nat) (d : Nat) (b : Nat) (t : Nat) (hv : v < 6) : Fn l E 0 yX5_write cX5_write 7 none [.ref (h 0), .int (nI p), .int (nI x), .int (nI d), .int (nI b), .int (nI t)] [(h 0, .inr (5, oH h da pe de (nI v) pa)), (h 6, .inl (E.2.1 0, 30, .inl (nf nt)))] none [(h 0, .inr (5, oH h da pe de (nI (v + 1)) pa)), (h 6, .inl (E.2.1 0, 30, .inl (nf (wrN nt p x d b t v))))] := by
  refine fn_V (by decide) (Nat.le_of_ble_eq_true rfl) rfl ?_
  intro K hC hR
  show G K E 7 [(h 0, .inr (5, oH h da pe de (nI v) pa)), (h 6, .inl (E.2.1 0, 30, .inl (nf nt)))] [(0, .ref (h 0)), (1, .int (nI p)), (2, .int (nI x)), (3, .int (nI d)), (4, .int (nI b)), (5, .int (nI t))] 0 []
  refine g_aload_n hC dX5_write_0 rfl 0 rfl ?_
  refine g_get hC 0 5 8 inX5 m1_59 dX5_write_1 rfl rfl (by decide) rfl ?_
  refine g_bipush (v := (nI 6)) hC dX5_write_4 (by decide) ?_
  refine g_icmp_ltN (tgt := 10) hC dX5_write_6 (by decide) (by omega) (by omega) (fun h_6 => ?_) (fun h_6 => ?_)
  · refine g_aload_n hC dX5_write_10 rfl 0 rfl ?_
    refine g_get hC 0 5 8 inX5 m1_59 dX5_write_11 rfl rfl (by decide) rfl ?_
    refine g_iconst (v := (nI 5)) hC dX5_write_14 (by decide) ?_
    refine g_imulN hC dX5_write_15 ?_
    refine g_istore hC [(6, .int (nI (v * 5))), (0, .ref (h 0)), (1, .int (nI p)), (2, .int (nI x)), (3, .int (nI d)), (4, .int (nI b)), (5, .int (nI t))] dX5_write_16 (by decide) rfl ?_
    refine g_aload_n hC dX5_write_18 rfl 1 rfl ?_
    refine g_get hC 0 5 9 inX5 m1_61 dX5_write_19 rfl rfl (by decide) rfl ?_
    refine g_iload hC dX5_write_22 0 rfl ?_
    refine g_iload_n hC dX5_write_24 rfl 2 rfl ?_
    refine g_iastN hC 1 [(h 0, .inr (5, oH h da pe de (nI v) pa)), (h 6, .inl (E.2.1 0, 30, .inl (upd (nf nt) (v * 5) (nI p))))] dX5_write_25 rfl (by decide) (by omega) rfl ?_
    refine g_ws (ws' := [(h 0, .inr (5, oH h da pe de (nI v) pa)), (h 6, .inl (E.2.1 0, 30, .inl (nf (un nt (v * 5) p))))]) (by rw [nf_u nt (v * 5) p]) ?_
    refine g_aload_n hC dX5_write_26 rfl 1 rfl ?_
    refine g_get hC 0 5 9 inX5 m1_61 dX5_write_27 rfl rfl (by decide) rfl ?_
    refine g_iload hC dX5_write_30 0 rfl ?_
    refine g_iconst (v := (nI 1)) hC dX5_write_32 (by decide) ?_
    refine g_iaddN hC dX5_write_33 ?_
    refine g_iload_n hC dX5_write_34 rfl 3 rfl ?_
    refine g_iastN hC 1 [(h 0, .inr (5, oH h da pe de (nI v) pa)), (h 6, .inl (E.2.1 0, 30, .inl (upd (nf (un nt (v * 5) p)) ((v * 5) + 1) (nI x))))] dX5_write_35 rfl (by decide) (by omega) rfl ?_
    refine g_ws (ws' := [(h 0, .inr (5, oH h da pe de (nI v) pa)), (h 6, .inl (E.2.1 0, 30, .inl (nf (un (un nt (v * 5) p) ((v * 5) + 1) x))))]) (by rw [nf_u (un nt (v * 5) p) ((v * 5) + 1) x]) ?_
    refine g_aload_n hC dX5_write_36 rfl 1 rfl ?_
    refine g_get hC 0 5 9 inX5 m1_61 dX5_write_37 rfl rfl (by decide) rfl ?_
    refine g_iload hC dX5_write_40 0 rfl ?_
    refine g_iconst (v := (nI 2)) hC dX5_write_42 (by decide) ?_
    refine g_iaddN hC dX5_write_43 ?_
    refine g_iload_n hC dX5_write_44 rfl 4 rfl ?_
    refine g_iastN hC 1 [(h 0, .inr (5, oH h da pe de (nI v) pa)), (h 6, .inl (E.2.1 0, 30, .inl (upd (nf (un (un nt (v * 5) p) ((v * 5) + 1) x)) ((v * 5) + 2) (nI d))))] dX5_write_45 rfl (by decide) (by omega) rfl ?_
    refine g_ws (ws' := [(h 0, .inr (5, oH h da pe de (nI v) pa)), (h 6, .inl (E.2.1 0, 30, .inl (nf (un (un (un nt (v * 5) p) ((v * 5) + 1) x) ((v * 5) + 2) d))))]) (by rw [nf_u (un (un nt (v * 5) p) ((v * 5) + 1) x) ((v * 5) + 2) d]) ?_
    refine g_aload_n hC dX5_write_46 rfl 1 rfl ?_
    refine g_get hC 0 5 9 inX5 m1_61 dX5_write_47 rfl rfl (by decide) rfl ?_
    refine g_iload hC dX5_write_50 0 rfl ?_
    refine g_iconst (v := (nI 3)) hC dX5_write_52 (by decide) ?_
    refine g_iaddN hC dX5_write_53 ?_
    refine g_iload hC dX5_write_54 5 rfl ?_
    refine g_iastN hC 1 [(h 0, .inr (5, oH h da pe de (nI v) pa)), (h 6, .inl (E.2.1 0, 30, .inl (upd (nf (un (un (un nt (v * 5) p) ((v * 5) + 1) x) ((v * 5) + 2) d)) ((v * 5) + 3) (nI b))))] dX5_write_56 rfl (by decide) (by omega) rfl ?_
    refine g_ws (ws' := [(h 0, .inr (5, oH h da pe de (nI v) pa)), (h 6, .inl (E.2.1 0, 30, .inl (nf (un (un (un (un nt (v * 5) p) ((v * 5) + 1) x) ((v * 5) + 2) d) ((v * 5) + 3) b))))]) (by rw [nf_u (un (un (un nt (v * 5) p) ((v * 5) + 1) x) ((v * 5) + 2) d) ((v * 5) + 3) b]) ?_
    refine g_aload_n hC dX5_write_57 rfl 1 rfl ?_
    refine g_get hC 0 5 9 inX5 m1_61 dX5_write_58 rfl rfl (by decide) rfl ?_
    refine g_iload hC dX5_write_61 0 rfl ?_
    refine g_iconst (v := (nI 4)) hC dX5_write_63 (by decide) ?_
    refine g_iaddN hC dX5_write_64 ?_
    refine g_iload hC dX5_write_65 6 rfl ?_
    refine g_iastN hC 1 [(h 0, .inr (5, oH h da pe de (nI v) pa)), (h 6, .inl (E.2.1 0, 30, .inl (upd (nf (un (un (un (un nt (v * 5) p) ((v * 5) + 1) x) ((v * 5) + 2) d) ((v * 5) + 3) b)) ((v * 5) + 4) (nI t))))] dX5_write_67 rfl (by decide) (by omega) rfl ?_
    refine g_ws (ws' := [(h 0, .inr (5, oH h da pe de (nI v) pa)), (h 6, .inl (E.2.1 0, 30, .inl (nf (un (un (un (un (un nt (v * 5) p) ((v * 5) + 1) x) ((v * 5) + 2) d) ((v * 5) + 3) b) ((v * 5) + 4) t))))]) (by rw [nf_u (un (un (un (un nt (v * 5) p) ((v * 5) + 1) x) ((v * 5) + 2) d) ((v * 5) + 3) b) ((v * 5) + 4) t]) ?_
    refine g_aload_n hC dX5_write_68 rfl 1 rfl ?_
    refine g_dup hC dX5_write_69 rfl ?_
    refine g_get hC 0 5 8 inX5 m1_59 dX5_write_70 rfl rfl (by decide) rfl ?_
    refine g_iconst (v := (nI 1)) hC dX5_write_73 (by decide) ?_
    refine g_iaddN hC dX5_write_74 ?_
    refine g_put hC 0 5 8 [(h 0, .inr (5, oH h da pe de (nI (v + 1)) pa)), (h 6, .inl (E.2.1 0, 30, .inl (nf (un (un (un (un (un nt (v * 5) p) ((v * 5) + 1) x) ((v * 5) + 2) d) ((v * 5) + 3) b) ((v * 5) + 4) t))))] .int inX5 tyX5_ok nmX5 m1_59 dX5_write_75 rfl rfl (by decide) rfl (by decide +kernel) rfl rfl (Nat.le_of_ble_eq_true rfl) rfl ?_
    exact g_ws (rfl) (hR _ _ dX5_write_78)
  · omega
set_option maxHeartbeats 4000000 in
set_option maxRecDepth 100000 in
theorem f_X5_remember (l : Launch) (E : Ew) (h : Nat → Nat) (da : Int32) (pe : Int32) (de : Int32) (no : Int32) (pl : Nat → Nat) (bn : Nat → Nat) (ps : Nat → Int32) (u : Nat) (hu : u ≤ 8) : Fn l E 1 yX5_remember cX5_remember 2 none [.ref (h 0)] [(h 0, .inr (5, oH h da pe de no (nI u))), (h 2, .inl (E.2.1 0, 7, .inl (nf pl))), (h 3, .inl (E.2.1 0, 7, .inl (nf bn))), (h 7, .inl (E.2.1 0, 120, .inl ps))] none [(h 0, .inr (5, oH h da pe de no (nI (if u = 8 then 8 else u + 1)))), (h 2, .inl (E.2.1 0, 7, .inl (nf pl))), (h 3, .inl (E.2.1 0, 7, .inl (nf bn))), (h 7, .inl (E.2.1 0, 120, .inl (rmF bn pl da ps u)))] := by
  refine fn_V (by decide) (Nat.le_of_ble_eq_true rfl) rfl ?_
  intro K hC hR
  show G K E 2 [(h 0, .inr (5, oH h da pe de no (nI u))), (h 2, .inl (E.2.1 0, 7, .inl (nf pl))), (h 3, .inl (E.2.1 0, 7, .inl (nf bn))), (h 7, .inl (E.2.1 0, 120, .inl ps))] [(0, .ref (h 0))] 0 []
  refine g_aload_n hC dX5_remember_0 rfl 0 rfl ?_
  refine g_get hC 0 5 10 inX5 m1_63 dX5_remember_1 rfl rfl (by decide) rfl ?_
  refine g_bipush (v := (nI 8)) hC dX5_remember_4 (by decide) ?_
  refine g_icmp_ltN (tgt := 36) hC dX5_remember_6 (by decide) (by omega) (by omega) (fun h_6 => ?_) (fun h_6 => ?_)
  · refine g_aload_n hC dX5_remember_36 rfl 0 rfl ?_
    refine g_get hC 0 5 10 inX5 m1_63 dX5_remember_37 rfl rfl (by decide) rfl ?_
    refine g_bipush (v := (nI 15)) hC dX5_remember_40 (by decide) ?_
    refine g_imulN hC dX5_remember_42 ?_
    refine g_istore_n hC [(1, .int (nI (u * 15))), (0, .ref (h 0))] dX5_remember_43 rfl (by decide) rfl ?_
    refine g_aload_n hC dX5_remember_44 rfl 1 rfl ?_
    refine g_get hC 0 5 4 inX5 m1_50 dX5_remember_45 rfl rfl (by decide) rfl ?_
    refine g_iconst (v := (nI 0)) hC dX5_remember_48 (by decide) ?_
    refine g_aload_n hC dX5_remember_49 rfl 1 rfl ?_
    refine g_get hC 0 5 11 inX5 m1_65 dX5_remember_50 rfl rfl (by decide) rfl ?_
    refine g_iload_n hC dX5_remember_53 rfl 0 rfl ?_
    refine g_bipush (v := (nI 7)) hC dX5_remember_54 (by decide) ?_
    refine g_copy (t0 := 0) hC 2 3 [(h 0, .inr (5, oH h da pe de no (nI u))), (h 2, .inl (E.2.1 0, 7, .inl (nf pl))), (h 3, .inl (E.2.1 0, 7, .inl (nf bn))), (h 7, .inl (E.2.1 0, 120, .inl (va_cpy (nf bn) ps 0 (u * 15) 7)))] m2_149 m2_151 m2_150 m1_19 dX5_remember_56 rfl rfl (by decide) (by decide) (by omega) (by omega) (by decide) (Nat.le_of_ble_eq_true rfl) rfl ?_
    refine g_aload_n hC dX5_remember_59 rfl 1 rfl ?_
    refine g_get hC 0 5 3 inX5 m1_47 dX5_remember_60 rfl rfl (by decide) rfl ?_
    refine g_iconst (v := (nI 0)) hC dX5_remember_63 (by decide) ?_
    refine g_aload_n hC dX5_remember_64 rfl 1 rfl ?_
    refine g_get hC 0 5 11 inX5 m1_65 dX5_remember_65 rfl rfl (by decide) rfl ?_
    refine g_iload_n hC dX5_remember_68 rfl 0 rfl ?_
    refine g_bipush (v := (nI 7)) hC dX5_remember_69 (by decide) ?_
    refine g_iaddN hC dX5_remember_71 ?_
    refine g_bipush (v := (nI 7)) hC dX5_remember_72 (by decide) ?_
    refine g_copy (t0 := 0) hC 1 3 [(h 0, .inr (5, oH h da pe de no (nI u))), (h 2, .inl (E.2.1 0, 7, .inl (nf pl))), (h 3, .inl (E.2.1 0, 7, .inl (nf bn))), (h 7, .inl (E.2.1 0, 120, .inl (va_cpy (nf pl) (va_cpy (nf bn) ps 0 (u * 15) 7) 0 ((u * 15) + 7) 7)))] m2_149 m2_151 m2_150 m1_19 dX5_remember_74 rfl rfl (by decide) (by decide) (by omega) (by omega) (by decide) (Nat.le_of_ble_eq_true rfl) rfl ?_
    refine g_aload_n hC dX5_remember_77 rfl 1 rfl ?_
    refine g_get hC 0 5 11 inX5 m1_65 dX5_remember_78 rfl rfl (by decide) rfl ?_
    refine g_iload_n hC dX5_remember_81 rfl 0 rfl ?_
    refine g_bipush (v := (nI 14)) hC dX5_remember_82 (by decide) ?_
    refine g_iaddN hC dX5_remember_84 ?_
    refine g_aload_n hC dX5_remember_85 rfl 1 rfl ?_
    refine g_get hC 0 5 0 inX5 m1_36 dX5_remember_86 rfl rfl (by decide) rfl ?_
    refine g_iastN hC 3 [(h 0, .inr (5, oH h da pe de no (nI u))), (h 2, .inl (E.2.1 0, 7, .inl (nf pl))), (h 3, .inl (E.2.1 0, 7, .inl (nf bn))), (h 7, .inl (E.2.1 0, 120, .inl (upd (va_cpy (nf pl) (va_cpy (nf bn) ps 0 (u * 15) 7) 0 ((u * 15) + 7) 7) ((u * 15) + 14) da)))] dX5_remember_89 rfl (by decide) (by omega) rfl ?_
    refine g_aload_n hC dX5_remember_90 rfl 1 rfl ?_
    refine g_dup hC dX5_remember_91 rfl ?_
    refine g_get hC 0 5 10 inX5 m1_63 dX5_remember_92 rfl rfl (by decide) rfl ?_
    refine g_iconst (v := (nI 1)) hC dX5_remember_95 (by decide) ?_
    refine g_iaddN hC dX5_remember_96 ?_
    refine g_put hC 0 5 10 [(h 0, .inr (5, oH h da pe de no (nI (u + 1)))), (h 2, .inl (E.2.1 0, 7, .inl (nf pl))), (h 3, .inl (E.2.1 0, 7, .inl (nf bn))), (h 7, .inl (E.2.1 0, 120, .inl (upd (va_cpy (nf pl) (va_cpy (nf bn) ps 0 (u * 15) 7) 0 ((u * 15) + 7) 7) ((u * 15) + 14) da)))] .int inX5 tyX5_ok nmX5 m1_63 dX5_remember_97 rfl rfl (by decide) rfl (by decide +kernel) rfl rfl (Nat.le_of_ble_eq_true rfl) rfl ?_
    exact g_ws (by unfold rmF; simp only [if_neg (show ¬ u = 8 by omega)]; rfl) (hR _ _ dX5_remember_100)
  · refine g_aload_n hC dX5_remember_9 rfl 0 rfl ?_
    refine g_bipush (v := (nI 7)) hC dX5_remember_10 (by decide) ?_
    refine g_put hC 0 5 10 [(h 0, .inr (5, oH h da pe de no (nI 7))), (h 2, .inl (E.2.1 0, 7, .inl (nf pl))), (h 3, .inl (E.2.1 0, 7, .inl (nf bn))), (h 7, .inl (E.2.1 0, 120, .inl ps))] .int inX5 tyX5_ok nmX5 m1_63 dX5_remember_12 rfl rfl (by decide) rfl (by decide +kernel) rfl rfl (Nat.le_of_ble_eq_true rfl) rfl ?_
    refine g_aload_n hC dX5_remember_15 rfl 0 rfl ?_
    refine g_get hC 0 5 11 inX5 m1_65 dX5_remember_16 rfl rfl (by decide) rfl ?_
    refine g_bipush (v := (nI 15)) hC dX5_remember_19 (by decide) ?_
    refine g_aload_n hC dX5_remember_21 rfl 0 rfl ?_
    refine g_get hC 0 5 11 inX5 m1_65 dX5_remember_22 rfl rfl (by decide) rfl ?_
    refine g_iconst (v := (nI 0)) hC dX5_remember_25 (by decide) ?_
    refine g_aload_n hC dX5_remember_26 rfl 0 rfl ?_
    refine g_get hC 0 5 10 inX5 m1_63 dX5_remember_27 rfl rfl (by decide) rfl ?_
    refine g_bipush (v := (nI 15)) hC dX5_remember_30 (by decide) ?_
    refine g_imulN hC dX5_remember_32 ?_
    refine g_copy (t0 := 0) hC 3 3 [(h 0, .inr (5, oH h da pe de no (nI 7))), (h 2, .inl (E.2.1 0, 7, .inl (nf pl))), (h 3, .inl (E.2.1 0, 7, .inl (nf bn))), (h 7, .inl (E.2.1 0, 120, .inl (va_cpy ps ps 15 0 (7 * 15))))] m2_149 m2_151 m2_150 m1_19 dX5_remember_33 rfl rfl (by decide) (by decide) (by omega) (by omega) (by decide) (Nat.le_of_ble_eq_true rfl) rfl ?_
    refine g_aload_n hC dX5_remember_36 rfl 0 rfl ?_
    refine g_get hC 0 5 10 inX5 m1_63 dX5_remember_37 rfl rfl (by decide) rfl ?_
    refine g_bipush (v := (nI 15)) hC dX5_remember_40 (by decide) ?_
    refine g_imulN hC dX5_remember_42 ?_
    refine g_istore_n hC [(1, .int (nI (7 * 15))), (0, .ref (h 0))] dX5_remember_43 rfl (by decide) rfl ?_
    refine g_aload_n hC dX5_remember_44 rfl 1 rfl ?_
    refine g_get hC 0 5 4 inX5 m1_50 dX5_remember_45 rfl rfl (by decide) rfl ?_
    refine g_iconst (v := (nI 0)) hC dX5_remember_48 (by decide) ?_
    refine g_aload_n hC dX5_remember_49 rfl 1 rfl ?_
    refine g_get hC 0 5 11 inX5 m1_65 dX5_remember_50 rfl rfl (by decide) rfl ?_
    refine g_iload_n hC dX5_remember_53 rfl 0 rfl ?_
    refine g_bipush (v := (nI 7)) hC dX5_remember_54 (by decide) ?_
    refine g_copy (t0 := 0) hC 2 3 [(h 0, .inr (5, oH h da pe de no (nI 7))), (h 2, .inl (E.2.1 0, 7, .inl (nf pl))), (h 3, .inl (E.2.1 0, 7, .inl (nf bn))), (h 7, .inl (E.2.1 0, 120, .inl (va_cpy (nf bn) (va_cpy ps ps 15 0 (7 * 15)) 0 (7 * 15) 7)))] m2_149 m2_151 m2_150 m1_19 dX5_remember_56 rfl rfl (by decide) (by decide) (by omega) (by omega) (by decide) (Nat.le_of_ble_eq_true rfl) rfl ?_
    refine g_aload_n hC dX5_remember_59 rfl 1 rfl ?_
    refine g_get hC 0 5 3 inX5 m1_47 dX5_remember_60 rfl rfl (by decide) rfl ?_
    refine g_iconst (v := (nI 0)) hC dX5_remember_63 (by decide) ?_
    refine g_aload_n hC dX5_remember_64 rfl 1 rfl ?_
    refine g_get hC 0 5 11 inX5 m1_65 dX5_remember_65 rfl rfl (by decide) rfl ?_
    refine g_iload_n hC dX5_remember_68 rfl 0 rfl ?_
    refine g_bipush (v := (nI 7)) hC dX5_remember_69 (by decide) ?_
    refine g_iaddN hC dX5_remember_71 ?_
    refine g_bipush (v := (nI 7)) hC dX5_remember_72 (by decide) ?_
    refine g_copy (t0 := 0) hC 1 3 [(h 0, .inr (5, oH h da pe de no (nI 7))), (h 2, .inl (E.2.1 0, 7, .inl (nf pl))), (h 3, .inl (E.2.1 0, 7, .inl (nf bn))), (h 7, .inl (E.2.1 0, 120, .inl (va_cpy (nf pl) (va_cpy (nf bn) (va_cpy ps ps 15 0 (7 * 15)) 0 (7 * 15) 7) 0 ((7 * 15) + 7) 7)))] m2_149 m2_151 m2_150 m1_19 dX5_remember_74 rfl rfl (by decide) (by decide) (by omega) (by omega) (by decide) (Nat.le_of_ble_eq_true rfl) rfl ?_
    refine g_aload_n hC dX5_remember_77 rfl 1 rfl ?_
    refine g_get hC 0 5 11 inX5 m1_65 dX5_remember_78 rfl rfl (by decide) rfl ?_
    refine g_iload_n hC dX5_remember_81 rfl 0 rfl ?_
    refine g_bipush (v := (nI 14)) hC dX5_remember_82 (by decide) ?_
    refine g_iaddN hC dX5_remember_84 ?_
    refine g_aload_n hC dX5_remember_85 rfl 1 rfl ?_
    refine g_get hC 0 5 0 inX5 m1_36 dX5_remember_86 rfl rfl (by decide) rfl ?_
    refine g_iastN hC 3 [(h 0, .inr (5, oH h da pe de no (nI 7))), (h 2, .inl (E.2.1 0, 7, .inl (nf pl))), (h 3, .inl (E.2.1 0, 7, .inl (nf bn))), (h 7, .inl (E.2.1 0, 120, .inl (upd (va_cpy (nf pl) (va_cpy (nf bn) (va_cpy ps ps 15 0 (7 * 15)) 0 (7 * 15) 7) 0 ((7 * 15) + 7) 7) ((7 * 15) + 14) da)))] dX5_remember_89 rfl (by decide) (by omega) rfl ?_
    refine g_aload_n hC dX5_remember_90 rfl 1 rfl ?_
    refine g_dup hC dX5_remember_91 rfl ?_
    refine g_get hC 0 5 10 inX5 m1_63 dX5_remember_92 rfl rfl (by decide) rfl ?_
    refine g_iconst (v := (nI 1)) hC dX5_remember_95 (by decide) ?_
    refine g_iaddN hC dX5_remember_96 ?_
    refine g_put hC 0 5 10 [(h 0, .inr (5, oH h da pe de no (nI (7 + 1)))), (h 2, .inl (E.2.1 0, 7, .inl (nf pl))), (h 3, .inl (E.2.1 0, 7, .inl (nf bn))), (h 7, .inl (E.2.1 0, 120, .inl (upd (va_cpy (nf pl) (va_cpy (nf bn) (va_cpy ps ps 15 0 (7 * 15)) 0 (7 * 15) 7) 0 ((7 * 15) + 7) 7) ((7 * 15) + 14) da)))] .int inX5 tyX5_ok nmX5 m1_63 dX5_remember_97 rfl rfl (by decide) rfl (by decide +kernel) rfl rfl (Nat.le_of_ble_eq_true rfl) rfl ?_
    exact g_ws (by unfold rmF; simp only [if_pos (show u = 8 by omega)]; rfl) (hR _ _ dX5_remember_100)
set_option maxHeartbeats 4000000 in
set_option maxRecDepth 100000 in
theorem f_X5_goBack (l : Launch) (E : Ew) (h : Nat → Nat) (da : Int32) (pe : Int32) (de : Int32) (no : Int32) (pl : Nat → Nat) (bn : Nat → Nat) (ps : Nat → Int32) (u : Nat) (pz : Nat → Nat) (hu : u < 8) (hz : ∀ m, m < 14 → ps (u * 15 + m) = nI (pz m)) : Fn l E 1 yX5_goBack cX5_goBack 2 none [.ref (h 0)] [(h 0, .inr (5, oH h da pe de no (nI (u + 1)))), (h 2, .inl (E.2.1 0, 7, .inl (nf pl))), (h 3, .inl (E.2.1 0, 7, .inl (nf bn))), (h 7, .inl (E.2.1 0, 120, .inl ps))] none [(h 0, .inr (5, oH h (ps (u * 15 + 14)) pe de no (nI u))), (h 2, .inl (E.2.1 0, 7, .inl (nf (fun p => pz (7 + p))))), (h 3, .inl (E.2.1 0, 7, .inl (nf pz))), (h 7, .inl (E.2.1 0, 120, .inl ps))] := by
  refine fn_V (by decide) (Nat.le_of_ble_eq_true rfl) rfl ?_
  intro K hC hR
  show G K E 2 [(h 0, .inr (5, oH h da pe de no (nI (u + 1)))), (h 2, .inl (E.2.1 0, 7, .inl (nf pl))), (h 3, .inl (E.2.1 0, 7, .inl (nf bn))), (h 7, .inl (E.2.1 0, 120, .inl ps))] [(0, .ref (h 0))] 0 []
  refine g_aload_n hC dX5_goBack_0 rfl 0 rfl ?_
  refine g_get hC 0 5 10 inX5 m1_63 dX5_goBack_1 rfl rfl (by decide) rfl ?_
  refine g_if_gtN (tgt := 8) hC dX5_goBack_4 (by decide) (by omega) (fun h_4 => ?_) (fun h_4 => ?_)
  · refine g_aload_n hC dX5_goBack_8 rfl 0 rfl ?_
    refine g_dup hC dX5_goBack_9 rfl ?_
    refine g_get hC 0 5 10 inX5 m1_63 dX5_goBack_10 rfl rfl (by decide) rfl ?_
    refine g_iconst (v := (nI 1)) hC dX5_goBack_13 (by decide) ?_
    refine g_isubN hC dX5_goBack_14 (by omega) ?_
    refine g_put hC 0 5 10 [(h 0, .inr (5, oH h da pe de no (nI ((u + 1) - 1)))), (h 2, .inl (E.2.1 0, 7, .inl (nf pl))), (h 3, .inl (E.2.1 0, 7, .inl (nf bn))), (h 7, .inl (E.2.1 0, 120, .inl ps))] .int inX5 tyX5_ok nmX5 m1_63 dX5_goBack_15 rfl rfl (by decide) rfl (by decide +kernel) rfl rfl (Nat.le_of_ble_eq_true rfl) rfl ?_
    refine g_aload_n hC dX5_goBack_18 rfl 0 rfl ?_
    refine g_get hC 0 5 10 inX5 m1_63 dX5_goBack_19 rfl rfl (by decide) rfl ?_
    refine g_bipush (v := (nI 15)) hC dX5_goBack_22 (by decide) ?_
    refine g_imulN hC dX5_goBack_24 ?_
    refine g_istore_n hC [(1, .int (nI (((u + 1) - 1) * 15))), (0, .ref (h 0))] dX5_goBack_25 rfl (by decide) rfl ?_
    refine g_aload_n hC dX5_goBack_26 rfl 1 rfl ?_
    refine g_get hC 0 5 11 inX5 m1_65 dX5_goBack_27 rfl rfl (by decide) rfl ?_
    refine g_iload_n hC dX5_goBack_30 rfl 0 rfl ?_
    refine g_aload_n hC dX5_goBack_31 rfl 1 rfl ?_
    refine g_get hC 0 5 4 inX5 m1_50 dX5_goBack_32 rfl rfl (by decide) rfl ?_
    refine g_iconst (v := (nI 0)) hC dX5_goBack_35 (by decide) ?_
    refine g_bipush (v := (nI 7)) hC dX5_goBack_36 (by decide) ?_
    refine g_copy (t0 := 0) hC 3 2 [(h 0, .inr (5, oH h da pe de no (nI ((u + 1) - 1)))), (h 2, .inl (E.2.1 0, 7, .inl (nf pl))), (h 3, .inl (E.2.1 0, 7, .inl (va_cpy ps (nf bn) (((u + 1) - 1) * 15) 0 7))), (h 7, .inl (E.2.1 0, 120, .inl ps))] m2_149 m2_151 m2_150 m1_19 dX5_goBack_38 rfl rfl (by decide) (by decide) (by omega) (by omega) (by decide) (Nat.le_of_ble_eq_true rfl) rfl ?_
    refine g_aload_n hC dX5_goBack_41 rfl 1 rfl ?_
    refine g_get hC 0 5 11 inX5 m1_65 dX5_goBack_42 rfl rfl (by decide) rfl ?_
    refine g_iload_n hC dX5_goBack_45 rfl 0 rfl ?_
    refine g_bipush (v := (nI 7)) hC dX5_goBack_46 (by decide) ?_
    refine g_iaddN hC dX5_goBack_48 ?_
    refine g_aload_n hC dX5_goBack_49 rfl 1 rfl ?_
    refine g_get hC 0 5 3 inX5 m1_47 dX5_goBack_50 rfl rfl (by decide) rfl ?_
    refine g_iconst (v := (nI 0)) hC dX5_goBack_53 (by decide) ?_
    refine g_bipush (v := (nI 7)) hC dX5_goBack_54 (by decide) ?_
    refine g_copy (t0 := 0) hC 3 1 [(h 0, .inr (5, oH h da pe de no (nI ((u + 1) - 1)))), (h 2, .inl (E.2.1 0, 7, .inl (va_cpy ps (nf pl) ((((u + 1) - 1) * 15) + 7) 0 7))), (h 3, .inl (E.2.1 0, 7, .inl (va_cpy ps (nf bn) (((u + 1) - 1) * 15) 0 7))), (h 7, .inl (E.2.1 0, 120, .inl ps))] m2_149 m2_151 m2_150 m1_19 dX5_goBack_56 rfl rfl (by decide) (by decide) (by omega) (by omega) (by decide) (Nat.le_of_ble_eq_true rfl) rfl ?_
    refine g_aload_n hC dX5_goBack_59 rfl 1 rfl ?_
    refine g_aload_n hC dX5_goBack_60 rfl 1 rfl ?_
    refine g_get hC 0 5 11 inX5 m1_65 dX5_goBack_61 rfl rfl (by decide) rfl ?_
    refine g_iload_n hC dX5_goBack_64 rfl 0 rfl ?_
    refine g_bipush (v := (nI 14)) hC dX5_goBack_65 (by decide) ?_
    refine g_iaddN hC dX5_goBack_67 ?_
    refine g_ialdN hC 3 dX5_goBack_68 rfl (by decide) (by omega) ?_
    refine g_put hC 0 5 0 [(h 0, .inr (5, oH h (ps ((((u + 1) - 1) * 15) + 14)) pe de no (nI ((u + 1) - 1)))), (h 2, .inl (E.2.1 0, 7, .inl (va_cpy ps (nf pl) ((((u + 1) - 1) * 15) + 7) 0 7))), (h 3, .inl (E.2.1 0, 7, .inl (va_cpy ps (nf bn) (((u + 1) - 1) * 15) 0 7))), (h 7, .inl (E.2.1 0, 120, .inl ps))] .int inX5 tyX5_ok nmX5 m1_36 dX5_goBack_69 rfl rfl (by decide) rfl (by decide +kernel) rfl rfl (Nat.le_of_ble_eq_true rfl) rfl ?_
    refine g_arr 2 [(h 0, .inr (5, oH h (ps ((((u + 1) - 1) * 15) + 14)) pe de no (nI ((u + 1) - 1)))), (h 2, .inl (E.2.1 0, 7, .inl (va_cpy ps (nf pl) ((((u + 1) - 1) * 15) + 7) 0 7))), (h 3, .inl (E.2.1 0, 7, .inl (nf pz))), (h 7, .inl (E.2.1 0, 120, .inl ps))] (nf pz) rfl (fun j hj => by rw [pk_cpy_in (by omega) (by omega)]; show ps _ = nI (pz j); rw [show (u + 1 - 1) * 15 + (j - 0) = u * 15 + j by omega]; exact hz j (by omega)) rfl ?_
    refine g_arr 1 [(h 0, .inr (5, oH h (ps ((((u + 1) - 1) * 15) + 14)) pe de no (nI ((u + 1) - 1)))), (h 2, .inl (E.2.1 0, 7, .inl (nf (fun p => pz (7 + p))))), (h 3, .inl (E.2.1 0, 7, .inl (nf pz))), (h 7, .inl (E.2.1 0, 120, .inl ps))] (nf (fun p => pz (7 + p))) rfl (fun j hj => by rw [pk_cpy_in (by omega) (by omega)]; show ps _ = nI (pz (7 + j)); rw [show (u + 1 - 1) * 15 + 7 + (j - 0) = u * 15 + (7 + j) by omega]; exact hz (7 + j) (by omega)) rfl ?_
    exact g_ws (rfl) (hR _ _ dX5_goBack_72)
  · omega
set_option maxHeartbeats 4000000 in
set_option maxRecDepth 100000 in
theorem f_X5_copyFrom (l : Launch) (E : Ew) (h : Nat → Nat) (g : Nat → Nat) (da : Int32) (pe : Int32) (de : Int32) (no : Int32) (pa : Int32) (da2 : Int32) (pe2 : Int32) (de2 : Int32) (no2 : Int32) (pa2 : Int32) (kd : Nat → Nat) (pl : Nat → Nat) (bn : Nat → Nat) (dn : Nat → Nat) (dp : Nat → Nat) (nt : Nat → Nat) (ps : Nat → Int32) (kd2 : Nat → Nat) (pl2 : Nat → Nat) (bn2 : Nat → Nat) (dn2 : Nat → Nat) (dp2 : Nat → Nat) (nt2 : Nat → Nat) (ps2 : Nat → Int32)  : Fn l E 1 yX5_copyFrom cX5_copyFrom 2 none [.ref (h 0), .ref (g 0)] [(h 0, .inr (5, oH h da pe de no pa)), (h 1, .inl (E.2.1 0, 7, .inl (nf kd))), (h 2, .inl (E.2.1 0, 7, .inl (nf pl))), (h 3, .inl (E.2.1 0, 7, .inl (nf bn))), (h 4, .inl (E.2.1 0, 6, .inl (nf dn))), (h 5, .inl (E.2.1 0, 6, .inl (nf dp))), (h 6, .inl (E.2.1 0, 30, .inl (nf nt))), (h 7, .inl (E.2.1 0, 120, .inl ps)), (g 0, .inr (5, oH g da2 pe2 de2 no2 pa2)), (g 1, .inl (E.2.1 0, 7, .inl (nf kd2))), (g 2, .inl (E.2.1 0, 7, .inl (nf pl2))), (g 3, .inl (E.2.1 0, 7, .inl (nf bn2))), (g 4, .inl (E.2.1 0, 6, .inl (nf dn2))), (g 5, .inl (E.2.1 0, 6, .inl (nf dp2))), (g 6, .inl (E.2.1 0, 30, .inl (nf nt2))), (g 7, .inl (E.2.1 0, 120, .inl ps2))] none [(h 0, .inr (5, oH h da2 pe2 de2 no2 pa2)), (h 1, .inl (E.2.1 0, 7, .inl (nf kd2))), (h 2, .inl (E.2.1 0, 7, .inl (nf pl2))), (h 3, .inl (E.2.1 0, 7, .inl (nf bn2))), (h 4, .inl (E.2.1 0, 6, .inl (nf dn2))), (h 5, .inl (E.2.1 0, 6, .inl (nf dp2))), (h 6, .inl (E.2.1 0, 30, .inl (nf nt2))), (h 7, .inl (E.2.1 0, 120, .inl ps2)), (g 0, .inr (5, oH g da2 pe2 de2 no2 pa2)), (g 1, .inl (E.2.1 0, 7, .inl (nf kd2))), (g 2, .inl (E.2.1 0, 7, .inl (nf pl2))), (g 3, .inl (E.2.1 0, 7, .inl (nf bn2))), (g 4, .inl (E.2.1 0, 6, .inl (nf dn2))), (g 5, .inl (E.2.1 0, 6, .inl (nf dp2))), (g 6, .inl (E.2.1 0, 30, .inl (nf nt2))), (g 7, .inl (E.2.1 0, 120, .inl ps2))] := by
  refine fn_V (by decide) (Nat.le_of_ble_eq_true rfl) rfl ?_
  intro K hC hR
  show G K E 2 [(h 0, .inr (5, oH h da pe de no pa)), (h 1, .inl (E.2.1 0, 7, .inl (nf kd))), (h 2, .inl (E.2.1 0, 7, .inl (nf pl))), (h 3, .inl (E.2.1 0, 7, .inl (nf bn))), (h 4, .inl (E.2.1 0, 6, .inl (nf dn))), (h 5, .inl (E.2.1 0, 6, .inl (nf dp))), (h 6, .inl (E.2.1 0, 30, .inl (nf nt))), (h 7, .inl (E.2.1 0, 120, .inl ps)), (g 0, .inr (5, oH g da2 pe2 de2 no2 pa2)), (g 1, .inl (E.2.1 0, 7, .inl (nf kd2))), (g 2, .inl (E.2.1 0, 7, .inl (nf pl2))), (g 3, .inl (E.2.1 0, 7, .inl (nf bn2))), (g 4, .inl (E.2.1 0, 6, .inl (nf dn2))), (g 5, .inl (E.2.1 0, 6, .inl (nf dp2))), (g 6, .inl (E.2.1 0, 30, .inl (nf nt2))), (g 7, .inl (E.2.1 0, 120, .inl ps2))] [(0, .ref (h 0)), (1, .ref (g 0))] 0 []
  refine g_aload_n hC dX5_copyFrom_0 rfl 0 rfl ?_
  refine g_aload_n hC dX5_copyFrom_1 rfl 1 rfl ?_
  refine g_get hC 8 5 0 inX5 m1_36 dX5_copyFrom_2 rfl rfl (by decide) rfl ?_
  refine g_put hC 0 5 0 [(h 0, .inr (5, oH h da2 pe de no pa)), (h 1, .inl (E.2.1 0, 7, .inl (nf kd))), (h 2, .inl (E.2.1 0, 7, .inl (nf pl))), (h 3, .inl (E.2.1 0, 7, .inl (nf bn))), (h 4, .inl (E.2.1 0, 6, .inl (nf dn))), (h 5, .inl (E.2.1 0, 6, .inl (nf dp))), (h 6, .inl (E.2.1 0, 30, .inl (nf nt))), (h 7, .inl (E.2.1 0, 120, .inl ps)), (g 0, .inr (5, oH g da2 pe2 de2 no2 pa2)), (g 1, .inl (E.2.1 0, 7, .inl (nf kd2))), (g 2, .inl (E.2.1 0, 7, .inl (nf pl2))), (g 3, .inl (E.2.1 0, 7, .inl (nf bn2))), (g 4, .inl (E.2.1 0, 6, .inl (nf dn2))), (g 5, .inl (E.2.1 0, 6, .inl (nf dp2))), (g 6, .inl (E.2.1 0, 30, .inl (nf nt2))), (g 7, .inl (E.2.1 0, 120, .inl ps2))] .int inX5 tyX5_ok nmX5 m1_36 dX5_copyFrom_5 rfl rfl (by decide) rfl (by decide +kernel) rfl rfl (Nat.le_of_ble_eq_true rfl) rfl ?_
  refine g_aload_n hC dX5_copyFrom_8 rfl 0 rfl ?_
  refine g_aload_n hC dX5_copyFrom_9 rfl 1 rfl ?_
  refine g_get hC 8 5 1 inX5 m1_39 dX5_copyFrom_10 rfl rfl (by decide) rfl ?_
  refine g_put hC 0 5 1 [(h 0, .inr (5, oH h da2 pe2 de no pa)), (h 1, .inl (E.2.1 0, 7, .inl (nf kd))), (h 2, .inl (E.2.1 0, 7, .inl (nf pl))), (h 3, .inl (E.2.1 0, 7, .inl (nf bn))), (h 4, .inl (E.2.1 0, 6, .inl (nf dn))), (h 5, .inl (E.2.1 0, 6, .inl (nf dp))), (h 6, .inl (E.2.1 0, 30, .inl (nf nt))), (h 7, .inl (E.2.1 0, 120, .inl ps)), (g 0, .inr (5, oH g da2 pe2 de2 no2 pa2)), (g 1, .inl (E.2.1 0, 7, .inl (nf kd2))), (g 2, .inl (E.2.1 0, 7, .inl (nf pl2))), (g 3, .inl (E.2.1 0, 7, .inl (nf bn2))), (g 4, .inl (E.2.1 0, 6, .inl (nf dn2))), (g 5, .inl (E.2.1 0, 6, .inl (nf dp2))), (g 6, .inl (E.2.1 0, 30, .inl (nf nt2))), (g 7, .inl (E.2.1 0, 120, .inl ps2))] .int inX5 tyX5_ok nmX5 m1_39 dX5_copyFrom_13 rfl rfl (by decide) rfl (by decide +kernel) rfl rfl (Nat.le_of_ble_eq_true rfl) rfl ?_
  refine g_aload_n hC dX5_copyFrom_16 rfl 0 rfl ?_
  refine g_aload_n hC dX5_copyFrom_17 rfl 1 rfl ?_
  refine g_get hC 8 5 5 inX5 m1_53 dX5_copyFrom_18 rfl rfl (by decide) rfl ?_
  refine g_put hC 0 5 5 [(h 0, .inr (5, oH h da2 pe2 de2 no pa)), (h 1, .inl (E.2.1 0, 7, .inl (nf kd))), (h 2, .inl (E.2.1 0, 7, .inl (nf pl))), (h 3, .inl (E.2.1 0, 7, .inl (nf bn))), (h 4, .inl (E.2.1 0, 6, .inl (nf dn))), (h 5, .inl (E.2.1 0, 6, .inl (nf dp))), (h 6, .inl (E.2.1 0, 30, .inl (nf nt))), (h 7, .inl (E.2.1 0, 120, .inl ps)), (g 0, .inr (5, oH g da2 pe2 de2 no2 pa2)), (g 1, .inl (E.2.1 0, 7, .inl (nf kd2))), (g 2, .inl (E.2.1 0, 7, .inl (nf pl2))), (g 3, .inl (E.2.1 0, 7, .inl (nf bn2))), (g 4, .inl (E.2.1 0, 6, .inl (nf dn2))), (g 5, .inl (E.2.1 0, 6, .inl (nf dp2))), (g 6, .inl (E.2.1 0, 30, .inl (nf nt2))), (g 7, .inl (E.2.1 0, 120, .inl ps2))] .int inX5 tyX5_ok nmX5 m1_53 dX5_copyFrom_21 rfl rfl (by decide) rfl (by decide +kernel) rfl rfl (Nat.le_of_ble_eq_true rfl) rfl ?_
  refine g_aload_n hC dX5_copyFrom_24 rfl 0 rfl ?_
  refine g_aload_n hC dX5_copyFrom_25 rfl 1 rfl ?_
  refine g_get hC 8 5 8 inX5 m1_59 dX5_copyFrom_26 rfl rfl (by decide) rfl ?_
  refine g_put hC 0 5 8 [(h 0, .inr (5, oH h da2 pe2 de2 no2 pa)), (h 1, .inl (E.2.1 0, 7, .inl (nf kd))), (h 2, .inl (E.2.1 0, 7, .inl (nf pl))), (h 3, .inl (E.2.1 0, 7, .inl (nf bn))), (h 4, .inl (E.2.1 0, 6, .inl (nf dn))), (h 5, .inl (E.2.1 0, 6, .inl (nf dp))), (h 6, .inl (E.2.1 0, 30, .inl (nf nt))), (h 7, .inl (E.2.1 0, 120, .inl ps)), (g 0, .inr (5, oH g da2 pe2 de2 no2 pa2)), (g 1, .inl (E.2.1 0, 7, .inl (nf kd2))), (g 2, .inl (E.2.1 0, 7, .inl (nf pl2))), (g 3, .inl (E.2.1 0, 7, .inl (nf bn2))), (g 4, .inl (E.2.1 0, 6, .inl (nf dn2))), (g 5, .inl (E.2.1 0, 6, .inl (nf dp2))), (g 6, .inl (E.2.1 0, 30, .inl (nf nt2))), (g 7, .inl (E.2.1 0, 120, .inl ps2))] .int inX5 tyX5_ok nmX5 m1_59 dX5_copyFrom_29 rfl rfl (by decide) rfl (by decide +kernel) rfl rfl (Nat.le_of_ble_eq_true rfl) rfl ?_
  refine g_aload_n hC dX5_copyFrom_32 rfl 0 rfl ?_
  refine g_aload_n hC dX5_copyFrom_33 rfl 1 rfl ?_
  refine g_get hC 8 5 10 inX5 m1_63 dX5_copyFrom_34 rfl rfl (by decide) rfl ?_
  refine g_put hC 0 5 10 [(h 0, .inr (5, oH h da2 pe2 de2 no2 pa2)), (h 1, .inl (E.2.1 0, 7, .inl (nf kd))), (h 2, .inl (E.2.1 0, 7, .inl (nf pl))), (h 3, .inl (E.2.1 0, 7, .inl (nf bn))), (h 4, .inl (E.2.1 0, 6, .inl (nf dn))), (h 5, .inl (E.2.1 0, 6, .inl (nf dp))), (h 6, .inl (E.2.1 0, 30, .inl (nf nt))), (h 7, .inl (E.2.1 0, 120, .inl ps)), (g 0, .inr (5, oH g da2 pe2 de2 no2 pa2)), (g 1, .inl (E.2.1 0, 7, .inl (nf kd2))), (g 2, .inl (E.2.1 0, 7, .inl (nf pl2))), (g 3, .inl (E.2.1 0, 7, .inl (nf bn2))), (g 4, .inl (E.2.1 0, 6, .inl (nf dn2))), (g 5, .inl (E.2.1 0, 6, .inl (nf dp2))), (g 6, .inl (E.2.1 0, 30, .inl (nf nt2))), (g 7, .inl (E.2.1 0, 120, .inl ps2))] .int inX5 tyX5_ok nmX5 m1_63 dX5_copyFrom_37 rfl rfl (by decide) rfl (by decide +kernel) rfl rfl (Nat.le_of_ble_eq_true rfl) rfl ?_
  refine g_aload_n hC dX5_copyFrom_40 rfl 1 rfl ?_
  refine g_get hC 8 5 2 inX5 m1_44 dX5_copyFrom_41 rfl rfl (by decide) rfl ?_
  refine g_iconst (v := (nI 0)) hC dX5_copyFrom_44 (by decide) ?_
  refine g_aload_n hC dX5_copyFrom_45 rfl 0 rfl ?_
  refine g_get hC 0 5 2 inX5 m1_44 dX5_copyFrom_46 rfl rfl (by decide) rfl ?_
  refine g_iconst (v := (nI 0)) hC dX5_copyFrom_49 (by decide) ?_
  refine g_bipush (v := (nI 7)) hC dX5_copyFrom_50 (by decide) ?_
  refine g_copy (t0 := 0) hC 9 1 [(h 0, .inr (5, oH h da2 pe2 de2 no2 pa2)), (h 1, .inl (E.2.1 0, 7, .inl (va_cpy (nf kd2) (nf kd) 0 0 7))), (h 2, .inl (E.2.1 0, 7, .inl (nf pl))), (h 3, .inl (E.2.1 0, 7, .inl (nf bn))), (h 4, .inl (E.2.1 0, 6, .inl (nf dn))), (h 5, .inl (E.2.1 0, 6, .inl (nf dp))), (h 6, .inl (E.2.1 0, 30, .inl (nf nt))), (h 7, .inl (E.2.1 0, 120, .inl ps)), (g 0, .inr (5, oH g da2 pe2 de2 no2 pa2)), (g 1, .inl (E.2.1 0, 7, .inl (nf kd2))), (g 2, .inl (E.2.1 0, 7, .inl (nf pl2))), (g 3, .inl (E.2.1 0, 7, .inl (nf bn2))), (g 4, .inl (E.2.1 0, 6, .inl (nf dn2))), (g 5, .inl (E.2.1 0, 6, .inl (nf dp2))), (g 6, .inl (E.2.1 0, 30, .inl (nf nt2))), (g 7, .inl (E.2.1 0, 120, .inl ps2))] m2_149 m2_151 m2_150 m1_19 dX5_copyFrom_52 rfl rfl (by decide) (by decide) (by omega) (by omega) (by decide) (Nat.le_of_ble_eq_true rfl) rfl ?_
  refine g_ws (ws' := [(h 0, .inr (5, oH h da2 pe2 de2 no2 pa2)), (h 1, .inl (E.2.1 0, 7, .inl (nf (cpN kd2 kd 0 0 7)))), (h 2, .inl (E.2.1 0, 7, .inl (nf pl))), (h 3, .inl (E.2.1 0, 7, .inl (nf bn))), (h 4, .inl (E.2.1 0, 6, .inl (nf dn))), (h 5, .inl (E.2.1 0, 6, .inl (nf dp))), (h 6, .inl (E.2.1 0, 30, .inl (nf nt))), (h 7, .inl (E.2.1 0, 120, .inl ps)), (g 0, .inr (5, oH g da2 pe2 de2 no2 pa2)), (g 1, .inl (E.2.1 0, 7, .inl (nf kd2))), (g 2, .inl (E.2.1 0, 7, .inl (nf pl2))), (g 3, .inl (E.2.1 0, 7, .inl (nf bn2))), (g 4, .inl (E.2.1 0, 6, .inl (nf dn2))), (g 5, .inl (E.2.1 0, 6, .inl (nf dp2))), (g 6, .inl (E.2.1 0, 30, .inl (nf nt2))), (g 7, .inl (E.2.1 0, 120, .inl ps2))]) (by rw [nf_c kd2 kd 0 0 7]) ?_
  refine g_aload_n hC dX5_copyFrom_55 rfl 1 rfl ?_
  refine g_get hC 8 5 3 inX5 m1_47 dX5_copyFrom_56 rfl rfl (by decide) rfl ?_
  refine g_iconst (v := (nI 0)) hC dX5_copyFrom_59 (by decide) ?_
  refine g_aload_n hC dX5_copyFrom_60 rfl 0 rfl ?_
  refine g_get hC 0 5 3 inX5 m1_47 dX5_copyFrom_61 rfl rfl (by decide) rfl ?_
  refine g_iconst (v := (nI 0)) hC dX5_copyFrom_64 (by decide) ?_
  refine g_bipush (v := (nI 7)) hC dX5_copyFrom_65 (by decide) ?_
  refine g_copy (t0 := 0) hC 10 2 [(h 0, .inr (5, oH h da2 pe2 de2 no2 pa2)), (h 1, .inl (E.2.1 0, 7, .inl (nf (cpN kd2 kd 0 0 7)))), (h 2, .inl (E.2.1 0, 7, .inl (va_cpy (nf pl2) (nf pl) 0 0 7))), (h 3, .inl (E.2.1 0, 7, .inl (nf bn))), (h 4, .inl (E.2.1 0, 6, .inl (nf dn))), (h 5, .inl (E.2.1 0, 6, .inl (nf dp))), (h 6, .inl (E.2.1 0, 30, .inl (nf nt))), (h 7, .inl (E.2.1 0, 120, .inl ps)), (g 0, .inr (5, oH g da2 pe2 de2 no2 pa2)), (g 1, .inl (E.2.1 0, 7, .inl (nf kd2))), (g 2, .inl (E.2.1 0, 7, .inl (nf pl2))), (g 3, .inl (E.2.1 0, 7, .inl (nf bn2))), (g 4, .inl (E.2.1 0, 6, .inl (nf dn2))), (g 5, .inl (E.2.1 0, 6, .inl (nf dp2))), (g 6, .inl (E.2.1 0, 30, .inl (nf nt2))), (g 7, .inl (E.2.1 0, 120, .inl ps2))] m2_149 m2_151 m2_150 m1_19 dX5_copyFrom_67 rfl rfl (by decide) (by decide) (by omega) (by omega) (by decide) (Nat.le_of_ble_eq_true rfl) rfl ?_
  refine g_ws (ws' := [(h 0, .inr (5, oH h da2 pe2 de2 no2 pa2)), (h 1, .inl (E.2.1 0, 7, .inl (nf (cpN kd2 kd 0 0 7)))), (h 2, .inl (E.2.1 0, 7, .inl (nf (cpN pl2 pl 0 0 7)))), (h 3, .inl (E.2.1 0, 7, .inl (nf bn))), (h 4, .inl (E.2.1 0, 6, .inl (nf dn))), (h 5, .inl (E.2.1 0, 6, .inl (nf dp))), (h 6, .inl (E.2.1 0, 30, .inl (nf nt))), (h 7, .inl (E.2.1 0, 120, .inl ps)), (g 0, .inr (5, oH g da2 pe2 de2 no2 pa2)), (g 1, .inl (E.2.1 0, 7, .inl (nf kd2))), (g 2, .inl (E.2.1 0, 7, .inl (nf pl2))), (g 3, .inl (E.2.1 0, 7, .inl (nf bn2))), (g 4, .inl (E.2.1 0, 6, .inl (nf dn2))), (g 5, .inl (E.2.1 0, 6, .inl (nf dp2))), (g 6, .inl (E.2.1 0, 30, .inl (nf nt2))), (g 7, .inl (E.2.1 0, 120, .inl ps2))]) (by rw [nf_c pl2 pl 0 0 7]) ?_
  refine g_aload_n hC dX5_copyFrom_70 rfl 1 rfl ?_
  refine g_get hC 8 5 4 inX5 m1_50 dX5_copyFrom_71 rfl rfl (by decide) rfl ?_
  refine g_iconst (v := (nI 0)) hC dX5_copyFrom_74 (by decide) ?_
  refine g_aload_n hC dX5_copyFrom_75 rfl 0 rfl ?_
  refine g_get hC 0 5 4 inX5 m1_50 dX5_copyFrom_76 rfl rfl (by decide) rfl ?_
  refine g_iconst (v := (nI 0)) hC dX5_copyFrom_79 (by decide) ?_
  refine g_bipush (v := (nI 7)) hC dX5_copyFrom_80 (by decide) ?_
  refine g_copy (t0 := 0) hC 11 3 [(h 0, .inr (5, oH h da2 pe2 de2 no2 pa2)), (h 1, .inl (E.2.1 0, 7, .inl (nf (cpN kd2 kd 0 0 7)))), (h 2, .inl (E.2.1 0, 7, .inl (nf (cpN pl2 pl 0 0 7)))), (h 3, .inl (E.2.1 0, 7, .inl (va_cpy (nf bn2) (nf bn) 0 0 7))), (h 4, .inl (E.2.1 0, 6, .inl (nf dn))), (h 5, .inl (E.2.1 0, 6, .inl (nf dp))), (h 6, .inl (E.2.1 0, 30, .inl (nf nt))), (h 7, .inl (E.2.1 0, 120, .inl ps)), (g 0, .inr (5, oH g da2 pe2 de2 no2 pa2)), (g 1, .inl (E.2.1 0, 7, .inl (nf kd2))), (g 2, .inl (E.2.1 0, 7, .inl (nf pl2))), (g 3, .inl (E.2.1 0, 7, .inl (nf bn2))), (g 4, .inl (E.2.1 0, 6, .inl (nf dn2))), (g 5, .inl (E.2.1 0, 6, .inl (nf dp2))), (g 6, .inl (E.2.1 0, 30, .inl (nf nt2))), (g 7, .inl (E.2.1 0, 120, .inl ps2))] m2_149 m2_151 m2_150 m1_19 dX5_copyFrom_82 rfl rfl (by decide) (by decide) (by omega) (by omega) (by decide) (Nat.le_of_ble_eq_true rfl) rfl ?_
  refine g_ws (ws' := [(h 0, .inr (5, oH h da2 pe2 de2 no2 pa2)), (h 1, .inl (E.2.1 0, 7, .inl (nf (cpN kd2 kd 0 0 7)))), (h 2, .inl (E.2.1 0, 7, .inl (nf (cpN pl2 pl 0 0 7)))), (h 3, .inl (E.2.1 0, 7, .inl (nf (cpN bn2 bn 0 0 7)))), (h 4, .inl (E.2.1 0, 6, .inl (nf dn))), (h 5, .inl (E.2.1 0, 6, .inl (nf dp))), (h 6, .inl (E.2.1 0, 30, .inl (nf nt))), (h 7, .inl (E.2.1 0, 120, .inl ps)), (g 0, .inr (5, oH g da2 pe2 de2 no2 pa2)), (g 1, .inl (E.2.1 0, 7, .inl (nf kd2))), (g 2, .inl (E.2.1 0, 7, .inl (nf pl2))), (g 3, .inl (E.2.1 0, 7, .inl (nf bn2))), (g 4, .inl (E.2.1 0, 6, .inl (nf dn2))), (g 5, .inl (E.2.1 0, 6, .inl (nf dp2))), (g 6, .inl (E.2.1 0, 30, .inl (nf nt2))), (g 7, .inl (E.2.1 0, 120, .inl ps2))]) (by rw [nf_c bn2 bn 0 0 7]) ?_
  refine g_aload_n hC dX5_copyFrom_85 rfl 1 rfl ?_
  refine g_get hC 8 5 6 inX5 m1_55 dX5_copyFrom_86 rfl rfl (by decide) rfl ?_
  refine g_iconst (v := (nI 0)) hC dX5_copyFrom_89 (by decide) ?_
  refine g_aload_n hC dX5_copyFrom_90 rfl 0 rfl ?_
  refine g_get hC 0 5 6 inX5 m1_55 dX5_copyFrom_91 rfl rfl (by decide) rfl ?_
  refine g_iconst (v := (nI 0)) hC dX5_copyFrom_94 (by decide) ?_
  refine g_bipush (v := (nI 6)) hC dX5_copyFrom_95 (by decide) ?_
  refine g_copy (t0 := 0) hC 12 4 [(h 0, .inr (5, oH h da2 pe2 de2 no2 pa2)), (h 1, .inl (E.2.1 0, 7, .inl (nf (cpN kd2 kd 0 0 7)))), (h 2, .inl (E.2.1 0, 7, .inl (nf (cpN pl2 pl 0 0 7)))), (h 3, .inl (E.2.1 0, 7, .inl (nf (cpN bn2 bn 0 0 7)))), (h 4, .inl (E.2.1 0, 6, .inl (va_cpy (nf dn2) (nf dn) 0 0 6))), (h 5, .inl (E.2.1 0, 6, .inl (nf dp))), (h 6, .inl (E.2.1 0, 30, .inl (nf nt))), (h 7, .inl (E.2.1 0, 120, .inl ps)), (g 0, .inr (5, oH g da2 pe2 de2 no2 pa2)), (g 1, .inl (E.2.1 0, 7, .inl (nf kd2))), (g 2, .inl (E.2.1 0, 7, .inl (nf pl2))), (g 3, .inl (E.2.1 0, 7, .inl (nf bn2))), (g 4, .inl (E.2.1 0, 6, .inl (nf dn2))), (g 5, .inl (E.2.1 0, 6, .inl (nf dp2))), (g 6, .inl (E.2.1 0, 30, .inl (nf nt2))), (g 7, .inl (E.2.1 0, 120, .inl ps2))] m2_149 m2_151 m2_150 m1_19 dX5_copyFrom_97 rfl rfl (by decide) (by decide) (by omega) (by omega) (by decide) (Nat.le_of_ble_eq_true rfl) rfl ?_
  refine g_ws (ws' := [(h 0, .inr (5, oH h da2 pe2 de2 no2 pa2)), (h 1, .inl (E.2.1 0, 7, .inl (nf (cpN kd2 kd 0 0 7)))), (h 2, .inl (E.2.1 0, 7, .inl (nf (cpN pl2 pl 0 0 7)))), (h 3, .inl (E.2.1 0, 7, .inl (nf (cpN bn2 bn 0 0 7)))), (h 4, .inl (E.2.1 0, 6, .inl (nf (cpN dn2 dn 0 0 6)))), (h 5, .inl (E.2.1 0, 6, .inl (nf dp))), (h 6, .inl (E.2.1 0, 30, .inl (nf nt))), (h 7, .inl (E.2.1 0, 120, .inl ps)), (g 0, .inr (5, oH g da2 pe2 de2 no2 pa2)), (g 1, .inl (E.2.1 0, 7, .inl (nf kd2))), (g 2, .inl (E.2.1 0, 7, .inl (nf pl2))), (g 3, .inl (E.2.1 0, 7, .inl (nf bn2))), (g 4, .inl (E.2.1 0, 6, .inl (nf dn2))), (g 5, .inl (E.2.1 0, 6, .inl (nf dp2))), (g 6, .inl (E.2.1 0, 30, .inl (nf nt2))), (g 7, .inl (E.2.1 0, 120, .inl ps2))]) (by rw [nf_c dn2 dn 0 0 6]) ?_
  refine g_aload_n hC dX5_copyFrom_100 rfl 1 rfl ?_
  refine g_get hC 8 5 7 inX5 m1_57 dX5_copyFrom_101 rfl rfl (by decide) rfl ?_
  refine g_iconst (v := (nI 0)) hC dX5_copyFrom_104 (by decide) ?_
  refine g_aload_n hC dX5_copyFrom_105 rfl 0 rfl ?_
  refine g_get hC 0 5 7 inX5 m1_57 dX5_copyFrom_106 rfl rfl (by decide) rfl ?_
  refine g_iconst (v := (nI 0)) hC dX5_copyFrom_109 (by decide) ?_
  refine g_bipush (v := (nI 6)) hC dX5_copyFrom_110 (by decide) ?_
  refine g_copy (t0 := 0) hC 13 5 [(h 0, .inr (5, oH h da2 pe2 de2 no2 pa2)), (h 1, .inl (E.2.1 0, 7, .inl (nf (cpN kd2 kd 0 0 7)))), (h 2, .inl (E.2.1 0, 7, .inl (nf (cpN pl2 pl 0 0 7)))), (h 3, .inl (E.2.1 0, 7, .inl (nf (cpN bn2 bn 0 0 7)))), (h 4, .inl (E.2.1 0, 6, .inl (nf (cpN dn2 dn 0 0 6)))), (h 5, .inl (E.2.1 0, 6, .inl (va_cpy (nf dp2) (nf dp) 0 0 6))), (h 6, .inl (E.2.1 0, 30, .inl (nf nt))), (h 7, .inl (E.2.1 0, 120, .inl ps)), (g 0, .inr (5, oH g da2 pe2 de2 no2 pa2)), (g 1, .inl (E.2.1 0, 7, .inl (nf kd2))), (g 2, .inl (E.2.1 0, 7, .inl (nf pl2))), (g 3, .inl (E.2.1 0, 7, .inl (nf bn2))), (g 4, .inl (E.2.1 0, 6, .inl (nf dn2))), (g 5, .inl (E.2.1 0, 6, .inl (nf dp2))), (g 6, .inl (E.2.1 0, 30, .inl (nf nt2))), (g 7, .inl (E.2.1 0, 120, .inl ps2))] m2_149 m2_151 m2_150 m1_19 dX5_copyFrom_112 rfl rfl (by decide) (by decide) (by omega) (by omega) (by decide) (Nat.le_of_ble_eq_true rfl) rfl ?_
  refine g_ws (ws' := [(h 0, .inr (5, oH h da2 pe2 de2 no2 pa2)), (h 1, .inl (E.2.1 0, 7, .inl (nf (cpN kd2 kd 0 0 7)))), (h 2, .inl (E.2.1 0, 7, .inl (nf (cpN pl2 pl 0 0 7)))), (h 3, .inl (E.2.1 0, 7, .inl (nf (cpN bn2 bn 0 0 7)))), (h 4, .inl (E.2.1 0, 6, .inl (nf (cpN dn2 dn 0 0 6)))), (h 5, .inl (E.2.1 0, 6, .inl (nf (cpN dp2 dp 0 0 6)))), (h 6, .inl (E.2.1 0, 30, .inl (nf nt))), (h 7, .inl (E.2.1 0, 120, .inl ps)), (g 0, .inr (5, oH g da2 pe2 de2 no2 pa2)), (g 1, .inl (E.2.1 0, 7, .inl (nf kd2))), (g 2, .inl (E.2.1 0, 7, .inl (nf pl2))), (g 3, .inl (E.2.1 0, 7, .inl (nf bn2))), (g 4, .inl (E.2.1 0, 6, .inl (nf dn2))), (g 5, .inl (E.2.1 0, 6, .inl (nf dp2))), (g 6, .inl (E.2.1 0, 30, .inl (nf nt2))), (g 7, .inl (E.2.1 0, 120, .inl ps2))]) (by rw [nf_c dp2 dp 0 0 6]) ?_
  refine g_aload_n hC dX5_copyFrom_115 rfl 1 rfl ?_
  refine g_get hC 8 5 9 inX5 m1_61 dX5_copyFrom_116 rfl rfl (by decide) rfl ?_
  refine g_iconst (v := (nI 0)) hC dX5_copyFrom_119 (by decide) ?_
  refine g_aload_n hC dX5_copyFrom_120 rfl 0 rfl ?_
  refine g_get hC 0 5 9 inX5 m1_61 dX5_copyFrom_121 rfl rfl (by decide) rfl ?_
  refine g_iconst (v := (nI 0)) hC dX5_copyFrom_124 (by decide) ?_
  refine g_bipush (v := (nI 30)) hC dX5_copyFrom_125 (by decide) ?_
  refine g_copy (t0 := 0) hC 14 6 [(h 0, .inr (5, oH h da2 pe2 de2 no2 pa2)), (h 1, .inl (E.2.1 0, 7, .inl (nf (cpN kd2 kd 0 0 7)))), (h 2, .inl (E.2.1 0, 7, .inl (nf (cpN pl2 pl 0 0 7)))), (h 3, .inl (E.2.1 0, 7, .inl (nf (cpN bn2 bn 0 0 7)))), (h 4, .inl (E.2.1 0, 6, .inl (nf (cpN dn2 dn 0 0 6)))), (h 5, .inl (E.2.1 0, 6, .inl (nf (cpN dp2 dp 0 0 6)))), (h 6, .inl (E.2.1 0, 30, .inl (va_cpy (nf nt2) (nf nt) 0 0 30))), (h 7, .inl (E.2.1 0, 120, .inl ps)), (g 0, .inr (5, oH g da2 pe2 de2 no2 pa2)), (g 1, .inl (E.2.1 0, 7, .inl (nf kd2))), (g 2, .inl (E.2.1 0, 7, .inl (nf pl2))), (g 3, .inl (E.2.1 0, 7, .inl (nf bn2))), (g 4, .inl (E.2.1 0, 6, .inl (nf dn2))), (g 5, .inl (E.2.1 0, 6, .inl (nf dp2))), (g 6, .inl (E.2.1 0, 30, .inl (nf nt2))), (g 7, .inl (E.2.1 0, 120, .inl ps2))] m2_149 m2_151 m2_150 m1_19 dX5_copyFrom_127 rfl rfl (by decide) (by decide) (by omega) (by omega) (by decide) (Nat.le_of_ble_eq_true rfl) rfl ?_
  refine g_ws (ws' := [(h 0, .inr (5, oH h da2 pe2 de2 no2 pa2)), (h 1, .inl (E.2.1 0, 7, .inl (nf (cpN kd2 kd 0 0 7)))), (h 2, .inl (E.2.1 0, 7, .inl (nf (cpN pl2 pl 0 0 7)))), (h 3, .inl (E.2.1 0, 7, .inl (nf (cpN bn2 bn 0 0 7)))), (h 4, .inl (E.2.1 0, 6, .inl (nf (cpN dn2 dn 0 0 6)))), (h 5, .inl (E.2.1 0, 6, .inl (nf (cpN dp2 dp 0 0 6)))), (h 6, .inl (E.2.1 0, 30, .inl (nf (cpN nt2 nt 0 0 30)))), (h 7, .inl (E.2.1 0, 120, .inl ps)), (g 0, .inr (5, oH g da2 pe2 de2 no2 pa2)), (g 1, .inl (E.2.1 0, 7, .inl (nf kd2))), (g 2, .inl (E.2.1 0, 7, .inl (nf pl2))), (g 3, .inl (E.2.1 0, 7, .inl (nf bn2))), (g 4, .inl (E.2.1 0, 6, .inl (nf dn2))), (g 5, .inl (E.2.1 0, 6, .inl (nf dp2))), (g 6, .inl (E.2.1 0, 30, .inl (nf nt2))), (g 7, .inl (E.2.1 0, 120, .inl ps2))]) (by rw [nf_c nt2 nt 0 0 30]) ?_
  refine g_aload_n hC dX5_copyFrom_130 rfl 1 rfl ?_
  refine g_get hC 8 5 11 inX5 m1_65 dX5_copyFrom_131 rfl rfl (by decide) rfl ?_
  refine g_iconst (v := (nI 0)) hC dX5_copyFrom_134 (by decide) ?_
  refine g_aload_n hC dX5_copyFrom_135 rfl 0 rfl ?_
  refine g_get hC 0 5 11 inX5 m1_65 dX5_copyFrom_136 rfl rfl (by decide) rfl ?_
  refine g_iconst (v := (nI 0)) hC dX5_copyFrom_139 (by decide) ?_
  refine g_bipush (v := (nI 120)) hC dX5_copyFrom_140 (by decide) ?_
  refine g_copy (t0 := 0) hC 15 7 [(h 0, .inr (5, oH h da2 pe2 de2 no2 pa2)), (h 1, .inl (E.2.1 0, 7, .inl (nf (cpN kd2 kd 0 0 7)))), (h 2, .inl (E.2.1 0, 7, .inl (nf (cpN pl2 pl 0 0 7)))), (h 3, .inl (E.2.1 0, 7, .inl (nf (cpN bn2 bn 0 0 7)))), (h 4, .inl (E.2.1 0, 6, .inl (nf (cpN dn2 dn 0 0 6)))), (h 5, .inl (E.2.1 0, 6, .inl (nf (cpN dp2 dp 0 0 6)))), (h 6, .inl (E.2.1 0, 30, .inl (nf (cpN nt2 nt 0 0 30)))), (h 7, .inl (E.2.1 0, 120, .inl (va_cpy ps2 ps 0 0 120))), (g 0, .inr (5, oH g da2 pe2 de2 no2 pa2)), (g 1, .inl (E.2.1 0, 7, .inl (nf kd2))), (g 2, .inl (E.2.1 0, 7, .inl (nf pl2))), (g 3, .inl (E.2.1 0, 7, .inl (nf bn2))), (g 4, .inl (E.2.1 0, 6, .inl (nf dn2))), (g 5, .inl (E.2.1 0, 6, .inl (nf dp2))), (g 6, .inl (E.2.1 0, 30, .inl (nf nt2))), (g 7, .inl (E.2.1 0, 120, .inl ps2))] m2_149 m2_151 m2_150 m1_19 dX5_copyFrom_142 rfl rfl (by decide) (by decide) (by omega) (by omega) (by decide) (Nat.le_of_ble_eq_true rfl) rfl ?_
  refine g_arr 1 [(h 0, .inr (5, oH h da2 pe2 de2 no2 pa2)), (h 1, .inl (E.2.1 0, 7, .inl (nf kd2))), (h 2, .inl (E.2.1 0, 7, .inl (nf (cpN pl2 pl 0 0 7)))), (h 3, .inl (E.2.1 0, 7, .inl (nf (cpN bn2 bn 0 0 7)))), (h 4, .inl (E.2.1 0, 6, .inl (nf (cpN dn2 dn 0 0 6)))), (h 5, .inl (E.2.1 0, 6, .inl (nf (cpN dp2 dp 0 0 6)))), (h 6, .inl (E.2.1 0, 30, .inl (nf (cpN nt2 nt 0 0 30)))), (h 7, .inl (E.2.1 0, 120, .inl (va_cpy ps2 ps 0 0 120))), (g 0, .inr (5, oH g da2 pe2 de2 no2 pa2)), (g 1, .inl (E.2.1 0, 7, .inl (nf kd2))), (g 2, .inl (E.2.1 0, 7, .inl (nf pl2))), (g 3, .inl (E.2.1 0, 7, .inl (nf bn2))), (g 4, .inl (E.2.1 0, 6, .inl (nf dn2))), (g 5, .inl (E.2.1 0, 6, .inl (nf dp2))), (g 6, .inl (E.2.1 0, 30, .inl (nf nt2))), (g 7, .inl (E.2.1 0, 120, .inl ps2))] (nf kd2) rfl (cpN_all) rfl ?_
  refine g_arr 2 [(h 0, .inr (5, oH h da2 pe2 de2 no2 pa2)), (h 1, .inl (E.2.1 0, 7, .inl (nf kd2))), (h 2, .inl (E.2.1 0, 7, .inl (nf pl2))), (h 3, .inl (E.2.1 0, 7, .inl (nf (cpN bn2 bn 0 0 7)))), (h 4, .inl (E.2.1 0, 6, .inl (nf (cpN dn2 dn 0 0 6)))), (h 5, .inl (E.2.1 0, 6, .inl (nf (cpN dp2 dp 0 0 6)))), (h 6, .inl (E.2.1 0, 30, .inl (nf (cpN nt2 nt 0 0 30)))), (h 7, .inl (E.2.1 0, 120, .inl (va_cpy ps2 ps 0 0 120))), (g 0, .inr (5, oH g da2 pe2 de2 no2 pa2)), (g 1, .inl (E.2.1 0, 7, .inl (nf kd2))), (g 2, .inl (E.2.1 0, 7, .inl (nf pl2))), (g 3, .inl (E.2.1 0, 7, .inl (nf bn2))), (g 4, .inl (E.2.1 0, 6, .inl (nf dn2))), (g 5, .inl (E.2.1 0, 6, .inl (nf dp2))), (g 6, .inl (E.2.1 0, 30, .inl (nf nt2))), (g 7, .inl (E.2.1 0, 120, .inl ps2))] (nf pl2) rfl (cpN_all) rfl ?_
  refine g_arr 3 [(h 0, .inr (5, oH h da2 pe2 de2 no2 pa2)), (h 1, .inl (E.2.1 0, 7, .inl (nf kd2))), (h 2, .inl (E.2.1 0, 7, .inl (nf pl2))), (h 3, .inl (E.2.1 0, 7, .inl (nf bn2))), (h 4, .inl (E.2.1 0, 6, .inl (nf (cpN dn2 dn 0 0 6)))), (h 5, .inl (E.2.1 0, 6, .inl (nf (cpN dp2 dp 0 0 6)))), (h 6, .inl (E.2.1 0, 30, .inl (nf (cpN nt2 nt 0 0 30)))), (h 7, .inl (E.2.1 0, 120, .inl (va_cpy ps2 ps 0 0 120))), (g 0, .inr (5, oH g da2 pe2 de2 no2 pa2)), (g 1, .inl (E.2.1 0, 7, .inl (nf kd2))), (g 2, .inl (E.2.1 0, 7, .inl (nf pl2))), (g 3, .inl (E.2.1 0, 7, .inl (nf bn2))), (g 4, .inl (E.2.1 0, 6, .inl (nf dn2))), (g 5, .inl (E.2.1 0, 6, .inl (nf dp2))), (g 6, .inl (E.2.1 0, 30, .inl (nf nt2))), (g 7, .inl (E.2.1 0, 120, .inl ps2))] (nf bn2) rfl (cpN_all) rfl ?_
  refine g_arr 4 [(h 0, .inr (5, oH h da2 pe2 de2 no2 pa2)), (h 1, .inl (E.2.1 0, 7, .inl (nf kd2))), (h 2, .inl (E.2.1 0, 7, .inl (nf pl2))), (h 3, .inl (E.2.1 0, 7, .inl (nf bn2))), (h 4, .inl (E.2.1 0, 6, .inl (nf dn2))), (h 5, .inl (E.2.1 0, 6, .inl (nf (cpN dp2 dp 0 0 6)))), (h 6, .inl (E.2.1 0, 30, .inl (nf (cpN nt2 nt 0 0 30)))), (h 7, .inl (E.2.1 0, 120, .inl (va_cpy ps2 ps 0 0 120))), (g 0, .inr (5, oH g da2 pe2 de2 no2 pa2)), (g 1, .inl (E.2.1 0, 7, .inl (nf kd2))), (g 2, .inl (E.2.1 0, 7, .inl (nf pl2))), (g 3, .inl (E.2.1 0, 7, .inl (nf bn2))), (g 4, .inl (E.2.1 0, 6, .inl (nf dn2))), (g 5, .inl (E.2.1 0, 6, .inl (nf dp2))), (g 6, .inl (E.2.1 0, 30, .inl (nf nt2))), (g 7, .inl (E.2.1 0, 120, .inl ps2))] (nf dn2) rfl (cpN_all) rfl ?_
  refine g_arr 5 [(h 0, .inr (5, oH h da2 pe2 de2 no2 pa2)), (h 1, .inl (E.2.1 0, 7, .inl (nf kd2))), (h 2, .inl (E.2.1 0, 7, .inl (nf pl2))), (h 3, .inl (E.2.1 0, 7, .inl (nf bn2))), (h 4, .inl (E.2.1 0, 6, .inl (nf dn2))), (h 5, .inl (E.2.1 0, 6, .inl (nf dp2))), (h 6, .inl (E.2.1 0, 30, .inl (nf (cpN nt2 nt 0 0 30)))), (h 7, .inl (E.2.1 0, 120, .inl (va_cpy ps2 ps 0 0 120))), (g 0, .inr (5, oH g da2 pe2 de2 no2 pa2)), (g 1, .inl (E.2.1 0, 7, .inl (nf kd2))), (g 2, .inl (E.2.1 0, 7, .inl (nf pl2))), (g 3, .inl (E.2.1 0, 7, .inl (nf bn2))), (g 4, .inl (E.2.1 0, 6, .inl (nf dn2))), (g 5, .inl (E.2.1 0, 6, .inl (nf dp2))), (g 6, .inl (E.2.1 0, 30, .inl (nf nt2))), (g 7, .inl (E.2.1 0, 120, .inl ps2))] (nf dp2) rfl (cpN_all) rfl ?_
  refine g_arr 6 [(h 0, .inr (5, oH h da2 pe2 de2 no2 pa2)), (h 1, .inl (E.2.1 0, 7, .inl (nf kd2))), (h 2, .inl (E.2.1 0, 7, .inl (nf pl2))), (h 3, .inl (E.2.1 0, 7, .inl (nf bn2))), (h 4, .inl (E.2.1 0, 6, .inl (nf dn2))), (h 5, .inl (E.2.1 0, 6, .inl (nf dp2))), (h 6, .inl (E.2.1 0, 30, .inl (nf nt2))), (h 7, .inl (E.2.1 0, 120, .inl (va_cpy ps2 ps 0 0 120))), (g 0, .inr (5, oH g da2 pe2 de2 no2 pa2)), (g 1, .inl (E.2.1 0, 7, .inl (nf kd2))), (g 2, .inl (E.2.1 0, 7, .inl (nf pl2))), (g 3, .inl (E.2.1 0, 7, .inl (nf bn2))), (g 4, .inl (E.2.1 0, 6, .inl (nf dn2))), (g 5, .inl (E.2.1 0, 6, .inl (nf dp2))), (g 6, .inl (E.2.1 0, 30, .inl (nf nt2))), (g 7, .inl (E.2.1 0, 120, .inl ps2))] (nf nt2) rfl (cpN_all) rfl ?_
  refine g_arr 7 [(h 0, .inr (5, oH h da2 pe2 de2 no2 pa2)), (h 1, .inl (E.2.1 0, 7, .inl (nf kd2))), (h 2, .inl (E.2.1 0, 7, .inl (nf pl2))), (h 3, .inl (E.2.1 0, 7, .inl (nf bn2))), (h 4, .inl (E.2.1 0, 6, .inl (nf dn2))), (h 5, .inl (E.2.1 0, 6, .inl (nf dp2))), (h 6, .inl (E.2.1 0, 30, .inl (nf nt2))), (h 7, .inl (E.2.1 0, 120, .inl ps2)), (g 0, .inr (5, oH g da2 pe2 de2 no2 pa2)), (g 1, .inl (E.2.1 0, 7, .inl (nf kd2))), (g 2, .inl (E.2.1 0, 7, .inl (nf pl2))), (g 3, .inl (E.2.1 0, 7, .inl (nf bn2))), (g 4, .inl (E.2.1 0, 6, .inl (nf dn2))), (g 5, .inl (E.2.1 0, 6, .inl (nf dp2))), (g 6, .inl (E.2.1 0, 30, .inl (nf nt2))), (g 7, .inl (E.2.1 0, 120, .inl ps2))] ps2 rfl (cpy_all) rfl ?_
  exact g_ws (rfl) (hR _ _ dX5_copyFrom_145)
set_option maxHeartbeats 4000000 in
set_option maxRecDepth 100000 in
theorem f_X5_mixInto (l : Launch) (E : Ew) (h : Nat → Nat) (da : Int32) (pa : Int32) (kd : Nat → Nat) (pl : Nat → Nat) (bn : Nat → Nat) (dn : Nat → Nat) (dp : Nat → Nat) (nt : Nat → Nat) (n : Nat) (u : Nat) (v : Nat) (s0 : Int64) (hn7 : n ≤ 7) (hu : u ≤ 6) (hv : v ≤ 6) (hb : ∀ j, j < 7 → bn j < 2147483648) : Fn l E 2 yX5_mixInto cX5_mixInto 6 (some .long) [.ref (h 0), .long s0] [(h 0, .inr (5, oH h da (nI n) (nI u) (nI v) pa)), (h 1, .inl (E.2.1 0, 7, .inl (nf kd))), (h 2, .inl (E.2.1 0, 7, .inl (nf pl))), (h 3, .inl (E.2.1 0, 7, .inl (nf bn))), (h 4, .inl (E.2.1 0, 6, .inl (nf dn))), (h 5, .inl (E.2.1 0, 6, .inl (nf dp))), (h 6, .inl (E.2.1 0, 30, .inl (nf nt)))] (some (.long (mx3 nt (mx2 dn dp (mx1 kd pl bn n s0 n) u) (v * 5)))) [(h 0, .inr (5, oH h da (nI n) (nI u) (nI v) pa)), (h 1, .inl (E.2.1 0, 7, .inl (nf kd))), (h 2, .inl (E.2.1 0, 7, .inl (nf pl))), (h 3, .inl (E.2.1 0, 7, .inl (nf bn))), (h 4, .inl (E.2.1 0, 6, .inl (nf dn))), (h 5, .inl (E.2.1 0, 6, .inl (nf dp))), (h 6, .inl (E.2.1 0, 30, .inl (nf nt)))] := by
  refine fn_L (by decide) (Nat.le_of_ble_eq_true rfl) rfl ?_
  intro K hC hR
  show G K E 6 [(h 0, .inr (5, oH h da (nI n) (nI u) (nI v) pa)), (h 1, .inl (E.2.1 0, 7, .inl (nf kd))), (h 2, .inl (E.2.1 0, 7, .inl (nf pl))), (h 3, .inl (E.2.1 0, 7, .inl (nf bn))), (h 4, .inl (E.2.1 0, 6, .inl (nf dn))), (h 5, .inl (E.2.1 0, 6, .inl (nf dp))), (h 6, .inl (E.2.1 0, 30, .inl (nf nt)))] [(0, .ref (h 0)), (1, .long s0)] 0 []
  refine g_lload_n hC dX5_mixInto_0 rfl 1 rfl ?_
  refine g_lstore_n hC [(3, .long s0), (0, .ref (h 0)), (1, .long s0)] dX5_mixInto_1 rfl (by decide) rfl ?_
  refine g_iconst (v := (nI 0)) hC dX5_mixInto_2 (by decide) ?_
  refine g_istore hC [(5, .int (nI 0)), (3, .long s0), (0, .ref (h 0)), (1, .long s0)] dX5_mixInto_3 (by decide) rfl ?_
  have L_5 : ∀ (fu : Nat) (k : Nat) (hk : k ≤ n), n - k < fu → G K E 6 [(h 0, .inr (5, oH h da (nI n) (nI u) (nI v) pa)), (h 1, .inl (E.2.1 0, 7, .inl (nf kd))), (h 2, .inl (E.2.1 0, 7, .inl (nf pl))), (h 3, .inl (E.2.1 0, 7, .inl (nf bn))), (h 4, .inl (E.2.1 0, 6, .inl (nf dn))), (h 5, .inl (E.2.1 0, 6, .inl (nf dp))), (h 6, .inl (E.2.1 0, 30, .inl (nf nt)))] [(5, .int (nI k)), (3, .long (mx1 kd pl bn n s0 k)), (0, .ref (h 0))] 5 [] := by
    intro fu
    induction fu with
    | zero => intro k hk hm_5; exact absurd hm_5 (Nat.not_lt_zero _)
    | succ fu ih_5 =>
      intro k hk hm_5
      refine g_iload hC dX5_mixInto_5 0 rfl ?_
      refine g_aload_n hC dX5_mixInto_7 rfl 2 rfl ?_
      refine g_get hC 0 5 1 inX5 m1_39 dX5_mixInto_8 rfl rfl (by decide) rfl ?_
      refine g_icmp_geN (tgt := 64) hC dX5_mixInto_11 (by decide) (by omega) (by omega) (fun h_11 => ?_) (fun h_11 => ?_)
      · refine g_iconst (v := (nI 0)) hC dX5_mixInto_64 (by decide) ?_
        refine g_istore hC [(5, .int (nI 0)), (3, .long (mx1 kd pl bn n s0 k)), (0, .ref (h 0))] dX5_mixInto_65 (by decide) rfl ?_
        have L_67 : ∀ (fu : Nat) (k : Nat) (hk : k ≤ u), u - k < fu → G K E 6 [(h 0, .inr (5, oH h da (nI n) (nI u) (nI v) pa)), (h 1, .inl (E.2.1 0, 7, .inl (nf kd))), (h 2, .inl (E.2.1 0, 7, .inl (nf pl))), (h 3, .inl (E.2.1 0, 7, .inl (nf bn))), (h 4, .inl (E.2.1 0, 6, .inl (nf dn))), (h 5, .inl (E.2.1 0, 6, .inl (nf dp))), (h 6, .inl (E.2.1 0, 30, .inl (nf nt)))] [(5, .int (nI k)), (3, .long (mx2 dn dp (mx1 kd pl bn n s0 n) k)), (0, .ref (h 0))] 67 [] := by
          intro fu
          induction fu with
          | zero => intro k hk hm_67; exact absurd hm_67 (Nat.not_lt_zero _)
          | succ fu ih_67 =>
            intro k hk hm_67
            refine g_iload hC dX5_mixInto_67 0 rfl ?_
            refine g_aload_n hC dX5_mixInto_69 rfl 2 rfl ?_
            refine g_get hC 0 5 5 inX5 m1_53 dX5_mixInto_70 rfl rfl (by decide) rfl ?_
            refine g_icmp_geN (tgt := 112) hC dX5_mixInto_73 (by decide) (by omega) (by omega) (fun h_73 => ?_) (fun h_73 => ?_)
            · refine g_iconst (v := (nI 0)) hC dX5_mixInto_112 (by decide) ?_
              refine g_istore hC [(5, .int (nI 0)), (3, .long (mx2 dn dp (mx1 kd pl bn n s0 n) k)), (0, .ref (h 0))] dX5_mixInto_113 (by decide) rfl ?_
              have L_115 : ∀ (fu : Nat) (k : Nat) (hk : k ≤ v * 5), v * 5 - k < fu → G K E 6 [(h 0, .inr (5, oH h da (nI n) (nI u) (nI v) pa)), (h 1, .inl (E.2.1 0, 7, .inl (nf kd))), (h 2, .inl (E.2.1 0, 7, .inl (nf pl))), (h 3, .inl (E.2.1 0, 7, .inl (nf bn))), (h 4, .inl (E.2.1 0, 6, .inl (nf dn))), (h 5, .inl (E.2.1 0, 6, .inl (nf dp))), (h 6, .inl (E.2.1 0, 30, .inl (nf nt)))] [(5, .int (nI k)), (3, .long (mx3 nt (mx2 dn dp (mx1 kd pl bn n s0 n) u) k)), (0, .ref (h 0))] 115 [] := by
                intro fu
                induction fu with
                | zero => intro k hk hm_115; exact absurd hm_115 (Nat.not_lt_zero _)
                | succ fu ih_115 =>
                  intro k hk hm_115
                  refine g_iload hC dX5_mixInto_115 0 rfl ?_
                  refine g_aload_n hC dX5_mixInto_117 rfl 2 rfl ?_
                  refine g_get hC 0 5 8 inX5 m1_59 dX5_mixInto_118 rfl rfl (by decide) rfl ?_
                  refine g_iconst (v := (nI 5)) hC dX5_mixInto_121 (by decide) ?_
                  refine g_imulN hC dX5_mixInto_122 ?_
                  refine g_icmp_geN (tgt := 147) hC dX5_mixInto_123 (by decide) (by omega) (by omega) (fun h_123 => ?_) (fun h_123 => ?_)
                  · refine g_lload_n hC dX5_mixInto_147 rfl 1 rfl ?_
                    exact g_val (by rw [show k = v * 5 by omega]) (g_ws (rfl) (hR _ _ dX5_mixInto_148))
                  · refine g_ldc2 (v := 31) hC dX5_mixInto_126 m3_197 ?_
                    refine g_lload_n hC dX5_mixInto_129 rfl 1 rfl ?_
                    refine g_lmul hC dX5_mixInto_130 ?_
                    refine g_aload_n hC dX5_mixInto_131 rfl 2 rfl ?_
                    refine g_get hC 0 5 9 inX5 m1_61 dX5_mixInto_132 rfl rfl (by decide) rfl ?_
                    refine g_iload hC dX5_mixInto_135 0 rfl ?_
                    refine g_ialdN hC 6 dX5_mixInto_137 rfl (by decide) (by omega) ?_
                    refine g_val (v' := .int (nI (nt k))) rfl ?_
                    refine g_i2l hC dX5_mixInto_138 ?_
                    refine g_ladd hC dX5_mixInto_139 ?_
                    refine g_lstore_n hC [(3, .long ((31 * (mx3 nt (mx2 dn dp (mx1 kd pl bn n s0 n) u) k)) + (nI (nt k)).toInt64)), (5, .int (nI k)), (0, .ref (h 0))] dX5_mixInto_140 rfl (by decide) rfl ?_
                    refine g_iincN hC (q := 1) 1 [(5, .int (nI (k + 1))), (3, .long ((31 * (mx3 nt (mx2 dn dp (mx1 kd pl bn n s0 n) u) k)) + (nI (nt k)).toInt64)), (0, .ref (h 0))] dX5_mixInto_141 rfl rfl (by decide) rfl ?_
                    refine g_goto (tgt := 115) hC dX5_mixInto_144 (by decide) ?_
                    refine g_lv (lv' := [(5, .int (nI (k + 1))), (3, .long ((31 * (mx3 nt (mx2 dn dp (mx1 kd pl bn n s0 n) u) k)) + (nI (nt k)).toInt64)), (0, .ref (h 0))]) [0, 1, 2] rfl ?_
                    refine g_lve (lv' := [(5, .int (nI (k + 1))), (3, .long (mx3 nt (mx2 dn dp (mx1 kd pl bn n s0 n) u) (k + 1))), (0, .ref (h 0))]) (rfl) ?_
                    exact ih_115 (k + 1) (by omega) (by omega)
              refine g_lv (lv' := [(5, .int (nI 0)), (3, .long (mx2 dn dp (mx1 kd pl bn n s0 n) k)), (0, .ref (h 0))]) [0, 1, 2] rfl ?_
              refine g_lve (lv' := [(5, .int (nI 0)), (3, .long (mx3 nt (mx2 dn dp (mx1 kd pl bn n s0 n) u) 0)), (0, .ref (h 0))]) (by rw [show k = u by omega]; rfl) ?_
              exact L_115 ((v * 5 - 0) + 1) 0 (by omega) (Nat.lt_succ_self _)
            · refine g_ldc2 (v := 31) hC dX5_mixInto_76 m3_197 ?_
              refine g_lload_n hC dX5_mixInto_79 rfl 1 rfl ?_
              refine g_lmul hC dX5_mixInto_80 ?_
              refine g_aload_n hC dX5_mixInto_81 rfl 2 rfl ?_
              refine g_get hC 0 5 6 inX5 m1_55 dX5_mixInto_82 rfl rfl (by decide) rfl ?_
              refine g_iload hC dX5_mixInto_85 0 rfl ?_
              refine g_ialdN hC 4 dX5_mixInto_87 rfl (by decide) (by omega) ?_
              refine g_val (v' := .int (nI (dn k))) rfl ?_
              refine g_i2l hC dX5_mixInto_88 ?_
              refine g_ladd hC dX5_mixInto_89 ?_
              refine g_lstore_n hC [(3, .long ((31 * (mx2 dn dp (mx1 kd pl bn n s0 n) k)) + (nI (dn k)).toInt64)), (5, .int (nI k)), (0, .ref (h 0))] dX5_mixInto_90 rfl (by decide) rfl ?_
              refine g_ldc2 (v := 31) hC dX5_mixInto_91 m3_197 ?_
              refine g_lload_n hC dX5_mixInto_94 rfl 0 rfl ?_
              refine g_lmul hC dX5_mixInto_95 ?_
              refine g_aload_n hC dX5_mixInto_96 rfl 2 rfl ?_
              refine g_get hC 0 5 7 inX5 m1_57 dX5_mixInto_97 rfl rfl (by decide) rfl ?_
              refine g_iload hC dX5_mixInto_100 1 rfl ?_
              refine g_ialdN hC 5 dX5_mixInto_102 rfl (by decide) (by omega) ?_
              refine g_val (v' := .int (nI (dp k))) rfl ?_
              refine g_i2l hC dX5_mixInto_103 ?_
              refine g_ladd hC dX5_mixInto_104 ?_
              refine g_lstore_n hC [(3, .long ((31 * ((31 * (mx2 dn dp (mx1 kd pl bn n s0 n) k)) + (nI (dn k)).toInt64)) + (nI (dp k)).toInt64)), (5, .int (nI k)), (0, .ref (h 0))] dX5_mixInto_105 rfl (by decide) rfl ?_
              refine g_iincN hC (q := 1) 1 [(5, .int (nI (k + 1))), (3, .long ((31 * ((31 * (mx2 dn dp (mx1 kd pl bn n s0 n) k)) + (nI (dn k)).toInt64)) + (nI (dp k)).toInt64)), (0, .ref (h 0))] dX5_mixInto_106 rfl rfl (by decide) rfl ?_
              refine g_goto (tgt := 67) hC dX5_mixInto_109 (by decide) ?_
              refine g_lv (lv' := [(5, .int (nI (k + 1))), (3, .long ((31 * ((31 * (mx2 dn dp (mx1 kd pl bn n s0 n) k)) + (nI (dn k)).toInt64)) + (nI (dp k)).toInt64)), (0, .ref (h 0))]) [0, 1, 2] rfl ?_
              refine g_lve (lv' := [(5, .int (nI (k + 1))), (3, .long (mx2 dn dp (mx1 kd pl bn n s0 n) (k + 1))), (0, .ref (h 0))]) (rfl) ?_
              exact ih_67 (k + 1) (by omega) (by omega)
        refine g_lv (lv' := [(5, .int (nI 0)), (3, .long (mx1 kd pl bn n s0 k)), (0, .ref (h 0))]) [0, 1, 2] rfl ?_
        refine g_lve (lv' := [(5, .int (nI 0)), (3, .long (mx2 dn dp (mx1 kd pl bn n s0 n) 0)), (0, .ref (h 0))]) (by rw [show k = n by omega]; rfl) ?_
        exact L_67 ((u - 0) + 1) 0 (by omega) (Nat.lt_succ_self _)
      · refine g_ldc2 (v := 31) hC dX5_mixInto_14 m3_197 ?_
        refine g_lload_n hC dX5_mixInto_17 rfl 1 rfl ?_
        refine g_lmul hC dX5_mixInto_18 ?_
        refine g_aload_n hC dX5_mixInto_19 rfl 2 rfl ?_
        refine g_get hC 0 5 2 inX5 m1_44 dX5_mixInto_20 rfl rfl (by decide) rfl ?_
        refine g_iload hC dX5_mixInto_23 0 rfl ?_
        refine g_ialdN hC 1 dX5_mixInto_25 rfl (by decide) (by omega) ?_
        refine g_val (v' := .int (nI (kd k))) rfl ?_
        refine g_i2l hC dX5_mixInto_26 ?_
        refine g_ladd hC dX5_mixInto_27 ?_
        refine g_lstore_n hC [(3, .long ((31 * (mx1 kd pl bn n s0 k)) + (nI (kd k)).toInt64)), (5, .int (nI k)), (0, .ref (h 0))] dX5_mixInto_28 rfl (by decide) rfl ?_
        refine g_ldc2 (v := 31) hC dX5_mixInto_29 m3_197 ?_
        refine g_lload_n hC dX5_mixInto_32 rfl 0 rfl ?_
        refine g_lmul hC dX5_mixInto_33 ?_
        refine g_aload_n hC dX5_mixInto_34 rfl 2 rfl ?_
        refine g_get hC 0 5 3 inX5 m1_47 dX5_mixInto_35 rfl rfl (by decide) rfl ?_
        refine g_iload hC dX5_mixInto_38 1 rfl ?_
        refine g_ialdN hC 2 dX5_mixInto_40 rfl (by decide) (by omega) ?_
        refine g_val (v' := .int (nI (pl k))) rfl ?_
        refine g_i2l hC dX5_mixInto_41 ?_
        refine g_ladd hC dX5_mixInto_42 ?_
        refine g_lstore_n hC [(3, .long ((31 * ((31 * (mx1 kd pl bn n s0 k)) + (nI (kd k)).toInt64)) + (nI (pl k)).toInt64)), (5, .int (nI k)), (0, .ref (h 0))] dX5_mixInto_43 rfl (by decide) rfl ?_
        refine g_ldc2 (v := 31) hC dX5_mixInto_44 m3_197 ?_
        refine g_lload_n hC dX5_mixInto_47 rfl 0 rfl ?_
        refine g_lmul hC dX5_mixInto_48 ?_
        refine g_aload_n hC dX5_mixInto_49 rfl 2 rfl ?_
        refine g_iload hC dX5_mixInto_50 1 rfl ?_
        refine g_callV hC (f_X5_nameOf (kl K) E h da (nI u) (nI v) pa bn n k (by omega) (hb) (by omega)) wX5_nameOf m3_198 dX5_mixInto_52 [0, 3] [(h 0, .inr (5, oH h da (nI n) (nI u) (nI v) pa)), (h 1, .inl (E.2.1 0, 7, .inl (nf kd))), (h 2, .inl (E.2.1 0, 7, .inl (nf pl))), (h 3, .inl (E.2.1 0, 7, .inl (nf bn))), (h 4, .inl (E.2.1 0, 6, .inl (nf dn))), (h 5, .inl (E.2.1 0, 6, .inl (nf dp))), (h 6, .inl (E.2.1 0, 30, .inl (nf nt)))] 0 5 rfl rfl (by decide) rfl (Nat.le_of_ble_eq_true rfl) rfl rfl rfl rfl rfl ?_
        refine g_i2l hC dX5_mixInto_55 ?_
        refine g_ladd hC dX5_mixInto_56 ?_
        refine g_lstore_n hC [(3, .long ((31 * ((31 * ((31 * (mx1 kd pl bn n s0 k)) + (nI (kd k)).toInt64)) + (nI (pl k)).toInt64)) + (fi (fun m => (bn m).testBit k) n).toInt64)), (5, .int (nI k)), (0, .ref (h 0))] dX5_mixInto_57 rfl (by decide) rfl ?_
        refine g_iincN hC (q := 1) 1 [(5, .int (nI (k + 1))), (3, .long ((31 * ((31 * ((31 * (mx1 kd pl bn n s0 k)) + (nI (kd k)).toInt64)) + (nI (pl k)).toInt64)) + (fi (fun m => (bn m).testBit k) n).toInt64)), (0, .ref (h 0))] dX5_mixInto_58 rfl rfl (by decide) rfl ?_
        refine g_goto (tgt := 5) hC dX5_mixInto_61 (by decide) ?_
        refine g_lv (lv' := [(5, .int (nI (k + 1))), (3, .long ((31 * ((31 * ((31 * (mx1 kd pl bn n s0 k)) + (nI (kd k)).toInt64)) + (nI (pl k)).toInt64)) + (fi (fun m => (bn m).testBit k) n).toInt64)), (0, .ref (h 0))]) [0, 1, 2] rfl ?_
        refine g_lve (lv' := [(5, .int (nI (k + 1))), (3, .long (mx1 kd pl bn n s0 (k + 1))), (0, .ref (h 0))]) (rfl) ?_
        exact ih_5 (k + 1) (by omega) (by omega)
  refine g_lv (lv' := [(5, .int (nI 0)), (3, .long s0), (0, .ref (h 0))]) [0, 1, 2] rfl ?_
  refine g_lve (lv' := [(5, .int (nI 0)), (3, .long (mx1 kd pl bn n s0 0)), (0, .ref (h 0))]) (rfl) ?_
  exact L_5 ((n - 0) + 1) 0 (by omega) (Nat.lt_succ_self _)
set_option maxHeartbeats 4000000 in
set_option maxRecDepth 100000 in
theorem f_X4_commonDivisor (l : Launch) (E : Ew) (o : Nat) (w : Nat) (ho : o < 1099511627776) (hw : w < 1099511627776) (hw0 : 0 < w) : Fn l E 0 yX4_commonDivisor cX4_commonDivisor 11 (some .long) [.long (lN o), .long (lN w)] [] (some (.long (lN (Nat.gcd o w)))) [] := by
  refine fn_L (by decide) (Nat.le_of_ble_eq_true rfl) rfl ?_
  intro K hC hR
  show G K E 11 [] [(0, .long (lN o)), (2, .long (lN w))] 0 []
  refine g_lload_n hC dX4_commonDivisor_0 rfl 0 rfl ?_
  refine g_lstore hC [(4, .long (lN o)), (0, .long (lN o)), (2, .long (lN w))] dX4_commonDivisor_1 (by decide) rfl ?_
  refine g_lload_n hC dX4_commonDivisor_3 rfl 2 rfl ?_
  refine g_lstore hC [(6, .long (lN w)), (4, .long (lN o)), (0, .long (lN o)), (2, .long (lN w))] dX4_commonDivisor_4 (by decide) rfl ?_
  refine g_iconst (v := (nI 0)) hC dX4_commonDivisor_6 (by decide) ?_
  refine g_istore hC [(8, .int (nI 0)), (6, .long (lN w)), (4, .long (lN o)), (0, .long (lN o)), (2, .long (lN w))] dX4_commonDivisor_7 (by decide) rfl ?_
  have L_9 : ∀ (fu : Nat) (k : Nat) (s : Nat) (t : Nat) (hk : k ≤ 200) (hs : s < 1099511627776) (ht : t < 1099511627776) (hg : Nat.gcd s t = Nat.gcd o w) (he : (k = 0 ∧ s = o ∧ t = w ∨ t ≤ s ∧ s * t * 2 ^ (k - 1) ≤ o * w ∧ 0 < k)) (hp : 0 < s ∨ k = 0), 200 - k < fu → G K E 11 [] [(8, .int (nI k)), (4, .long (lN s)), (6, .long (lN t))] 9 [] := by
    intro fu
    induction fu with
    | zero => intro k s t hk hs ht hg he hp hm_9; exact absurd hm_9 (Nat.not_lt_zero _)
    | succ fu ih_9 =>
      intro k s t hk hs ht hg he hp hm_9
      refine g_iload hC dX4_commonDivisor_9 0 rfl ?_
      refine g_sipush (v := (nI 200)) hC dX4_commonDivisor_11 (by decide) ?_
      refine g_icmp_geN (tgt := 45) hC dX4_commonDivisor_14 (by decide) (by omega) (by omega) (fun h_14 => ?_) (fun h_14 => ?_)
      · have ht0 : t = 0 := eu_end ho hw (by omega) h_14 he
        refine g_lload hC dX4_commonDivisor_45 1 rfl ?_
        refine g_lconst (v := 0) hC dX4_commonDivisor_47 (by decide) ?_
        refine g_lcmp hC dX4_commonDivisor_48 ?_
        refine g_if_le (tgt := 57) hC dX4_commonDivisor_49 (by decide) (fun h_49 => ?_) (fun h_49 => ?_)
        · exact absurd (lg_cmp_le _ _ |>.mp h_49) (by have hs0 : s = Nat.gcd o w := (by rw [← hg, ht0, Nat.gcd_zero_right]); have h9 := Nat.gcd_pos_of_pos_right o hw0; rw [lN0, pk_lLE (by omega) (by decide)]; omega)
        · refine g_lload hC dX4_commonDivisor_52 1 rfl ?_
          refine g_goto (tgt := 58) hC dX4_commonDivisor_54 (by decide) ?_
          exact g_val (by rw [← hg, ht0, Nat.gcd_zero_right]) (g_ws (rfl) (hR _ _ dX4_commonDivisor_58))
      · refine g_lload hC dX4_commonDivisor_17 2 rfl ?_
        refine g_lconst (v := 0) hC dX4_commonDivisor_19 (by decide) ?_
        refine g_lcmp hC dX4_commonDivisor_20 ?_
        refine g_if_eq (tgt := 45) hC dX4_commonDivisor_21 (by decide) (fun h_21 => ?_) (fun h_21 => ?_)
        · have ht0 : t = 0 := (lcmp0 (by omega)).mp h_21
          refine g_lload hC dX4_commonDivisor_45 1 rfl ?_
          refine g_lconst (v := 0) hC dX4_commonDivisor_47 (by decide) ?_
          refine g_lcmp hC dX4_commonDivisor_48 ?_
          refine g_if_le (tgt := 57) hC dX4_commonDivisor_49 (by decide) (fun h_49 => ?_) (fun h_49 => ?_)
          · exact absurd (lg_cmp_le _ _ |>.mp h_49) (by have hs0 : s = Nat.gcd o w := (by rw [← hg, ht0, Nat.gcd_zero_right]); have h9 := Nat.gcd_pos_of_pos_right o hw0; rw [lN0, pk_lLE (by omega) (by decide)]; omega)
          · refine g_lload hC dX4_commonDivisor_52 1 rfl ?_
            refine g_goto (tgt := 58) hC dX4_commonDivisor_54 (by decide) ?_
            exact g_val (by rw [← hg, ht0, Nat.gcd_zero_right]) (g_ws (rfl) (hR _ _ dX4_commonDivisor_58))
        · have ht1 : t ≠ 0 := fun e => h_21 ((lcmp0 (by omega)).mpr e)
          refine g_lload hC dX4_commonDivisor_24 1 rfl ?_
          refine g_lload hC dX4_commonDivisor_26 2 rfl ?_
          refine g_lrem hC dX4_commonDivisor_28 (lN_ne0 (by omega) (by omega)) ?_
          refine g_val (v' := .long (lN (s % t))) (by rw [pk_lRem (by omega) (by omega) (by omega)]) ?_
          refine g_lstore hC [(9, .long (lN (s % t))), (8, .int (nI k)), (4, .long (lN s)), (6, .long (lN t))] dX4_commonDivisor_29 (by decide) rfl ?_
          refine g_lload hC dX4_commonDivisor_31 3 rfl ?_
          refine g_lstore hC [(4, .long (lN t)), (9, .long (lN (s % t))), (8, .int (nI k)), (6, .long (lN t))] dX4_commonDivisor_33 (by decide) rfl ?_
          refine g_lload hC dX4_commonDivisor_35 1 rfl ?_
          refine g_lstore hC [(6, .long (lN (s % t))), (4, .long (lN t)), (9, .long (lN (s % t))), (8, .int (nI k))] dX4_commonDivisor_37 (by decide) rfl ?_
          refine g_iincN hC (q := 3) 1 [(8, .int (nI (k + 1))), (6, .long (lN (s % t))), (4, .long (lN t)), (9, .long (lN (s % t)))] dX4_commonDivisor_39 rfl rfl (by decide) rfl ?_
          refine g_goto (tgt := 9) hC dX4_commonDivisor_42 (by decide) ?_
          refine g_lv (lv' := [(8, .int (nI (k + 1))), (4, .long (lN t)), (6, .long (lN (s % t)))]) [0, 2, 1] rfl ?_
          exact ih_9 (k + 1) t (s % t) (by omega) (ht) (Nat.lt_trans (Nat.mod_lt _ (by omega)) ht) (by rw [gcd_s, hg]) (Or.inr ⟨(eu_step (by omega) he).1, (eu_step (by omega) he).2, by omega⟩) (by omega) (by omega)
  refine g_lv (lv' := [(8, .int (nI 0)), (4, .long (lN o)), (6, .long (lN w))]) [0, 2, 1] rfl ?_
  exact L_9 ((200 - 0) + 1) 0 o w (by omega) (ho) (hw) (rfl) (Or.inl ⟨rfl, rfl, rfl⟩) (Or.inr rfl) (Nat.lt_succ_self _)
set_option maxHeartbeats 4000000 in
set_option maxRecDepth 100000 in
theorem f_X4_become (l : Launch) (E : Ew) (x : Nat → Nat) (ab : Int64) (be : Int64) (o : Nat) (w : Nat) (ho : o < 1099511627776) (hw : w < 1099511627776) (hw0 : 0 < w) : Fn l E 1 yX4_become cX4_become 7 none [.ref (x 6), .long (lN o), .long (lN w)] [(x 6, .inr (4, oF x ab be))] none [(x 6, .inr (4, oF x (lN (o / Nat.gcd o w)) (lN (w / Nat.gcd o w))))] := by
  refine fn_V (by decide) (Nat.le_of_ble_eq_true rfl) rfl ?_
  intro K hC hR
  show G K E 7 [(x 6, .inr (4, oF x ab be))] [(0, .ref (x 6)), (1, .long (lN o)), (3, .long (lN w))] 0 []
  have hg0 := Nat.gcd_pos_of_pos_right o hw0
  have hgl := Nat.le_of_dvd hw0 (Nat.gcd_dvd_right o w)
  refine g_lload_n hC dX4_become_0 rfl 1 rfl ?_
  refine g_lconst (v := 0) hC dX4_become_1 (by decide) ?_
  refine g_lcmp hC dX4_become_2 ?_
  refine g_if_lt (tgt := 12) hC dX4_become_3 (by decide) (fun h_3 => ?_) (fun h_3 => ?_)
  · exact absurd (lg_cmp_lt _ _ |>.mp h_3) (by rw [lN0, pk_lLT (by omega) (by decide)]; omega)
  · refine g_lload_n hC dX4_become_6 rfl 2 rfl ?_
    refine g_lconst (v := 0) hC dX4_become_7 (by decide) ?_
    refine g_lcmp hC dX4_become_8 ?_
    refine g_if_gt (tgt := 13) hC dX4_become_9 (by decide) (fun h_9 => ?_) (fun h_9 => ?_)
    · refine g_lload_n hC dX4_become_13 rfl 1 rfl ?_
      refine g_lload_n hC dX4_become_14 rfl 2 rfl ?_
      refine g_callS hC (f_X4_commonDivisor (kl K) E o w (by omega) (by omega) (by omega)) wX4_commonDivisor m3_79 dX4_become_15 [] [(x 6, .inr (4, oF x ab be))] (by decide) rfl (Nat.le_of_ble_eq_true rfl) rfl rfl rfl rfl rfl ?_
      refine g_lstore hC [(5, .long (lN (Nat.gcd o w))), (0, .ref (x 6)), (1, .long (lN o)), (3, .long (lN w))] dX4_become_18 (by decide) rfl ?_
      refine g_aload_n hC dX4_become_20 rfl 1 rfl ?_
      refine g_lload_n hC dX4_become_21 rfl 2 rfl ?_
      refine g_lload hC dX4_become_22 0 rfl ?_
      refine g_ldiv hC dX4_become_24 (lN_ne0 (by omega) hg0) ?_
      refine g_val (v' := .long (lN (o / Nat.gcd o w))) (by rw [pk_lDiv (by omega) hg0 (by omega)]) ?_
      refine g_put hC 0 4 0 [(x 6, .inr (4, oF x (lN (o / Nat.gcd o w)) be))] .long inX4 tyX4_ok nmX4 m1_128 dX4_become_25 rfl rfl (by decide) rfl (by decide +kernel) rfl rfl (Nat.le_of_ble_eq_true rfl) rfl ?_
      refine g_aload_n hC dX4_become_28 rfl 1 rfl ?_
      refine g_lload_n hC dX4_become_29 rfl 3 rfl ?_
      refine g_lload hC dX4_become_30 0 rfl ?_
      refine g_ldiv hC dX4_become_32 (lN_ne0 (by omega) hg0) ?_
      refine g_val (v' := .long (lN (w / Nat.gcd o w))) (by rw [pk_lDiv (by omega) hg0 (by omega)]) ?_
      refine g_put hC 0 4 1 [(x 6, .inr (4, oF x (lN (o / Nat.gcd o w)) (lN (w / Nat.gcd o w))))] .long inX4 tyX4_ok nmX4 m1_130 dX4_become_33 rfl rfl (by decide) rfl (by decide +kernel) rfl rfl (Nat.le_of_ble_eq_true rfl) rfl ?_
      exact g_ws (rfl) (hR _ _ dX4_become_36)
    · exact absurd (lg_cmp_gt _ _ |>.mpr (by rw [lN0, pk_lLT (by decide) (by omega)]; omega)) h_9
