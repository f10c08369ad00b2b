/-! ===== the law's loop ===== -/
theorem g_slen {K : Kx} {E : Ew} {cc : ByteArray} {nL d pc b L : Nat} {own : String} {ws : va_W} {lv : List (Nat × Value)} {st : List Value} {xs : Nat → Int32} (hC : Cx K E cc nL own d) (hX : va_X b L xs (ks K) (ks K).heap) (hbl : b < (ks K).heap.size) (hbA : ¬ kA K b) (hd : decode cc pc = .ok (.arraylength, 1)) (k : G K E nL ws lv (pc + 1) (.int (nI L) :: st)) : G K E nL ws lv pc (.ref b :: st) := fun H locs ls hP hD hS hl => va_slen hC.1 hC.2.1 hX hbl hbA hS hd (k H locs ls hP hD hS hl)
theorem g_sld {K : Kx} {E : Ew} {cc : ByteArray} {nL d pc b L j : Nat} {own : String} {ws : va_W} {lv : List (Nat × Value)} {st : List Value} {xs : Nat → Int32} (hC : Cx K E cc nL own d) (hX : va_X b L xs (ks K) (ks K).heap) (hbl : b < (ks K).heap.size) (hbA : ¬ kA K b) (hj : j < L) (hL : L ≤ 384) (hd : decode cc pc = .ok (.iaload, 1)) (k : G K E nL ws lv (pc + 1) (.int (xs j) :: st)) : G K E nL ws lv pc (.int (nI j) :: .ref b :: st) := fun H locs ls hP hD hS hl => va_sld hC.1 hC.2.1 hX hbl hbA hS (vp_in_nI hj (by omega)) hd (by rw [nI_clamp (by omega)]; exact k H locs ls hP hD hS hl)
set_option maxHeartbeats 2000000 in
set_option maxRecDepth 100000 in
theorem lc_hamlet {K : Kx} {E : Ew} {x h dr g0 g1 q : Nat → Nat} {ws : va_W} {b L i : Nat} {xs : Nat → Int32} (hC : Cx K E cL_law 4 "LastCalledLaw" 8) (hX : va_X b L xs (ks K) (ks K).heap) (hbl : b < (ks K).heap.size) (hbA : ¬ kA K b) (hL : L ≤ 384) (hi : i + 6 ≤ L) (hR : Rw E x h dr g0 g1 q ws) (hJ : ∀ w, Rw E x h dr g0 g1 q w → G K E 4 w [(0, .ref b), (1, .ref (x 0)), (2, .ref (q 0)), (3, .int (nI i))] 1071 []) : G K E 4 ws [(0, .ref b), (1, .ref (x 0)), (2, .ref (q 0)), (3, .int (nI i))] 180 [] := by
  obtain ⟨r, Z, hS1, hk1⟩ := j_hamlet hC hR (xs (i + 1))
  refine g_aload_n hC dL_law_180 rfl 1 rfl ?_
  refine g_aload_n hC dL_law_181 rfl 0 rfl ?_
  refine g_iload_n hC dL_law_182 rfl 3 rfl ?_
  refine g_iconst (v := nI 1) hC dL_law_183 (by decide) ?_
  refine g_iaddN hC dL_law_184 ?_
  refine g_sld hC hX hbl hbA (by omega) hL dL_law_185 ?_
  refine hS1 13 186 [(0, .ref b), (1, .ref (x 0)), (2, .ref (q 0)), (3, .int (nI i))] [] m2_9 dL_law_186 (Nat.le_of_ble_eq_true rfl) (fun w1 hz1 => ?_)
  obtain ⟨Z2, hS2, hk2⟩ := hk1 w1 hz1
  refine g_aload_n hC dL_law_189 rfl 2 rfl ?_
  refine g_aload_n hC dL_law_190 rfl 0 rfl ?_
  refine g_iload_n hC dL_law_191 rfl 3 rfl ?_
  refine g_iconst (v := nI 1) hC dL_law_192 (by decide) ?_
  refine g_iaddN hC dL_law_193 ?_
  refine g_sld hC hX hbl hbA (by omega) hL dL_law_194 ?_
  refine hS2 17 195 [(0, .ref b), (1, .ref (x 0)), (2, .ref (q 0)), (3, .int (nI i))] [.int r] m4_26 dL_law_195 (Nat.le_of_ble_eq_true rfl) (fun w2 hz2 => ?_)
  refine g_icmp_eq (tgt := 1071) hC dL_law_198 (by decide) (fun _ => hJ w2 (hk2 w2 hz2)) (fun hn => absurd rfl hn)
set_option maxHeartbeats 2000000 in
set_option maxRecDepth 100000 in
theorem lc_one {K : Kx} {E : Ew} {x h dr g0 g1 q : Nat → Nat} {ws : va_W} {b L i : Nat} {xs : Nat → Int32} (hC : Cx K E cL_law 4 "LastCalledLaw" 8) (hX : va_X b L xs (ks K) (ks K).heap) (hbl : b < (ks K).heap.size) (hbA : ¬ kA K b) (hL : L ≤ 384) (hi : i + 6 ≤ L) (hR : Rw E x h dr g0 g1 q ws) (hJ : ∀ w, Rw E x h dr g0 g1 q w → G K E 4 w [(0, .ref b), (1, .ref (x 0)), (2, .ref (q 0)), (3, .int (nI i))] 1071 []) : G K E 4 ws [(0, .ref b), (1, .ref (x 0)), (2, .ref (q 0)), (3, .int (nI i))] 203 [] := by
  obtain ⟨r, Z, hS1, hk1⟩ := j_one hC hR (xs (i + 1)) (xs (i + 2))
  refine g_aload_n hC dL_law_203 rfl 1 rfl ?_
  refine g_aload_n hC dL_law_204 rfl 0 rfl ?_
  refine g_iload_n hC dL_law_205 rfl 3 rfl ?_
  refine g_iconst (v := nI 1) hC dL_law_206 (by decide) ?_
  refine g_iaddN hC dL_law_207 ?_
  refine g_sld hC hX hbl hbA (by omega) hL dL_law_208 ?_
  refine g_aload_n hC dL_law_209 rfl 0 rfl ?_
  refine g_iload_n hC dL_law_210 rfl 3 rfl ?_
  refine g_iconst (v := nI 2) hC dL_law_211 (by decide) ?_
  refine g_iaddN hC dL_law_212 ?_
  refine g_sld hC hX hbl hbA (by omega) hL dL_law_213 ?_
  refine hS1 18 214 [(0, .ref b), (1, .ref (x 0)), (2, .ref (q 0)), (3, .int (nI i))] [] m2_27 dL_law_214 (Nat.le_of_ble_eq_true rfl) (fun w1 hz1 => ?_)
  obtain ⟨Z2, hS2, hk2⟩ := hk1 w1 hz1
  refine g_aload_n hC dL_law_217 rfl 2 rfl ?_
  refine g_aload_n hC dL_law_218 rfl 0 rfl ?_
  refine g_iload_n hC dL_law_219 rfl 3 rfl ?_
  refine g_iconst (v := nI 1) hC dL_law_220 (by decide) ?_
  refine g_iaddN hC dL_law_221 ?_
  refine g_sld hC hX hbl hbA (by omega) hL dL_law_222 ?_
  refine g_aload_n hC dL_law_223 rfl 0 rfl ?_
  refine g_iload_n hC dL_law_224 rfl 3 rfl ?_
  refine g_iconst (v := nI 2) hC dL_law_225 (by decide) ?_
  refine g_iaddN hC dL_law_226 ?_
  refine g_sld hC hX hbl hbA (by omega) hL dL_law_227 ?_
  refine hS2 22 228 [(0, .ref b), (1, .ref (x 0)), (2, .ref (q 0)), (3, .int (nI i))] [.int r] m4_42 dL_law_228 (Nat.le_of_ble_eq_true rfl) (fun w2 hz2 => ?_)
  refine g_icmp_eq (tgt := 1071) hC dL_law_231 (by decide) (fun _ => hJ w2 (hk2 w2 hz2)) (fun hn => absurd rfl hn)
set_option maxHeartbeats 2000000 in
set_option maxRecDepth 100000 in
theorem lc_type {K : Kx} {E : Ew} {x h dr g0 g1 q : Nat → Nat} {ws : va_W} {b L i : Nat} {xs : Nat → Int32} (hC : Cx K E cL_law 4 "LastCalledLaw" 8) (hX : va_X b L xs (ks K) (ks K).heap) (hbl : b < (ks K).heap.size) (hbA : ¬ kA K b) (hL : L ≤ 384) (hi : i + 6 ≤ L) (hR : Rw E x h dr g0 g1 q ws) (hJ : ∀ w, Rw E x h dr g0 g1 q w → G K E 4 w [(0, .ref b), (1, .ref (x 0)), (2, .ref (q 0)), (3, .int (nI i))] 1071 []) : G K E 4 ws [(0, .ref b), (1, .ref (x 0)), (2, .ref (q 0)), (3, .int (nI i))] 236 [] := by
  obtain ⟨r, Z, hS1, hk1⟩ := j_type hC hR (xs (i + 1))
  refine g_aload_n hC dL_law_236 rfl 1 rfl ?_
  refine g_aload_n hC dL_law_237 rfl 0 rfl ?_
  refine g_iload_n hC dL_law_238 rfl 3 rfl ?_
  refine g_iconst (v := nI 1) hC dL_law_239 (by decide) ?_
  refine g_iaddN hC dL_law_240 ?_
  refine g_sld hC hX hbl hbA (by omega) hL dL_law_241 ?_
  refine hS1 23 242 [(0, .ref b), (1, .ref (x 0)), (2, .ref (q 0)), (3, .int (nI i))] [] m2_35 dL_law_242 (Nat.le_of_ble_eq_true rfl) (fun w1 hz1 => ?_)
  obtain ⟨Z2, hS2, hk2⟩ := hk1 w1 hz1
  refine g_aload_n hC dL_law_245 rfl 2 rfl ?_
  refine g_aload_n hC dL_law_246 rfl 0 rfl ?_
  refine g_iload_n hC dL_law_247 rfl 3 rfl ?_
  refine g_iconst (v := nI 1) hC dL_law_248 (by decide) ?_
  refine g_iaddN hC dL_law_249 ?_
  refine g_sld hC hX hbl hbA (by omega) hL dL_law_250 ?_
  refine hS2 26 251 [(0, .ref b), (1, .ref (x 0)), (2, .ref (q 0)), (3, .int (nI i))] [.int r] m4_236 dL_law_251 (Nat.le_of_ble_eq_true rfl) (fun w2 hz2 => ?_)
  refine g_icmp_eq (tgt := 1071) hC dL_law_254 (by decide) (fun _ => hJ w2 (hk2 w2 hz2)) (fun hn => absurd rfl hn)
set_option maxHeartbeats 2000000 in
set_option maxRecDepth 100000 in
theorem lc_clear {K : Kx} {E : Ew} {x h dr g0 g1 q : Nat → Nat} {ws : va_W} {b L i : Nat} {xs : Nat → Int32} (hC : Cx K E cL_law 4 "LastCalledLaw" 8) (hX : va_X b L xs (ks K) (ks K).heap) (hbl : b < (ks K).heap.size) (hbA : ¬ kA K b) (hL : L ≤ 384) (hi : i + 6 ≤ L) (hR : Rw E x h dr g0 g1 q ws) (hJ : ∀ w, Rw E x h dr g0 g1 q w → G K E 4 w [(0, .ref b), (1, .ref (x 0)), (2, .ref (q 0)), (3, .int (nI i))] 1071 []) : G K E 4 ws [(0, .ref b), (1, .ref (x 0)), (2, .ref (q 0)), (3, .int (nI i))] 259 [] := by
  obtain ⟨r, Z, hS1, hk1⟩ := j_clear hC hR 
  refine g_aload_n hC dL_law_259 rfl 1 rfl ?_
  refine hS1 27 260 [(0, .ref b), (1, .ref (x 0)), (2, .ref (q 0)), (3, .int (nI i))] [] m2_43 dL_law_260 (Nat.le_of_ble_eq_true rfl) (fun w1 hz1 => ?_)
  obtain ⟨Z2, hS2, hk2⟩ := hk1 w1 hz1
  refine g_aload_n hC dL_law_263 rfl 2 rfl ?_
  refine hS2 31 264 [(0, .ref b), (1, .ref (x 0)), (2, .ref (q 0)), (3, .int (nI i))] [.int r] m5_1 dL_law_264 (Nat.le_of_ble_eq_true rfl) (fun w2 hz2 => ?_)
  refine g_icmp_eq (tgt := 1071) hC dL_law_267 (by decide) (fun _ => hJ w2 (hk2 w2 hz2)) (fun hn => absurd rfl hn)
set_option maxHeartbeats 2000000 in
set_option maxRecDepth 100000 in
theorem lc_read {K : Kx} {E : Ew} {x h dr g0 g1 q : Nat → Nat} {ws : va_W} {b L i : Nat} {xs : Nat → Int32} (hC : Cx K E cL_law 4 "LastCalledLaw" 8) (hX : va_X b L xs (ks K) (ks K).heap) (hbl : b < (ks K).heap.size) (hbA : ¬ kA K b) (hL : L ≤ 384) (hi : i + 6 ≤ L) (hR : Rw E x h dr g0 g1 q ws) (hJ : ∀ w, Rw E x h dr g0 g1 q w → G K E 4 w [(0, .ref b), (1, .ref (x 0)), (2, .ref (q 0)), (3, .int (nI i))] 1071 []) : G K E 4 ws [(0, .ref b), (1, .ref (x 0)), (2, .ref (q 0)), (3, .int (nI i))] 272 [] := by
  obtain ⟨r, Z, hS1, hk1⟩ := j_read hC hR 
  refine g_aload_n hC dL_law_272 rfl 1 rfl ?_
  refine hS1 32 273 [(0, .ref b), (1, .ref (x 0)), (2, .ref (q 0)), (3, .int (nI i))] [] m2_47 dL_law_273 (Nat.le_of_ble_eq_true rfl) (fun w1 hz1 => ?_)
  obtain ⟨Z2, hS2, hk2⟩ := hk1 w1 hz1
  refine g_aload_n hC dL_law_276 rfl 2 rfl ?_
  refine hS2 35 277 [(0, .ref b), (1, .ref (x 0)), (2, .ref (q 0)), (3, .int (nI i))] [.int r] m5_5 dL_law_277 (Nat.le_of_ble_eq_true rfl) (fun w2 hz2 => ?_)
  refine g_icmp_eq (tgt := 1071) hC dL_law_280 (by decide) (fun _ => hJ w2 (hk2 w2 hz2)) (fun hn => absurd rfl hn)
set_option maxHeartbeats 2000000 in
set_option maxRecDepth 100000 in
theorem lc_call {K : Kx} {E : Ew} {x h dr g0 g1 q : Nat → Nat} {ws : va_W} {b L i : Nat} {xs : Nat → Int32} (hC : Cx K E cL_law 4 "LastCalledLaw" 8) (hX : va_X b L xs (ks K) (ks K).heap) (hbl : b < (ks K).heap.size) (hbA : ¬ kA K b) (hL : L ≤ 384) (hi : i + 6 ≤ L) (hR : Rw E x h dr g0 g1 q ws) (hJ : ∀ w, Rw E x h dr g0 g1 q w → G K E 4 w [(0, .ref b), (1, .ref (x 0)), (2, .ref (q 0)), (3, .int (nI i))] 1071 []) : G K E 4 ws [(0, .ref b), (1, .ref (x 0)), (2, .ref (q 0)), (3, .int (nI i))] 285 [] := by
  obtain ⟨r, Z, hS1, hk1⟩ := j_call hC hR (xs (i + 1)) (xs (i + 2))
  refine g_aload_n hC dL_law_285 rfl 1 rfl ?_
  refine g_aload_n hC dL_law_286 rfl 0 rfl ?_
  refine g_iload_n hC dL_law_287 rfl 3 rfl ?_
  refine g_iconst (v := nI 1) hC dL_law_288 (by decide) ?_
  refine g_iaddN hC dL_law_289 ?_
  refine g_sld hC hX hbl hbA (by omega) hL dL_law_290 ?_
  refine g_aload_n hC dL_law_291 rfl 0 rfl ?_
  refine g_iload_n hC dL_law_292 rfl 3 rfl ?_
  refine g_iconst (v := nI 2) hC dL_law_293 (by decide) ?_
  refine g_iaddN hC dL_law_294 ?_
  refine g_sld hC hX hbl hbA (by omega) hL dL_law_295 ?_
  refine hS1 36 296 [(0, .ref b), (1, .ref (x 0)), (2, .ref (q 0)), (3, .int (nI i))] [] m2_152 dL_law_296 (Nat.le_of_ble_eq_true rfl) (fun w1 hz1 => ?_)
  obtain ⟨Z2, hS2, hk2⟩ := hk1 w1 hz1
  refine g_aload_n hC dL_law_299 rfl 2 rfl ?_
  refine g_aload_n hC dL_law_300 rfl 0 rfl ?_
  refine g_iload_n hC dL_law_301 rfl 3 rfl ?_
  refine g_iconst (v := nI 1) hC dL_law_302 (by decide) ?_
  refine g_iaddN hC dL_law_303 ?_
  refine g_sld hC hX hbl hbA (by omega) hL dL_law_304 ?_
  refine g_aload_n hC dL_law_305 rfl 0 rfl ?_
  refine g_iload_n hC dL_law_306 rfl 3 rfl ?_
  refine g_iconst (v := nI 2) hC dL_law_307 (by decide) ?_
  refine g_iaddN hC dL_law_308 ?_
  refine g_sld hC hX hbl hbA (by omega) hL dL_law_309 ?_
  refine hS2 39 310 [(0, .ref b), (1, .ref (x 0)), (2, .ref (q 0)), (3, .int (nI i))] [.int r] m4_58 dL_law_310 (Nat.le_of_ble_eq_true rfl) (fun w2 hz2 => ?_)
  refine g_icmp_eq (tgt := 1071) hC dL_law_313 (by decide) (fun _ => hJ w2 (hk2 w2 hz2)) (fun hn => absurd rfl hn)
set_option maxHeartbeats 2000000 in
set_option maxRecDepth 100000 in
theorem lc_goes {K : Kx} {E : Ew} {x h dr g0 g1 q : Nat → Nat} {ws : va_W} {b L i : Nat} {xs : Nat → Int32} (hC : Cx K E cL_law 4 "LastCalledLaw" 8) (hX : va_X b L xs (ks K) (ks K).heap) (hbl : b < (ks K).heap.size) (hbA : ¬ kA K b) (hL : L ≤ 384) (hi : i + 6 ≤ L) (hR : Rw E x h dr g0 g1 q ws) (hJ : ∀ w, Rw E x h dr g0 g1 q w → G K E 4 w [(0, .ref b), (1, .ref (x 0)), (2, .ref (q 0)), (3, .int (nI i))] 1071 []) : G K E 4 ws [(0, .ref b), (1, .ref (x 0)), (2, .ref (q 0)), (3, .int (nI i))] 318 [] := by
  obtain ⟨r, Z, hS1, hk1⟩ := j_goes hC hR (xs (i + 1)) (xs (i + 2))
  refine g_aload_n hC dL_law_318 rfl 1 rfl ?_
  refine g_aload_n hC dL_law_319 rfl 0 rfl ?_
  refine g_iload_n hC dL_law_320 rfl 3 rfl ?_
  refine g_iconst (v := nI 1) hC dL_law_321 (by decide) ?_
  refine g_iaddN hC dL_law_322 ?_
  refine g_sld hC hX hbl hbA (by omega) hL dL_law_323 ?_
  refine g_aload_n hC dL_law_324 rfl 0 rfl ?_
  refine g_iload_n hC dL_law_325 rfl 3 rfl ?_
  refine g_iconst (v := nI 2) hC dL_law_326 (by decide) ?_
  refine g_iaddN hC dL_law_327 ?_
  refine g_sld hC hX hbl hbA (by omega) hL dL_law_328 ?_
  refine hS1 40 329 [(0, .ref b), (1, .ref (x 0)), (2, .ref (q 0)), (3, .int (nI i))] [] m2_212 dL_law_329 (Nat.le_of_ble_eq_true rfl) (fun w1 hz1 => ?_)
  obtain ⟨Z2, hS2, hk2⟩ := hk1 w1 hz1
  refine g_aload_n hC dL_law_332 rfl 2 rfl ?_
  refine g_aload_n hC dL_law_333 rfl 0 rfl ?_
  refine g_iload_n hC dL_law_334 rfl 3 rfl ?_
  refine g_iconst (v := nI 1) hC dL_law_335 (by decide) ?_
  refine g_iaddN hC dL_law_336 ?_
  refine g_sld hC hX hbl hbA (by omega) hL dL_law_337 ?_
  refine g_aload_n hC dL_law_338 rfl 0 rfl ?_
  refine g_iload_n hC dL_law_339 rfl 3 rfl ?_
  refine g_iconst (v := nI 2) hC dL_law_340 (by decide) ?_
  refine g_iaddN hC dL_law_341 ?_
  refine g_sld hC hX hbl hbA (by omega) hL dL_law_342 ?_
  refine hS2 43 343 [(0, .ref b), (1, .ref (x 0)), (2, .ref (q 0)), (3, .int (nI i))] [.int r] m4_99 dL_law_343 (Nat.le_of_ble_eq_true rfl) (fun w2 hz2 => ?_)
  refine g_icmp_eq (tgt := 1071) hC dL_law_346 (by decide) (fun _ => hJ w2 (hk2 w2 hz2)) (fun hn => absurd rfl hn)
set_option maxHeartbeats 2000000 in
set_option maxRecDepth 100000 in
theorem lc_day {K : Kx} {E : Ew} {x h dr g0 g1 q : Nat → Nat} {ws : va_W} {b L i : Nat} {xs : Nat → Int32} (hC : Cx K E cL_law 4 "LastCalledLaw" 8) (hX : va_X b L xs (ks K) (ks K).heap) (hbl : b < (ks K).heap.size) (hbA : ¬ kA K b) (hL : L ≤ 384) (hi : i + 6 ≤ L) (hR : Rw E x h dr g0 g1 q ws) (hJ : ∀ w, Rw E x h dr g0 g1 q w → G K E 4 w [(0, .ref b), (1, .ref (x 0)), (2, .ref (q 0)), (3, .int (nI i))] 1071 []) : G K E 4 ws [(0, .ref b), (1, .ref (x 0)), (2, .ref (q 0)), (3, .int (nI i))] 351 [] := by
  obtain ⟨r, Z, hS1, hk1⟩ := j_day hC hR 
  refine g_aload_n hC dL_law_351 rfl 1 rfl ?_
  refine hS1 44 352 [(0, .ref b), (1, .ref (x 0)), (2, .ref (q 0)), (3, .int (nI i))] [] m2_216 dL_law_352 (Nat.le_of_ble_eq_true rfl) (fun w1 hz1 => ?_)
  obtain ⟨Z2, hS2, hk2⟩ := hk1 w1 hz1
  refine g_aload_n hC dL_law_355 rfl 2 rfl ?_
  refine hS2 47 356 [(0, .ref b), (1, .ref (x 0)), (2, .ref (q 0)), (3, .int (nI i))] [.int r] m4_103 dL_law_356 (Nat.le_of_ble_eq_true rfl) (fun w2 hz2 => ?_)
  refine g_icmp_eq (tgt := 1071) hC dL_law_359 (by decide) (fun _ => hJ w2 (hk2 w2 hz2)) (fun hn => absurd rfl hn)
set_option maxHeartbeats 2000000 in
set_option maxRecDepth 100000 in
theorem lc_undo {K : Kx} {E : Ew} {x h dr g0 g1 q : Nat → Nat} {ws : va_W} {b L i : Nat} {xs : Nat → Int32} (hC : Cx K E cL_law 4 "LastCalledLaw" 8) (hX : va_X b L xs (ks K) (ks K).heap) (hbl : b < (ks K).heap.size) (hbA : ¬ kA K b) (hL : L ≤ 384) (hi : i + 6 ≤ L) (hR : Rw E x h dr g0 g1 q ws) (hJ : ∀ w, Rw E x h dr g0 g1 q w → G K E 4 w [(0, .ref b), (1, .ref (x 0)), (2, .ref (q 0)), (3, .int (nI i))] 1071 []) : G K E 4 ws [(0, .ref b), (1, .ref (x 0)), (2, .ref (q 0)), (3, .int (nI i))] 364 [] := by
  obtain ⟨r, Z, hS1, hk1⟩ := j_undo hC hR 
  refine g_aload_n hC dL_law_364 rfl 1 rfl ?_
  refine hS1 48 365 [(0, .ref b), (1, .ref (x 0)), (2, .ref (q 0)), (3, .int (nI i))] [] m2_220 dL_law_365 (Nat.le_of_ble_eq_true rfl) (fun w1 hz1 => ?_)
  obtain ⟨Z2, hS2, hk2⟩ := hk1 w1 hz1
  refine g_aload_n hC dL_law_368 rfl 2 rfl ?_
  refine hS2 51 369 [(0, .ref b), (1, .ref (x 0)), (2, .ref (q 0)), (3, .int (nI i))] [.int r] m4_107 dL_law_369 (Nat.le_of_ble_eq_true rfl) (fun w2 hz2 => ?_)
  refine g_icmp_eq (tgt := 1071) hC dL_law_372 (by decide) (fun _ => hJ w2 (hk2 w2 hz2)) (fun hn => absurd rfl hn)
set_option maxHeartbeats 2000000 in
set_option maxRecDepth 100000 in
theorem lc_of {K : Kx} {E : Ew} {x h dr g0 g1 q : Nat → Nat} {ws : va_W} {b L i : Nat} {xs : Nat → Int32} (hC : Cx K E cL_law 4 "LastCalledLaw" 8) (hX : va_X b L xs (ks K) (ks K).heap) (hbl : b < (ks K).heap.size) (hbA : ¬ kA K b) (hL : L ≤ 384) (hi : i + 6 ≤ L) (hR : Rw E x h dr g0 g1 q ws) (hJ : ∀ w, Rw E x h dr g0 g1 q w → G K E 4 w [(0, .ref b), (1, .ref (x 0)), (2, .ref (q 0)), (3, .int (nI i))] 1071 []) : G K E 4 ws [(0, .ref b), (1, .ref (x 0)), (2, .ref (q 0)), (3, .int (nI i))] 377 [] := by
  obtain ⟨r, Z, hS1, hk1⟩ := j_of hC hR (xs (i + 1)) (xs (i + 2))
  refine g_aload_n hC dL_law_377 rfl 1 rfl ?_
  refine g_aload_n hC dL_law_378 rfl 0 rfl ?_
  refine g_iload_n hC dL_law_379 rfl 3 rfl ?_
  refine g_iconst (v := nI 1) hC dL_law_380 (by decide) ?_
  refine g_iaddN hC dL_law_381 ?_
  refine g_sld hC hX hbl hbA (by omega) hL dL_law_382 ?_
  refine g_aload_n hC dL_law_383 rfl 0 rfl ?_
  refine g_iload_n hC dL_law_384 rfl 3 rfl ?_
  refine g_iconst (v := nI 2) hC dL_law_385 (by decide) ?_
  refine g_iaddN hC dL_law_386 ?_
  refine g_sld hC hX hbl hbA (by omega) hL dL_law_387 ?_
  refine hS1 52 388 [(0, .ref b), (1, .ref (x 0)), (2, .ref (q 0)), (3, .int (nI i))] [] m2_228 dL_law_388 (Nat.le_of_ble_eq_true rfl) (fun w1 hz1 => ?_)
  obtain ⟨Z2, hS2, hk2⟩ := hk1 w1 hz1
  refine g_aload_n hC dL_law_391 rfl 2 rfl ?_
  refine g_aload_n hC dL_law_392 rfl 0 rfl ?_
  refine g_iload_n hC dL_law_393 rfl 3 rfl ?_
  refine g_iconst (v := nI 1) hC dL_law_394 (by decide) ?_
  refine g_iaddN hC dL_law_395 ?_
  refine g_sld hC hX hbl hbA (by omega) hL dL_law_396 ?_
  refine g_aload_n hC dL_law_397 rfl 0 rfl ?_
  refine g_iload_n hC dL_law_398 rfl 3 rfl ?_
  refine g_iconst (v := nI 2) hC dL_law_399 (by decide) ?_
  refine g_iaddN hC dL_law_400 ?_
  refine g_sld hC hX hbl hbA (by omega) hL dL_law_401 ?_
  refine hS2 55 402 [(0, .ref b), (1, .ref (x 0)), (2, .ref (q 0)), (3, .int (nI i))] [.int r] m4_115 dL_law_402 (Nat.le_of_ble_eq_true rfl) (fun w2 hz2 => ?_)
  refine g_icmp_eq (tgt := 1071) hC dL_law_405 (by decide) (fun _ => hJ w2 (hk2 w2 hz2)) (fun hn => absurd rfl hn)
set_option maxHeartbeats 2000000 in
set_option maxRecDepth 100000 in
theorem lc_turn {K : Kx} {E : Ew} {x h dr g0 g1 q : Nat → Nat} {ws : va_W} {b L i : Nat} {xs : Nat → Int32} (hC : Cx K E cL_law 4 "LastCalledLaw" 8) (hX : va_X b L xs (ks K) (ks K).heap) (hbl : b < (ks K).heap.size) (hbA : ¬ kA K b) (hL : L ≤ 384) (hi : i + 6 ≤ L) (hR : Rw E x h dr g0 g1 q ws) (hJ : ∀ w, Rw E x h dr g0 g1 q w → G K E 4 w [(0, .ref b), (1, .ref (x 0)), (2, .ref (q 0)), (3, .int (nI i))] 1071 []) : G K E 4 ws [(0, .ref b), (1, .ref (x 0)), (2, .ref (q 0)), (3, .int (nI i))] 410 [] := by
  obtain ⟨r, Z, hS1, hk1⟩ := j_turn hC hR (xs (i + 1)) (xs (i + 2))
  refine g_aload_n hC dL_law_410 rfl 1 rfl ?_
  refine g_aload_n hC dL_law_411 rfl 0 rfl ?_
  refine g_iload_n hC dL_law_412 rfl 3 rfl ?_
  refine g_iconst (v := nI 1) hC dL_law_413 (by decide) ?_
  refine g_iaddN hC dL_law_414 ?_
  refine g_sld hC hX hbl hbA (by omega) hL dL_law_415 ?_
  refine g_aload_n hC dL_law_416 rfl 0 rfl ?_
  refine g_iload_n hC dL_law_417 rfl 3 rfl ?_
  refine g_iconst (v := nI 2) hC dL_law_418 (by decide) ?_
  refine g_iaddN hC dL_law_419 ?_
  refine g_sld hC hX hbl hbA (by omega) hL dL_law_420 ?_
  refine hS1 56 421 [(0, .ref b), (1, .ref (x 0)), (2, .ref (q 0)), (3, .int (nI i))] [] m2_239 dL_law_421 (Nat.le_of_ble_eq_true rfl) (fun w1 hz1 => ?_)
  obtain ⟨Z2, hS2, hk2⟩ := hk1 w1 hz1
  refine g_aload_n hC dL_law_424 rfl 2 rfl ?_
  refine g_aload_n hC dL_law_425 rfl 0 rfl ?_
  refine g_iload_n hC dL_law_426 rfl 3 rfl ?_
  refine g_iconst (v := nI 1) hC dL_law_427 (by decide) ?_
  refine g_iaddN hC dL_law_428 ?_
  refine g_sld hC hX hbl hbA (by omega) hL dL_law_429 ?_
  refine g_aload_n hC dL_law_430 rfl 0 rfl ?_
  refine g_iload_n hC dL_law_431 rfl 3 rfl ?_
  refine g_iconst (v := nI 2) hC dL_law_432 (by decide) ?_
  refine g_iaddN hC dL_law_433 ?_
  refine g_sld hC hX hbl hbA (by omega) hL dL_law_434 ?_
  refine hS2 59 435 [(0, .ref b), (1, .ref (x 0)), (2, .ref (q 0)), (3, .int (nI i))] [.int r] m4_120 dL_law_435 (Nat.le_of_ble_eq_true rfl) (fun w2 hz2 => ?_)
  refine g_icmp_eq (tgt := 1071) hC dL_law_438 (by decide) (fun _ => hJ w2 (hk2 w2 hz2)) (fun hn => absurd rfl hn)
set_option maxHeartbeats 2000000 in
set_option maxRecDepth 100000 in
theorem lc_bearers {K : Kx} {E : Ew} {x h dr g0 g1 q : Nat → Nat} {ws : va_W} {b L i : Nat} {xs : Nat → Int32} (hC : Cx K E cL_law 4 "LastCalledLaw" 8) (hX : va_X b L xs (ks K) (ks K).heap) (hbl : b < (ks K).heap.size) (hbA : ¬ kA K b) (hL : L ≤ 384) (hi : i + 6 ≤ L) (hR : Rw E x h dr g0 g1 q ws) (hJ : ∀ w, Rw E x h dr g0 g1 q w → G K E 4 w [(0, .ref b), (1, .ref (x 0)), (2, .ref (q 0)), (3, .int (nI i))] 1071 []) : G K E 4 ws [(0, .ref b), (1, .ref (x 0)), (2, .ref (q 0)), (3, .int (nI i))] 443 [] := by
  obtain ⟨r, Z, hS1, hk1⟩ := j_bearers hC hR (xs (i + 1))
  refine g_aload_n hC dL_law_443 rfl 1 rfl ?_
  refine g_aload_n hC dL_law_444 rfl 0 rfl ?_
  refine g_iload_n hC dL_law_445 rfl 3 rfl ?_
  refine g_iconst (v := nI 1) hC dL_law_446 (by decide) ?_
  refine g_iaddN hC dL_law_447 ?_
  refine g_sld hC hX hbl hbA (by omega) hL dL_law_448 ?_
  refine hS1 60 449 [(0, .ref b), (1, .ref (x 0)), (2, .ref (q 0)), (3, .int (nI i))] [] m3_3 dL_law_449 (Nat.le_of_ble_eq_true rfl) (fun w1 hz1 => ?_)
  obtain ⟨Z2, hS2, hk2⟩ := hk1 w1 hz1
  refine g_aload_n hC dL_law_452 rfl 2 rfl ?_
  refine g_aload_n hC dL_law_453 rfl 0 rfl ?_
  refine g_iload_n hC dL_law_454 rfl 3 rfl ?_
  refine g_iconst (v := nI 1) hC dL_law_455 (by decide) ?_
  refine g_iaddN hC dL_law_456 ?_
  refine g_sld hC hX hbl hbA (by omega) hL dL_law_457 ?_
  refine hS2 63 458 [(0, .ref b), (1, .ref (x 0)), (2, .ref (q 0)), (3, .int (nI i))] [.int r] m4_124 dL_law_458 (Nat.le_of_ble_eq_true rfl) (fun w2 hz2 => ?_)
  refine g_icmp_eq (tgt := 1071) hC dL_law_461 (by decide) (fun _ => hJ w2 (hk2 w2 hz2)) (fun hn => absurd rfl hn)
set_option maxHeartbeats 2000000 in
set_option maxRecDepth 100000 in
theorem lc_names {K : Kx} {E : Ew} {x h dr g0 g1 q : Nat → Nat} {ws : va_W} {b L i : Nat} {xs : Nat → Int32} (hC : Cx K E cL_law 4 "LastCalledLaw" 8) (hX : va_X b L xs (ks K) (ks K).heap) (hbl : b < (ks K).heap.size) (hbA : ¬ kA K b) (hL : L ≤ 384) (hi : i + 6 ≤ L) (hR : Rw E x h dr g0 g1 q ws) (hJ : ∀ w, Rw E x h dr g0 g1 q w → G K E 4 w [(0, .ref b), (1, .ref (x 0)), (2, .ref (q 0)), (3, .int (nI i))] 1071 []) : G K E 4 ws [(0, .ref b), (1, .ref (x 0)), (2, .ref (q 0)), (3, .int (nI i))] 466 [] := by
  obtain ⟨r, Z, hS1, hk1⟩ := j_names hC hR (xs (i + 1))
  refine g_aload_n hC dL_law_466 rfl 1 rfl ?_
  refine g_aload_n hC dL_law_467 rfl 0 rfl ?_
  refine g_iload_n hC dL_law_468 rfl 3 rfl ?_
  refine g_iconst (v := nI 1) hC dL_law_469 (by decide) ?_
  refine g_iaddN hC dL_law_470 ?_
  refine g_sld hC hX hbl hbA (by omega) hL dL_law_471 ?_
  refine hS1 64 472 [(0, .ref b), (1, .ref (x 0)), (2, .ref (q 0)), (3, .int (nI i))] [] m3_7 dL_law_472 (Nat.le_of_ble_eq_true rfl) (fun w1 hz1 => ?_)
  obtain ⟨Z2, hS2, hk2⟩ := hk1 w1 hz1
  refine g_aload_n hC dL_law_475 rfl 2 rfl ?_
  refine g_aload_n hC dL_law_476 rfl 0 rfl ?_
  refine g_iload_n hC dL_law_477 rfl 3 rfl ?_
  refine g_iconst (v := nI 1) hC dL_law_478 (by decide) ?_
  refine g_iaddN hC dL_law_479 ?_
  refine g_sld hC hX hbl hbA (by omega) hL dL_law_480 ?_
  refine hS2 67 481 [(0, .ref b), (1, .ref (x 0)), (2, .ref (q 0)), (3, .int (nI i))] [.int r] m4_128 dL_law_481 (Nat.le_of_ble_eq_true rfl) (fun w2 hz2 => ?_)
  refine g_icmp_eq (tgt := 1071) hC dL_law_484 (by decide) (fun _ => hJ w2 (hk2 w2 hz2)) (fun hn => absurd rfl hn)
set_option maxHeartbeats 2000000 in
set_option maxRecDepth 100000 in
theorem lc_calls {K : Kx} {E : Ew} {x h dr g0 g1 q : Nat → Nat} {ws : va_W} {b L i : Nat} {xs : Nat → Int32} (hC : Cx K E cL_law 4 "LastCalledLaw" 8) (hX : va_X b L xs (ks K) (ks K).heap) (hbl : b < (ks K).heap.size) (hbA : ¬ kA K b) (hL : L ≤ 384) (hi : i + 6 ≤ L) (hR : Rw E x h dr g0 g1 q ws) (hJ : ∀ w, Rw E x h dr g0 g1 q w → G K E 4 w [(0, .ref b), (1, .ref (x 0)), (2, .ref (q 0)), (3, .int (nI i))] 1071 []) : G K E 4 ws [(0, .ref b), (1, .ref (x 0)), (2, .ref (q 0)), (3, .int (nI i))] 489 [] := by
  obtain ⟨r, Z, hS1, hk1⟩ := j_calls hC hR (xs (i + 1)) (xs (i + 2)) (xs (i + 3))
  refine g_aload_n hC dL_law_489 rfl 1 rfl ?_
  refine g_aload_n hC dL_law_490 rfl 0 rfl ?_
  refine g_iload_n hC dL_law_491 rfl 3 rfl ?_
  refine g_iconst (v := nI 1) hC dL_law_492 (by decide) ?_
  refine g_iaddN hC dL_law_493 ?_
  refine g_sld hC hX hbl hbA (by omega) hL dL_law_494 ?_
  refine g_aload_n hC dL_law_495 rfl 0 rfl ?_
  refine g_iload_n hC dL_law_496 rfl 3 rfl ?_
  refine g_iconst (v := nI 2) hC dL_law_497 (by decide) ?_
  refine g_iaddN hC dL_law_498 ?_
  refine g_sld hC hX hbl hbA (by omega) hL dL_law_499 ?_
  refine g_aload_n hC dL_law_500 rfl 0 rfl ?_
  refine g_iload_n hC dL_law_501 rfl 3 rfl ?_
  refine g_iconst (v := nI 3) hC dL_law_502 (by decide) ?_
  refine g_iaddN hC dL_law_503 ?_
  refine g_sld hC hX hbl hbA (by omega) hL dL_law_504 ?_
  refine hS1 68 505 [(0, .ref b), (1, .ref (x 0)), (2, .ref (q 0)), (3, .int (nI i))] [] m3_17 dL_law_505 (Nat.le_of_ble_eq_true rfl) (fun w1 hz1 => ?_)
  obtain ⟨Z2, hS2, hk2⟩ := hk1 w1 hz1
  refine g_aload_n hC dL_law_508 rfl 2 rfl ?_
  refine g_aload_n hC dL_law_509 rfl 0 rfl ?_
  refine g_iload_n hC dL_law_510 rfl 3 rfl ?_
  refine g_iconst (v := nI 1) hC dL_law_511 (by decide) ?_
  refine g_iaddN hC dL_law_512 ?_
  refine g_sld hC hX hbl hbA (by omega) hL dL_law_513 ?_
  refine g_aload_n hC dL_law_514 rfl 0 rfl ?_
  refine g_iload_n hC dL_law_515 rfl 3 rfl ?_
  refine g_iconst (v := nI 2) hC dL_law_516 (by decide) ?_
  refine g_iaddN hC dL_law_517 ?_
  refine g_sld hC hX hbl hbA (by omega) hL dL_law_518 ?_
  refine g_aload_n hC dL_law_519 rfl 0 rfl ?_
  refine g_iload_n hC dL_law_520 rfl 3 rfl ?_
  refine g_iconst (v := nI 3) hC dL_law_521 (by decide) ?_
  refine g_iaddN hC dL_law_522 ?_
  refine g_sld hC hX hbl hbA (by omega) hL dL_law_523 ?_
  refine hS2 72 524 [(0, .ref b), (1, .ref (x 0)), (2, .ref (q 0)), (3, .int (nI i))] [.int r] m4_135 dL_law_524 (Nat.le_of_ble_eq_true rfl) (fun w2 hz2 => ?_)
  refine g_icmp_eq (tgt := 1071) hC dL_law_527 (by decide) (fun _ => hJ w2 (hk2 w2 hz2)) (fun hn => absurd rfl hn)
set_option maxHeartbeats 2000000 in
set_option maxRecDepth 100000 in
theorem lc_own {K : Kx} {E : Ew} {x h dr g0 g1 q : Nat → Nat} {ws : va_W} {b L i : Nat} {xs : Nat → Int32} (hC : Cx K E cL_law 4 "LastCalledLaw" 8) (hX : va_X b L xs (ks K) (ks K).heap) (hbl : b < (ks K).heap.size) (hbA : ¬ kA K b) (hL : L ≤ 384) (hi : i + 6 ≤ L) (hR : Rw E x h dr g0 g1 q ws) (hJ : ∀ w, Rw E x h dr g0 g1 q w → G K E 4 w [(0, .ref b), (1, .ref (x 0)), (2, .ref (q 0)), (3, .int (nI i))] 1071 []) : G K E 4 ws [(0, .ref b), (1, .ref (x 0)), (2, .ref (q 0)), (3, .int (nI i))] 532 [] := by
  obtain ⟨r, Z, hS1, hk1⟩ := j_own hC hR (xs (i + 1))
  refine g_aload_n hC dL_law_532 rfl 1 rfl ?_
  refine g_aload_n hC dL_law_533 rfl 0 rfl ?_
  refine g_iload_n hC dL_law_534 rfl 3 rfl ?_
  refine g_iconst (v := nI 1) hC dL_law_535 (by decide) ?_
  refine g_iaddN hC dL_law_536 ?_
  refine g_sld hC hX hbl hbA (by omega) hL dL_law_537 ?_
  refine hS1 73 538 [(0, .ref b), (1, .ref (x 0)), (2, .ref (q 0)), (3, .int (nI i))] [] m3_43 dL_law_538 (Nat.le_of_ble_eq_true rfl) (fun w1 hz1 => ?_)
  obtain ⟨Z2, hS2, hk2⟩ := hk1 w1 hz1
  refine g_aload_n hC dL_law_541 rfl 2 rfl ?_
  refine g_aload_n hC dL_law_542 rfl 0 rfl ?_
  refine g_iload_n hC dL_law_543 rfl 3 rfl ?_
  refine g_iconst (v := nI 1) hC dL_law_544 (by decide) ?_
  refine g_iaddN hC dL_law_545 ?_
  refine g_sld hC hX hbl hbA (by omega) hL dL_law_546 ?_
  refine hS2 76 547 [(0, .ref b), (1, .ref (x 0)), (2, .ref (q 0)), (3, .int (nI i))] [.int r] m4_147 dL_law_547 (Nat.le_of_ble_eq_true rfl) (fun w2 hz2 => ?_)
  refine g_icmp_eq (tgt := 1071) hC dL_law_550 (by decide) (fun _ => hJ w2 (hk2 w2 hz2)) (fun hn => absurd rfl hn)
set_option maxHeartbeats 2000000 in
set_option maxRecDepth 100000 in
theorem lc_ring {K : Kx} {E : Ew} {x h dr g0 g1 q : Nat → Nat} {ws : va_W} {b L i : Nat} {xs : Nat → Int32} (hC : Cx K E cL_law 4 "LastCalledLaw" 8) (hX : va_X b L xs (ks K) (ks K).heap) (hbl : b < (ks K).heap.size) (hbA : ¬ kA K b) (hL : L ≤ 384) (hi : i + 6 ≤ L) (hR : Rw E x h dr g0 g1 q ws) (hJ : ∀ w, Rw E x h dr g0 g1 q w → G K E 4 w [(0, .ref b), (1, .ref (x 0)), (2, .ref (q 0)), (3, .int (nI i))] 1071 []) : G K E 4 ws [(0, .ref b), (1, .ref (x 0)), (2, .ref (q 0)), (3, .int (nI i))] 555 [] := by
  obtain ⟨r, Z, hS1, hk1⟩ := j_ring hC hR (xs (i + 1))
  refine g_aload_n hC dL_law_555 rfl 1 rfl ?_
  refine g_aload_n hC dL_law_556 rfl 0 rfl ?_
  refine g_iload_n hC dL_law_557 rfl 3 rfl ?_
  refine g_iconst (v := nI 1) hC dL_law_558 (by decide) ?_
  refine g_iaddN hC dL_law_559 ?_
  refine g_sld hC hX hbl hbA (by omega) hL dL_law_560 ?_
  refine hS1 77 561 [(0, .ref b), (1, .ref (x 0)), (2, .ref (q 0)), (3, .int (nI i))] [] m3_63 dL_law_561 (Nat.le_of_ble_eq_true rfl) (fun w1 hz1 => ?_)
  obtain ⟨Z2, hS2, hk2⟩ := hk1 w1 hz1
  refine g_aload_n hC dL_law_564 rfl 2 rfl ?_
  refine g_aload_n hC dL_law_565 rfl 0 rfl ?_
  refine g_iload_n hC dL_law_566 rfl 3 rfl ?_
  refine g_iconst (v := nI 1) hC dL_law_567 (by decide) ?_
  refine g_iaddN hC dL_law_568 ?_
  refine g_sld hC hX hbl hbA (by omega) hL dL_law_569 ?_
  refine hS2 80 570 [(0, .ref b), (1, .ref (x 0)), (2, .ref (q 0)), (3, .int (nI i))] [.int r] m4_163 dL_law_570 (Nat.le_of_ble_eq_true rfl) (fun w2 hz2 => ?_)
  refine g_icmp_eq (tgt := 1071) hC dL_law_573 (by decide) (fun _ => hJ w2 (hk2 w2 hz2)) (fun hn => absurd rfl hn)
set_option maxHeartbeats 2000000 in
set_option maxRecDepth 100000 in
theorem lc_deed {K : Kx} {E : Ew} {x h dr g0 g1 q : Nat → Nat} {ws : va_W} {b L i : Nat} {xs : Nat → Int32} (hC : Cx K E cL_law 4 "LastCalledLaw" 8) (hX : va_X b L xs (ks K) (ks K).heap) (hbl : b < (ks K).heap.size) (hbA : ¬ kA K b) (hL : L ≤ 384) (hi : i + 6 ≤ L) (hR : Rw E x h dr g0 g1 q ws) (hJ : ∀ w, Rw E x h dr g0 g1 q w → G K E 4 w [(0, .ref b), (1, .ref (x 0)), (2, .ref (q 0)), (3, .int (nI i))] 1071 []) : G K E 4 ws [(0, .ref b), (1, .ref (x 0)), (2, .ref (q 0)), (3, .int (nI i))] 578 [] := by
  obtain ⟨r, Z, hS1, hk1⟩ := j_deed hC hR (xs (i + 1)) (xs (i + 2))
  refine g_aload_n hC dL_law_578 rfl 1 rfl ?_
  refine g_aload_n hC dL_law_579 rfl 0 rfl ?_
  refine g_iload_n hC dL_law_580 rfl 3 rfl ?_
  refine g_iconst (v := nI 1) hC dL_law_581 (by decide) ?_
  refine g_iaddN hC dL_law_582 ?_
  refine g_sld hC hX hbl hbA (by omega) hL dL_law_583 ?_
  refine g_aload_n hC dL_law_584 rfl 0 rfl ?_
  refine g_iload_n hC dL_law_585 rfl 3 rfl ?_
  refine g_iconst (v := nI 2) hC dL_law_586 (by decide) ?_
  refine g_iaddN hC dL_law_587 ?_
  refine g_sld hC hX hbl hbA (by omega) hL dL_law_588 ?_
  refine hS1 81 589 [(0, .ref b), (1, .ref (x 0)), (2, .ref (q 0)), (3, .int (nI i))] [] m3_67 dL_law_589 (Nat.le_of_ble_eq_true rfl) (fun w1 hz1 => ?_)
  obtain ⟨Z2, hS2, hk2⟩ := hk1 w1 hz1
  refine g_aload_n hC dL_law_592 rfl 2 rfl ?_
  refine g_aload_n hC dL_law_593 rfl 0 rfl ?_
  refine g_iload_n hC dL_law_594 rfl 3 rfl ?_
  refine g_iconst (v := nI 1) hC dL_law_595 (by decide) ?_
  refine g_iaddN hC dL_law_596 ?_
  refine g_sld hC hX hbl hbA (by omega) hL dL_law_597 ?_
  refine g_aload_n hC dL_law_598 rfl 0 rfl ?_
  refine g_iload_n hC dL_law_599 rfl 3 rfl ?_
  refine g_iconst (v := nI 2) hC dL_law_600 (by decide) ?_
  refine g_iaddN hC dL_law_601 ?_
  refine g_sld hC hX hbl hbA (by omega) hL dL_law_602 ?_
  refine hS2 84 603 [(0, .ref b), (1, .ref (x 0)), (2, .ref (q 0)), (3, .int (nI i))] [.int r] m4_167 dL_law_603 (Nat.le_of_ble_eq_true rfl) (fun w2 hz2 => ?_)
  refine g_icmp_eq (tgt := 1071) hC dL_law_606 (by decide) (fun _ => hJ w2 (hk2 w2 hz2)) (fun hn => absurd rfl hn)
set_option maxHeartbeats 2000000 in
set_option maxRecDepth 100000 in
theorem lc_owes {K : Kx} {E : Ew} {x h dr g0 g1 q : Nat → Nat} {ws : va_W} {b L i : Nat} {xs : Nat → Int32} (hC : Cx K E cL_law 4 "LastCalledLaw" 8) (hX : va_X b L xs (ks K) (ks K).heap) (hbl : b < (ks K).heap.size) (hbA : ¬ kA K b) (hL : L ≤ 384) (hi : i + 6 ≤ L) (hR : Rw E x h dr g0 g1 q ws) (hJ : ∀ w, Rw E x h dr g0 g1 q w → G K E 4 w [(0, .ref b), (1, .ref (x 0)), (2, .ref (q 0)), (3, .int (nI i))] 1071 []) : G K E 4 ws [(0, .ref b), (1, .ref (x 0)), (2, .ref (q 0)), (3, .int (nI i))] 611 [] := by
  obtain ⟨r, Z, hS1, hk1⟩ := j_owes hC hR (xs (i + 1))
  refine g_aload_n hC dL_law_611 rfl 1 rfl ?_
  refine g_aload_n hC dL_law_612 rfl 0 rfl ?_
  refine g_iload_n hC dL_law_613 rfl 3 rfl ?_
  refine g_iconst (v := nI 1) hC dL_law_614 (by decide) ?_
  refine g_iaddN hC dL_law_615 ?_
  refine g_sld hC hX hbl hbA (by omega) hL dL_law_616 ?_
  refine hS1 85 617 [(0, .ref b), (1, .ref (x 0)), (2, .ref (q 0)), (3, .int (nI i))] [] m3_71 dL_law_617 (Nat.le_of_ble_eq_true rfl) (fun w1 hz1 => ?_)
  obtain ⟨Z2, hS2, hk2⟩ := hk1 w1 hz1
  refine g_aload_n hC dL_law_620 rfl 2 rfl ?_
  refine g_aload_n hC dL_law_621 rfl 0 rfl ?_
  refine g_iload_n hC dL_law_622 rfl 3 rfl ?_
  refine g_iconst (v := nI 1) hC dL_law_623 (by decide) ?_
  refine g_iaddN hC dL_law_624 ?_
  refine g_sld hC hX hbl hbA (by omega) hL dL_law_625 ?_
  refine hS2 88 626 [(0, .ref b), (1, .ref (x 0)), (2, .ref (q 0)), (3, .int (nI i))] [.int r] m4_172 dL_law_626 (Nat.le_of_ble_eq_true rfl) (fun w2 hz2 => ?_)
  refine g_icmp_eq (tgt := 1071) hC dL_law_629 (by decide) (fun _ => hJ w2 (hk2 w2 hz2)) (fun hn => absurd rfl hn)
set_option maxHeartbeats 2000000 in
set_option maxRecDepth 100000 in
theorem lc_unpaid {K : Kx} {E : Ew} {x h dr g0 g1 q : Nat → Nat} {ws : va_W} {b L i : Nat} {xs : Nat → Int32} (hC : Cx K E cL_law 4 "LastCalledLaw" 8) (hX : va_X b L xs (ks K) (ks K).heap) (hbl : b < (ks K).heap.size) (hbA : ¬ kA K b) (hL : L ≤ 384) (hi : i + 6 ≤ L) (hR : Rw E x h dr g0 g1 q ws) (hJ : ∀ w, Rw E x h dr g0 g1 q w → G K E 4 w [(0, .ref b), (1, .ref (x 0)), (2, .ref (q 0)), (3, .int (nI i))] 1071 []) : G K E 4 ws [(0, .ref b), (1, .ref (x 0)), (2, .ref (q 0)), (3, .int (nI i))] 634 [] := by
  obtain ⟨r, Z, hS1, hk1⟩ := j_unpaid hC hR 
  refine g_aload_n hC dL_law_634 rfl 1 rfl ?_
  refine hS1 89 635 [(0, .ref b), (1, .ref (x 0)), (2, .ref (q 0)), (3, .int (nI i))] [] m3_86 dL_law_635 (Nat.le_of_ble_eq_true rfl) (fun w1 hz1 => ?_)
  obtain ⟨Z2, hS2, hk2⟩ := hk1 w1 hz1
  refine g_aload_n hC dL_law_638 rfl 2 rfl ?_
  refine hS2 92 639 [(0, .ref b), (1, .ref (x 0)), (2, .ref (q 0)), (3, .int (nI i))] [.int r] m4_184 dL_law_639 (Nat.le_of_ble_eq_true rfl) (fun w2 hz2 => ?_)
  refine g_icmp_eq (tgt := 1071) hC dL_law_642 (by decide) (fun _ => hJ w2 (hk2 w2 hz2)) (fun hn => absurd rfl hn)
set_option maxHeartbeats 2000000 in
set_option maxRecDepth 100000 in
theorem lc_ears {K : Kx} {E : Ew} {x h dr g0 g1 q : Nat → Nat} {ws : va_W} {b L i : Nat} {xs : Nat → Int32} (hC : Cx K E cL_law 4 "LastCalledLaw" 8) (hX : va_X b L xs (ks K) (ks K).heap) (hbl : b < (ks K).heap.size) (hbA : ¬ kA K b) (hL : L ≤ 384) (hi : i + 6 ≤ L) (hR : Rw E x h dr g0 g1 q ws) (hJ : ∀ w, Rw E x h dr g0 g1 q w → G K E 4 w [(0, .ref b), (1, .ref (x 0)), (2, .ref (q 0)), (3, .int (nI i))] 1071 []) : G K E 4 ws [(0, .ref b), (1, .ref (x 0)), (2, .ref (q 0)), (3, .int (nI i))] 647 [] := by
  obtain ⟨r, Z, hS1, hk1⟩ := j_ears hC hR (xs (i + 1)) (xs (i + 2)) (xs (i + 3)) (xs (i + 4))
  refine g_aload_n hC dL_law_647 rfl 1 rfl ?_
  refine g_aload_n hC dL_law_648 rfl 0 rfl ?_
  refine g_iload_n hC dL_law_649 rfl 3 rfl ?_
  refine g_iconst (v := nI 1) hC dL_law_650 (by decide) ?_
  refine g_iaddN hC dL_law_651 ?_
  refine g_sld hC hX hbl hbA (by omega) hL dL_law_652 ?_
  refine g_aload_n hC dL_law_653 rfl 0 rfl ?_
  refine g_iload_n hC dL_law_654 rfl 3 rfl ?_
  refine g_iconst (v := nI 2) hC dL_law_655 (by decide) ?_
  refine g_iaddN hC dL_law_656 ?_
  refine g_sld hC hX hbl hbA (by omega) hL dL_law_657 ?_
  refine g_aload_n hC dL_law_658 rfl 0 rfl ?_
  refine g_iload_n hC dL_law_659 rfl 3 rfl ?_
  refine g_iconst (v := nI 3) hC dL_law_660 (by decide) ?_
  refine g_iaddN hC dL_law_661 ?_
  refine g_sld hC hX hbl hbA (by omega) hL dL_law_662 ?_
  refine g_aload_n hC dL_law_663 rfl 0 rfl ?_
  refine g_iload_n hC dL_law_664 rfl 3 rfl ?_
  refine g_iconst (v := nI 4) hC dL_law_665 (by decide) ?_
  refine g_iaddN hC dL_law_666 ?_
  refine g_sld hC hX hbl hbA (by omega) hL dL_law_667 ?_
  refine hS1 93 668 [(0, .ref b), (1, .ref (x 0)), (2, .ref (q 0)), (3, .int (nI i))] [] m3_90 dL_law_668 (Nat.le_of_ble_eq_true rfl) (fun w1 hz1 => ?_)
  obtain ⟨Z2, hS2, hk2⟩ := hk1 w1 hz1
  refine g_aload_n hC dL_law_671 rfl 2 rfl ?_
  refine g_aload_n hC dL_law_672 rfl 0 rfl ?_
  refine g_iload_n hC dL_law_673 rfl 3 rfl ?_
  refine g_iconst (v := nI 1) hC dL_law_674 (by decide) ?_
  refine g_iaddN hC dL_law_675 ?_
  refine g_sld hC hX hbl hbA (by omega) hL dL_law_676 ?_
  refine g_aload_n hC dL_law_677 rfl 0 rfl ?_
  refine g_iload_n hC dL_law_678 rfl 3 rfl ?_
  refine g_iconst (v := nI 2) hC dL_law_679 (by decide) ?_
  refine g_iaddN hC dL_law_680 ?_
  refine g_sld hC hX hbl hbA (by omega) hL dL_law_681 ?_
  refine g_aload_n hC dL_law_682 rfl 0 rfl ?_
  refine g_iload_n hC dL_law_683 rfl 3 rfl ?_
  refine g_iconst (v := nI 3) hC dL_law_684 (by decide) ?_
  refine g_iaddN hC dL_law_685 ?_
  refine g_sld hC hX hbl hbA (by omega) hL dL_law_686 ?_
  refine g_aload_n hC dL_law_687 rfl 0 rfl ?_
  refine g_iload_n hC dL_law_688 rfl 3 rfl ?_
  refine g_iconst (v := nI 4) hC dL_law_689 (by decide) ?_
  refine g_iaddN hC dL_law_690 ?_
  refine g_sld hC hX hbl hbA (by omega) hL dL_law_691 ?_
  refine hS2 97 692 [(0, .ref b), (1, .ref (x 0)), (2, .ref (q 0)), (3, .int (nI i))] [.int r] m4_188 dL_law_692 (Nat.le_of_ble_eq_true rfl) (fun w2 hz2 => ?_)
  refine g_icmp_eq (tgt := 1071) hC dL_law_695 (by decide) (fun _ => hJ w2 (hk2 w2 hz2)) (fun hn => absurd rfl hn)
set_option maxHeartbeats 2000000 in
set_option maxRecDepth 100000 in
theorem lc_note {K : Kx} {E : Ew} {x h dr g0 g1 q : Nat → Nat} {ws : va_W} {b L i : Nat} {xs : Nat → Int32} (hC : Cx K E cL_law 4 "LastCalledLaw" 8) (hX : va_X b L xs (ks K) (ks K).heap) (hbl : b < (ks K).heap.size) (hbA : ¬ kA K b) (hL : L ≤ 384) (hi : i + 6 ≤ L) (hR : Rw E x h dr g0 g1 q ws) (hJ : ∀ w, Rw E x h dr g0 g1 q w → G K E 4 w [(0, .ref b), (1, .ref (x 0)), (2, .ref (q 0)), (3, .int (nI i))] 1071 []) : G K E 4 ws [(0, .ref b), (1, .ref (x 0)), (2, .ref (q 0)), (3, .int (nI i))] 700 [] := by
  obtain ⟨r, Z, hS1, hk1⟩ := j_note hC hR (xs (i + 1)) (xs (i + 2)) (xs (i + 3)) (xs (i + 4)) (xs (i + 5))
  refine g_aload_n hC dL_law_700 rfl 1 rfl ?_
  refine g_aload_n hC dL_law_701 rfl 0 rfl ?_
  refine g_iload_n hC dL_law_702 rfl 3 rfl ?_
  refine g_iconst (v := nI 1) hC dL_law_703 (by decide) ?_
  refine g_iaddN hC dL_law_704 ?_
  refine g_sld hC hX hbl hbA (by omega) hL dL_law_705 ?_
  refine g_aload_n hC dL_law_706 rfl 0 rfl ?_
  refine g_iload_n hC dL_law_707 rfl 3 rfl ?_
  refine g_iconst (v := nI 2) hC dL_law_708 (by decide) ?_
  refine g_iaddN hC dL_law_709 ?_
  refine g_sld hC hX hbl hbA (by omega) hL dL_law_710 ?_
  refine g_aload_n hC dL_law_711 rfl 0 rfl ?_
  refine g_iload_n hC dL_law_712 rfl 3 rfl ?_
  refine g_iconst (v := nI 3) hC dL_law_713 (by decide) ?_
  refine g_iaddN hC dL_law_714 ?_
  refine g_sld hC hX hbl hbA (by omega) hL dL_law_715 ?_
  refine g_aload_n hC dL_law_716 rfl 0 rfl ?_
  refine g_iload_n hC dL_law_717 rfl 3 rfl ?_
  refine g_iconst (v := nI 4) hC dL_law_718 (by decide) ?_
  refine g_iaddN hC dL_law_719 ?_
  refine g_sld hC hX hbl hbA (by omega) hL dL_law_720 ?_
  refine g_aload_n hC dL_law_721 rfl 0 rfl ?_
  refine g_iload_n hC dL_law_722 rfl 3 rfl ?_
  refine g_iconst (v := nI 5) hC dL_law_723 (by decide) ?_
  refine g_iaddN hC dL_law_724 ?_
  refine g_sld hC hX hbl hbA (by omega) hL dL_law_725 ?_
  refine hS1 98 726 [(0, .ref b), (1, .ref (x 0)), (2, .ref (q 0)), (3, .int (nI i))] [] m3_101 dL_law_726 (Nat.le_of_ble_eq_true rfl) (fun w1 hz1 => ?_)
  obtain ⟨Z2, hS2, hk2⟩ := hk1 w1 hz1
  refine g_aload_n hC dL_law_729 rfl 2 rfl ?_
  refine g_aload_n hC dL_law_730 rfl 0 rfl ?_
  refine g_iload_n hC dL_law_731 rfl 3 rfl ?_
  refine g_iconst (v := nI 1) hC dL_law_732 (by decide) ?_
  refine g_iaddN hC dL_law_733 ?_
  refine g_sld hC hX hbl hbA (by omega) hL dL_law_734 ?_
  refine g_aload_n hC dL_law_735 rfl 0 rfl ?_
  refine g_iload_n hC dL_law_736 rfl 3 rfl ?_
  refine g_iconst (v := nI 2) hC dL_law_737 (by decide) ?_
  refine g_iaddN hC dL_law_738 ?_
  refine g_sld hC hX hbl hbA (by omega) hL dL_law_739 ?_
  refine g_aload_n hC dL_law_740 rfl 0 rfl ?_
  refine g_iload_n hC dL_law_741 rfl 3 rfl ?_
  refine g_iconst (v := nI 3) hC dL_law_742 (by decide) ?_
  refine g_iaddN hC dL_law_743 ?_
  refine g_sld hC hX hbl hbA (by omega) hL dL_law_744 ?_
  refine g_aload_n hC dL_law_745 rfl 0 rfl ?_
  refine g_iload_n hC dL_law_746 rfl 3 rfl ?_
  refine g_iconst (v := nI 4) hC dL_law_747 (by decide) ?_
  refine g_iaddN hC dL_law_748 ?_
  refine g_sld hC hX hbl hbA (by omega) hL dL_law_749 ?_
  refine g_aload_n hC dL_law_750 rfl 0 rfl ?_
  refine g_iload_n hC dL_law_751 rfl 3 rfl ?_
  refine g_iconst (v := nI 5) hC dL_law_752 (by decide) ?_
  refine g_iaddN hC dL_law_753 ?_
  refine g_sld hC hX hbl hbA (by omega) hL dL_law_754 ?_
  refine hS2 102 755 [(0, .ref b), (1, .ref (x 0)), (2, .ref (q 0)), (3, .int (nI i))] [.int r] m4_192 dL_law_755 (Nat.le_of_ble_eq_true rfl) (fun w2 hz2 => ?_)
  refine g_icmp_eq (tgt := 1071) hC dL_law_758 (by decide) (fun _ => hJ w2 (hk2 w2 hz2)) (fun hn => absurd rfl hn)
set_option maxHeartbeats 2000000 in
set_option maxRecDepth 100000 in
theorem lc_forget {K : Kx} {E : Ew} {x h dr g0 g1 q : Nat → Nat} {ws : va_W} {b L i : Nat} {xs : Nat → Int32} (hC : Cx K E cL_law 4 "LastCalledLaw" 8) (hX : va_X b L xs (ks K) (ks K).heap) (hbl : b < (ks K).heap.size) (hbA : ¬ kA K b) (hL : L ≤ 384) (hi : i + 6 ≤ L) (hR : Rw E x h dr g0 g1 q ws) (hJ : ∀ w, Rw E x h dr g0 g1 q w → G K E 4 w [(0, .ref b), (1, .ref (x 0)), (2, .ref (q 0)), (3, .int (nI i))] 1071 []) : G K E 4 ws [(0, .ref b), (1, .ref (x 0)), (2, .ref (q 0)), (3, .int (nI i))] 763 [] := by
  obtain ⟨r, Z, hS1, hk1⟩ := j_forget hC hR (xs (i + 1))
  refine g_aload_n hC dL_law_763 rfl 1 rfl ?_
  refine g_aload_n hC dL_law_764 rfl 0 rfl ?_
  refine g_iload_n hC dL_law_765 rfl 3 rfl ?_
  refine g_iconst (v := nI 1) hC dL_law_766 (by decide) ?_
  refine g_iaddN hC dL_law_767 ?_
  refine g_sld hC hX hbl hbA (by omega) hL dL_law_768 ?_
  refine hS1 103 769 [(0, .ref b), (1, .ref (x 0)), (2, .ref (q 0)), (3, .int (nI i))] [] m3_109 dL_law_769 (Nat.le_of_ble_eq_true rfl) (fun w1 hz1 => ?_)
  obtain ⟨Z2, hS2, hk2⟩ := hk1 w1 hz1
  refine g_aload_n hC dL_law_772 rfl 2 rfl ?_
  refine g_aload_n hC dL_law_773 rfl 0 rfl ?_
  refine g_iload_n hC dL_law_774 rfl 3 rfl ?_
  refine g_iconst (v := nI 1) hC dL_law_775 (by decide) ?_
  refine g_iaddN hC dL_law_776 ?_
  refine g_sld hC hX hbl hbA (by omega) hL dL_law_777 ?_
  refine hS2 106 778 [(0, .ref b), (1, .ref (x 0)), (2, .ref (q 0)), (3, .int (nI i))] [.int r] m4_196 dL_law_778 (Nat.le_of_ble_eq_true rfl) (fun w2 hz2 => ?_)
  refine g_icmp_eq (tgt := 1071) hC dL_law_781 (by decide) (fun _ => hJ w2 (hk2 w2 hz2)) (fun hn => absurd rfl hn)
set_option maxHeartbeats 2000000 in
set_option maxRecDepth 100000 in
theorem lc_is {K : Kx} {E : Ew} {x h dr g0 g1 q : Nat → Nat} {ws : va_W} {b L i : Nat} {xs : Nat → Int32} (hC : Cx K E cL_law 4 "LastCalledLaw" 8) (hX : va_X b L xs (ks K) (ks K).heap) (hbl : b < (ks K).heap.size) (hbA : ¬ kA K b) (hL : L ≤ 384) (hi : i + 6 ≤ L) (hR : Rw E x h dr g0 g1 q ws) (hJ : ∀ w, Rw E x h dr g0 g1 q w → G K E 4 w [(0, .ref b), (1, .ref (x 0)), (2, .ref (q 0)), (3, .int (nI i))] 1071 []) : G K E 4 ws [(0, .ref b), (1, .ref (x 0)), (2, .ref (q 0)), (3, .int (nI i))] 786 [] := by
  obtain ⟨r, Z, hS1, hk1⟩ := j_is hC hR (xs (i + 1))
  refine g_aload_n hC dL_law_786 rfl 1 rfl ?_
  refine g_aload_n hC dL_law_787 rfl 0 rfl ?_
  refine g_iload_n hC dL_law_788 rfl 3 rfl ?_
  refine g_iconst (v := nI 1) hC dL_law_789 (by decide) ?_
  refine g_iaddN hC dL_law_790 ?_
  refine g_sld hC hX hbl hbA (by omega) hL dL_law_791 ?_
  refine hS1 107 792 [(0, .ref b), (1, .ref (x 0)), (2, .ref (q 0)), (3, .int (nI i))] [] m3_113 dL_law_792 (Nat.le_of_ble_eq_true rfl) (fun w1 hz1 => ?_)
  obtain ⟨Z2, hS2, hk2⟩ := hk1 w1 hz1
  refine g_aload_n hC dL_law_795 rfl 2 rfl ?_
  refine g_aload_n hC dL_law_796 rfl 0 rfl ?_
  refine g_iload_n hC dL_law_797 rfl 3 rfl ?_
  refine g_iconst (v := nI 1) hC dL_law_798 (by decide) ?_
  refine g_iaddN hC dL_law_799 ?_
  refine g_sld hC hX hbl hbA (by omega) hL dL_law_800 ?_
  refine hS2 110 801 [(0, .ref b), (1, .ref (x 0)), (2, .ref (q 0)), (3, .int (nI i))] [.int r] m4_200 dL_law_801 (Nat.le_of_ble_eq_true rfl) (fun w2 hz2 => ?_)
  refine g_icmp_eq (tgt := 1071) hC dL_law_804 (by decide) (fun _ => hJ w2 (hk2 w2 hz2)) (fun hn => absurd rfl hn)
set_option maxHeartbeats 2000000 in
set_option maxRecDepth 100000 in
theorem lc_stood {K : Kx} {E : Ew} {x h dr g0 g1 q : Nat → Nat} {ws : va_W} {b L i : Nat} {xs : Nat → Int32} (hC : Cx K E cL_law 4 "LastCalledLaw" 8) (hX : va_X b L xs (ks K) (ks K).heap) (hbl : b < (ks K).heap.size) (hbA : ¬ kA K b) (hL : L ≤ 384) (hi : i + 6 ≤ L) (hR : Rw E x h dr g0 g1 q ws) (hJ : ∀ w, Rw E x h dr g0 g1 q w → G K E 4 w [(0, .ref b), (1, .ref (x 0)), (2, .ref (q 0)), (3, .int (nI i))] 1071 []) : G K E 4 ws [(0, .ref b), (1, .ref (x 0)), (2, .ref (q 0)), (3, .int (nI i))] 809 [] := by
  obtain ⟨r, Z, hS1, hk1⟩ := j_stood hC hR (xs (i + 1))
  refine g_aload_n hC dL_law_809 rfl 1 rfl ?_
  refine g_aload_n hC dL_law_810 rfl 0 rfl ?_
  refine g_iload_n hC dL_law_811 rfl 3 rfl ?_
  refine g_iconst (v := nI 1) hC dL_law_812 (by decide) ?_
  refine g_iaddN hC dL_law_813 ?_
  refine g_sld hC hX hbl hbA (by omega) hL dL_law_814 ?_
  refine hS1 111 815 [(0, .ref b), (1, .ref (x 0)), (2, .ref (q 0)), (3, .int (nI i))] [] m3_123 dL_law_815 (Nat.le_of_ble_eq_true rfl) (fun w1 hz1 => ?_)
  obtain ⟨Z2, hS2, hk2⟩ := hk1 w1 hz1
  refine g_aload_n hC dL_law_818 rfl 2 rfl ?_
  refine g_aload_n hC dL_law_819 rfl 0 rfl ?_
  refine g_iload_n hC dL_law_820 rfl 3 rfl ?_
  refine g_iconst (v := nI 1) hC dL_law_821 (by decide) ?_
  refine g_iaddN hC dL_law_822 ?_
  refine g_sld hC hX hbl hbA (by omega) hL dL_law_823 ?_
  refine hS2 114 824 [(0, .ref b), (1, .ref (x 0)), (2, .ref (q 0)), (3, .int (nI i))] [.int r] m4_208 dL_law_824 (Nat.le_of_ble_eq_true rfl) (fun w2 hz2 => ?_)
  refine g_icmp_eq (tgt := 1071) hC dL_law_827 (by decide) (fun _ => hJ w2 (hk2 w2 hz2)) (fun hn => absurd rfl hn)
set_option maxHeartbeats 2000000 in
set_option maxRecDepth 100000 in
theorem lc_next {K : Kx} {E : Ew} {x h dr g0 g1 q : Nat → Nat} {ws : va_W} {b L i : Nat} {xs : Nat → Int32} (hC : Cx K E cL_law 4 "LastCalledLaw" 8) (hX : va_X b L xs (ks K) (ks K).heap) (hbl : b < (ks K).heap.size) (hbA : ¬ kA K b) (hL : L ≤ 384) (hi : i + 6 ≤ L) (hR : Rw E x h dr g0 g1 q ws) (hJ : ∀ w, Rw E x h dr g0 g1 q w → G K E 4 w [(0, .ref b), (1, .ref (x 0)), (2, .ref (q 0)), (3, .int (nI i))] 1071 []) : G K E 4 ws [(0, .ref b), (1, .ref (x 0)), (2, .ref (q 0)), (3, .int (nI i))] 832 [] := by
  obtain ⟨r, Z, hS1, hk1⟩ := j_next hC hR (xs (i + 1))
  refine g_aload_n hC dL_law_832 rfl 1 rfl ?_
  refine g_aload_n hC dL_law_833 rfl 0 rfl ?_
  refine g_iload_n hC dL_law_834 rfl 3 rfl ?_
  refine g_iconst (v := nI 1) hC dL_law_835 (by decide) ?_
  refine g_iaddN hC dL_law_836 ?_
  refine g_sld hC hX hbl hbA (by omega) hL dL_law_837 ?_
  refine hS1 115 838 [(0, .ref b), (1, .ref (x 0)), (2, .ref (q 0)), (3, .int (nI i))] [] m3_131 dL_law_838 (Nat.le_of_ble_eq_true rfl) (fun w1 hz1 => ?_)
  obtain ⟨Z2, hS2, hk2⟩ := hk1 w1 hz1
  refine g_aload_n hC dL_law_841 rfl 2 rfl ?_
  refine g_aload_n hC dL_law_842 rfl 0 rfl ?_
  refine g_iload_n hC dL_law_843 rfl 3 rfl ?_
  refine g_iconst (v := nI 1) hC dL_law_844 (by decide) ?_
  refine g_iaddN hC dL_law_845 ?_
  refine g_sld hC hX hbl hbA (by omega) hL dL_law_846 ?_
  refine hS2 118 847 [(0, .ref b), (1, .ref (x 0)), (2, .ref (q 0)), (3, .int (nI i))] [.int r] m4_216 dL_law_847 (Nat.le_of_ble_eq_true rfl) (fun w2 hz2 => ?_)
  refine g_icmp_eq (tgt := 1071) hC dL_law_850 (by decide) (fun _ => hJ w2 (hk2 w2 hz2)) (fun hn => absurd rfl hn)
set_option maxHeartbeats 2000000 in
set_option maxRecDepth 100000 in
theorem lc_trippers {K : Kx} {E : Ew} {x h dr g0 g1 q : Nat → Nat} {ws : va_W} {b L i : Nat} {xs : Nat → Int32} (hC : Cx K E cL_law 4 "LastCalledLaw" 8) (hX : va_X b L xs (ks K) (ks K).heap) (hbl : b < (ks K).heap.size) (hbA : ¬ kA K b) (hL : L ≤ 384) (hi : i + 6 ≤ L) (hR : Rw E x h dr g0 g1 q ws) (hJ : ∀ w, Rw E x h dr g0 g1 q w → G K E 4 w [(0, .ref b), (1, .ref (x 0)), (2, .ref (q 0)), (3, .int (nI i))] 1071 []) : G K E 4 ws [(0, .ref b), (1, .ref (x 0)), (2, .ref (q 0)), (3, .int (nI i))] 855 [] := by
  obtain ⟨r, Z, hS1, hk1⟩ := j_trippers hC hR (xs (i + 1)) (xs (i + 2)) (xs (i + 3)) (xs (i + 4))
  refine g_aload_n hC dL_law_855 rfl 1 rfl ?_
  refine g_aload_n hC dL_law_856 rfl 0 rfl ?_
  refine g_iload_n hC dL_law_857 rfl 3 rfl ?_
  refine g_iconst (v := nI 1) hC dL_law_858 (by decide) ?_
  refine g_iaddN hC dL_law_859 ?_
  refine g_sld hC hX hbl hbA (by omega) hL dL_law_860 ?_
  refine g_aload_n hC dL_law_861 rfl 0 rfl ?_
  refine g_iload_n hC dL_law_862 rfl 3 rfl ?_
  refine g_iconst (v := nI 2) hC dL_law_863 (by decide) ?_
  refine g_iaddN hC dL_law_864 ?_
  refine g_sld hC hX hbl hbA (by omega) hL dL_law_865 ?_
  refine g_aload_n hC dL_law_866 rfl 0 rfl ?_
  refine g_iload_n hC dL_law_867 rfl 3 rfl ?_
  refine g_iconst (v := nI 3) hC dL_law_868 (by decide) ?_
  refine g_iaddN hC dL_law_869 ?_
  refine g_sld hC hX hbl hbA (by omega) hL dL_law_870 ?_
  refine g_aload_n hC dL_law_871 rfl 0 rfl ?_
  refine g_iload_n hC dL_law_872 rfl 3 rfl ?_
  refine g_iconst (v := nI 4) hC dL_law_873 (by decide) ?_
  refine g_iaddN hC dL_law_874 ?_
  refine g_sld hC hX hbl hbA (by omega) hL dL_law_875 ?_
  refine hS1 119 876 [(0, .ref b), (1, .ref (x 0)), (2, .ref (q 0)), (3, .int (nI i))] [] m3_142 dL_law_876 (Nat.le_of_ble_eq_true rfl) (fun w1 hz1 => ?_)
  obtain ⟨Z2, hS2, hk2⟩ := hk1 w1 hz1
  refine g_aload_n hC dL_law_879 rfl 2 rfl ?_
  refine g_aload_n hC dL_law_880 rfl 0 rfl ?_
  refine g_iload_n hC dL_law_881 rfl 3 rfl ?_
  refine g_iconst (v := nI 1) hC dL_law_882 (by decide) ?_
  refine g_iaddN hC dL_law_883 ?_
  refine g_sld hC hX hbl hbA (by omega) hL dL_law_884 ?_
  refine g_aload_n hC dL_law_885 rfl 0 rfl ?_
  refine g_iload_n hC dL_law_886 rfl 3 rfl ?_
  refine g_iconst (v := nI 2) hC dL_law_887 (by decide) ?_
  refine g_iaddN hC dL_law_888 ?_
  refine g_sld hC hX hbl hbA (by omega) hL dL_law_889 ?_
  refine g_aload_n hC dL_law_890 rfl 0 rfl ?_
  refine g_iload_n hC dL_law_891 rfl 3 rfl ?_
  refine g_iconst (v := nI 3) hC dL_law_892 (by decide) ?_
  refine g_iaddN hC dL_law_893 ?_
  refine g_sld hC hX hbl hbA (by omega) hL dL_law_894 ?_
  refine g_aload_n hC dL_law_895 rfl 0 rfl ?_
  refine g_iload_n hC dL_law_896 rfl 3 rfl ?_
  refine g_iconst (v := nI 4) hC dL_law_897 (by decide) ?_
  refine g_iaddN hC dL_law_898 ?_
  refine g_sld hC hX hbl hbA (by omega) hL dL_law_899 ?_
  refine hS2 122 900 [(0, .ref b), (1, .ref (x 0)), (2, .ref (q 0)), (3, .int (nI i))] [.int r] m4_221 dL_law_900 (Nat.le_of_ble_eq_true rfl) (fun w2 hz2 => ?_)
  refine g_icmp_eq (tgt := 1071) hC dL_law_903 (by decide) (fun _ => hJ w2 (hk2 w2 hz2)) (fun hn => absurd rfl hn)
set_option maxHeartbeats 2000000 in
set_option maxRecDepth 100000 in
theorem lc_weeks {K : Kx} {E : Ew} {x h dr g0 g1 q : Nat → Nat} {ws : va_W} {b L i : Nat} {xs : Nat → Int32} (hC : Cx K E cL_law 4 "LastCalledLaw" 8) (hX : va_X b L xs (ks K) (ks K).heap) (hbl : b < (ks K).heap.size) (hbA : ¬ kA K b) (hL : L ≤ 384) (hi : i + 6 ≤ L) (hR : Rw E x h dr g0 g1 q ws) (hJ : ∀ w, Rw E x h dr g0 g1 q w → G K E 4 w [(0, .ref b), (1, .ref (x 0)), (2, .ref (q 0)), (3, .int (nI i))] 1071 []) : G K E 4 ws [(0, .ref b), (1, .ref (x 0)), (2, .ref (q 0)), (3, .int (nI i))] 908 [] := by
  obtain ⟨r, Z, hS1, hk1⟩ := j_weeks hC hR (xs (i + 1)) (xs (i + 2))
  refine g_aload_n hC dL_law_908 rfl 1 rfl ?_
  refine g_aload_n hC dL_law_909 rfl 0 rfl ?_
  refine g_iload_n hC dL_law_910 rfl 3 rfl ?_
  refine g_iconst (v := nI 1) hC dL_law_911 (by decide) ?_
  refine g_iaddN hC dL_law_912 ?_
  refine g_sld hC hX hbl hbA (by omega) hL dL_law_913 ?_
  refine g_aload_n hC dL_law_914 rfl 0 rfl ?_
  refine g_iload_n hC dL_law_915 rfl 3 rfl ?_
  refine g_iconst (v := nI 2) hC dL_law_916 (by decide) ?_
  refine g_iaddN hC dL_law_917 ?_
  refine g_sld hC hX hbl hbA (by omega) hL dL_law_918 ?_
  refine hS1 123 919 [(0, .ref b), (1, .ref (x 0)), (2, .ref (q 0)), (3, .int (nI i))] [] m3_147 dL_law_919 (Nat.le_of_ble_eq_true rfl) (fun w1 hz1 => ?_)
  obtain ⟨Z2, hS2, hk2⟩ := hk1 w1 hz1
  refine g_aload_n hC dL_law_922 rfl 2 rfl ?_
  refine g_aload_n hC dL_law_923 rfl 0 rfl ?_
  refine g_iload_n hC dL_law_924 rfl 3 rfl ?_
  refine g_iconst (v := nI 1) hC dL_law_925 (by decide) ?_
  refine g_iaddN hC dL_law_926 ?_
  refine g_sld hC hX hbl hbA (by omega) hL dL_law_927 ?_
  refine g_aload_n hC dL_law_928 rfl 0 rfl ?_
  refine g_iload_n hC dL_law_929 rfl 3 rfl ?_
  refine g_iconst (v := nI 2) hC dL_law_930 (by decide) ?_
  refine g_iaddN hC dL_law_931 ?_
  refine g_sld hC hX hbl hbA (by omega) hL dL_law_932 ?_
  refine hS2 126 933 [(0, .ref b), (1, .ref (x 0)), (2, .ref (q 0)), (3, .int (nI i))] [.int r] m4_226 dL_law_933 (Nat.le_of_ble_eq_true rfl) (fun w2 hz2 => ?_)
  refine g_icmp_eq (tgt := 1071) hC dL_law_936 (by decide) (fun _ => hJ w2 (hk2 w2 hz2)) (fun hn => absurd rfl hn)
set_option maxHeartbeats 2000000 in
set_option maxRecDepth 100000 in
theorem lc_part {K : Kx} {E : Ew} {x h dr g0 g1 q : Nat → Nat} {ws : va_W} {b L i : Nat} {xs : Nat → Int32} (hC : Cx K E cL_law 4 "LastCalledLaw" 8) (hX : va_X b L xs (ks K) (ks K).heap) (hbl : b < (ks K).heap.size) (hbA : ¬ kA K b) (hL : L ≤ 384) (hi : i + 6 ≤ L) (hR : Rw E x h dr g0 g1 q ws) (hJ : ∀ w, Rw E x h dr g0 g1 q w → G K E 4 w [(0, .ref b), (1, .ref (x 0)), (2, .ref (q 0)), (3, .int (nI i))] 1071 []) : G K E 4 ws [(0, .ref b), (1, .ref (x 0)), (2, .ref (q 0)), (3, .int (nI i))] 941 [] := by
  obtain ⟨r, Z, hS1, hk1⟩ := j_part hC hR (xs (i + 1))
  refine g_aload_n hC dL_law_941 rfl 1 rfl ?_
  refine g_aload_n hC dL_law_942 rfl 0 rfl ?_
  refine g_iload_n hC dL_law_943 rfl 3 rfl ?_
  refine g_iconst (v := nI 1) hC dL_law_944 (by decide) ?_
  refine g_iaddN hC dL_law_945 ?_
  refine g_sld hC hX hbl hbA (by omega) hL dL_law_946 ?_
  refine hS1 127 947 [(0, .ref b), (1, .ref (x 0)), (2, .ref (q 0)), (3, .int (nI i))] [] m3_162 dL_law_947 (Nat.le_of_ble_eq_true rfl) (fun w1 hz1 => ?_)
  obtain ⟨Z2, hS2, hk2⟩ := hk1 w1 hz1
  refine g_aload_n hC dL_law_950 rfl 2 rfl ?_
  refine g_aload_n hC dL_law_951 rfl 0 rfl ?_
  refine g_iload_n hC dL_law_952 rfl 3 rfl ?_
  refine g_iconst (v := nI 1) hC dL_law_953 (by decide) ?_
  refine g_iaddN hC dL_law_954 ?_
  refine g_sld hC hX hbl hbA (by omega) hL dL_law_955 ?_
  refine hS2 131 956 [(0, .ref b), (1, .ref (x 0)), (2, .ref (q 0)), (3, .int (nI i))] [.long r] m5_51 dL_law_956 (Nat.le_of_ble_eq_true rfl) (fun w2 hz2 => ?_)
  refine g_lcmp hC dL_law_959 ?_
  refine g_if_eq (tgt := 1071) hC dL_law_960 (by decide) (fun _ => hJ w2 (hk2 w2 hz2)) (fun hn => absurd ((lg_cmp_eq r r).mpr rfl) hn)
set_option maxHeartbeats 2000000 in
set_option maxRecDepth 100000 in
theorem lc_image {K : Kx} {E : Ew} {x h dr g0 g1 q : Nat → Nat} {ws : va_W} {b L i : Nat} {xs : Nat → Int32} (hC : Cx K E cL_law 4 "LastCalledLaw" 8) (hX : va_X b L xs (ks K) (ks K).heap) (hbl : b < (ks K).heap.size) (hbA : ¬ kA K b) (hL : L ≤ 384) (hi : i + 6 ≤ L) (hR : Rw E x h dr g0 g1 q ws) (hJ : ∀ w, Rw E x h dr g0 g1 q w → G K E 4 w [(0, .ref b), (1, .ref (x 0)), (2, .ref (q 0)), (3, .int (nI i))] 1071 []) : G K E 4 ws [(0, .ref b), (1, .ref (x 0)), (2, .ref (q 0)), (3, .int (nI i))] 965 [] := by
  obtain ⟨r, Z, hS1, hk1⟩ := j_image hC hR (xs (i + 1))
  refine g_aload_n hC dL_law_965 rfl 1 rfl ?_
  refine g_aload_n hC dL_law_966 rfl 0 rfl ?_
  refine g_iload_n hC dL_law_967 rfl 3 rfl ?_
  refine g_iconst (v := nI 1) hC dL_law_968 (by decide) ?_
  refine g_iaddN hC dL_law_969 ?_
  refine g_sld hC hX hbl hbA (by omega) hL dL_law_970 ?_
  refine hS1 132 971 [(0, .ref b), (1, .ref (x 0)), (2, .ref (q 0)), (3, .int (nI i))] [] m3_166 dL_law_971 (Nat.le_of_ble_eq_true rfl) (fun w1 hz1 => ?_)
  obtain ⟨Z2, hS2, hk2⟩ := hk1 w1 hz1
  refine g_aload_n hC dL_law_974 rfl 2 rfl ?_
  refine g_aload_n hC dL_law_975 rfl 0 rfl ?_
  refine g_iload_n hC dL_law_976 rfl 3 rfl ?_
  refine g_iconst (v := nI 1) hC dL_law_977 (by decide) ?_
  refine g_iaddN hC dL_law_978 ?_
  refine g_sld hC hX hbl hbA (by omega) hL dL_law_979 ?_
  refine hS2 135 980 [(0, .ref b), (1, .ref (x 0)), (2, .ref (q 0)), (3, .int (nI i))] [.int r] m5_55 dL_law_980 (Nat.le_of_ble_eq_true rfl) (fun w2 hz2 => ?_)
  refine g_icmp_eq (tgt := 1071) hC dL_law_983 (by decide) (fun _ => hJ w2 (hk2 w2 hz2)) (fun hn => absurd rfl hn)
set_option maxHeartbeats 2000000 in
set_option maxRecDepth 100000 in
theorem lc_from {K : Kx} {E : Ew} {x h dr g0 g1 q : Nat → Nat} {ws : va_W} {b L i : Nat} {xs : Nat → Int32} (hC : Cx K E cL_law 4 "LastCalledLaw" 8) (hX : va_X b L xs (ks K) (ks K).heap) (hbl : b < (ks K).heap.size) (hbA : ¬ kA K b) (hL : L ≤ 384) (hi : i + 6 ≤ L) (hR : Rw E x h dr g0 g1 q ws) (hJ : ∀ w, Rw E x h dr g0 g1 q w → G K E 4 w [(0, .ref b), (1, .ref (x 0)), (2, .ref (q 0)), (3, .int (nI i))] 1071 []) : G K E 4 ws [(0, .ref b), (1, .ref (x 0)), (2, .ref (q 0)), (3, .int (nI i))] 988 [] := by
  obtain ⟨r, Z, hS1, hk1⟩ := j_from hC hR (xs (i + 1))
  refine g_aload_n hC dL_law_988 rfl 1 rfl ?_
  refine g_aload_n hC dL_law_989 rfl 0 rfl ?_
  refine g_iload_n hC dL_law_990 rfl 3 rfl ?_
  refine g_iconst (v := nI 1) hC dL_law_991 (by decide) ?_
  refine g_iaddN hC dL_law_992 ?_
  refine g_sld hC hX hbl hbA (by omega) hL dL_law_993 ?_
  refine hS1 136 994 [(0, .ref b), (1, .ref (x 0)), (2, .ref (q 0)), (3, .int (nI i))] [] m3_170 dL_law_994 (Nat.le_of_ble_eq_true rfl) (fun w1 hz1 => ?_)
  obtain ⟨Z2, hS2, hk2⟩ := hk1 w1 hz1
  refine g_aload_n hC dL_law_997 rfl 2 rfl ?_
  refine g_aload_n hC dL_law_998 rfl 0 rfl ?_
  refine g_iload_n hC dL_law_999 rfl 3 rfl ?_
  refine g_iconst (v := nI 1) hC dL_law_1000 (by decide) ?_
  refine g_iaddN hC dL_law_1001 ?_
  refine g_sld hC hX hbl hbA (by omega) hL dL_law_1002 ?_
  refine hS2 139 1003 [(0, .ref b), (1, .ref (x 0)), (2, .ref (q 0)), (3, .int (nI i))] [.int r] m5_59 dL_law_1003 (Nat.le_of_ble_eq_true rfl) (fun w2 hz2 => ?_)
  refine g_icmp_eq (tgt := 1071) hC dL_law_1006 (by decide) (fun _ => hJ w2 (hk2 w2 hz2)) (fun hn => absurd rfl hn)
set_option maxHeartbeats 2000000 in
set_option maxRecDepth 100000 in
theorem lc_status {K : Kx} {E : Ew} {x h dr g0 g1 q : Nat → Nat} {ws : va_W} {b L i : Nat} {xs : Nat → Int32} (hC : Cx K E cL_law 4 "LastCalledLaw" 8) (hX : va_X b L xs (ks K) (ks K).heap) (hbl : b < (ks K).heap.size) (hbA : ¬ kA K b) (hL : L ≤ 384) (hi : i + 6 ≤ L) (hR : Rw E x h dr g0 g1 q ws) (hJ : ∀ w, Rw E x h dr g0 g1 q w → G K E 4 w [(0, .ref b), (1, .ref (x 0)), (2, .ref (q 0)), (3, .int (nI i))] 1071 []) : G K E 4 ws [(0, .ref b), (1, .ref (x 0)), (2, .ref (q 0)), (3, .int (nI i))] 1011 [] := by
  obtain ⟨r, Z, hS1, hk1⟩ := j_status hC hR (xs (i + 1))
  refine g_aload_n hC dL_law_1011 rfl 1 rfl ?_
  refine g_aload_n hC dL_law_1012 rfl 0 rfl ?_
  refine g_iload_n hC dL_law_1013 rfl 3 rfl ?_
  refine g_iconst (v := nI 1) hC dL_law_1014 (by decide) ?_
  refine g_iaddN hC dL_law_1015 ?_
  refine g_sld hC hX hbl hbA (by omega) hL dL_law_1016 ?_
  refine hS1 140 1017 [(0, .ref b), (1, .ref (x 0)), (2, .ref (q 0)), (3, .int (nI i))] [] m3_174 dL_law_1017 (Nat.le_of_ble_eq_true rfl) (fun w1 hz1 => ?_)
  obtain ⟨Z2, hS2, hk2⟩ := hk1 w1 hz1
  refine g_aload_n hC dL_law_1020 rfl 2 rfl ?_
  refine g_aload_n hC dL_law_1021 rfl 0 rfl ?_
  refine g_iload_n hC dL_law_1022 rfl 3 rfl ?_
  refine g_iconst (v := nI 1) hC dL_law_1023 (by decide) ?_
  refine g_iaddN hC dL_law_1024 ?_
  refine g_sld hC hX hbl hbA (by omega) hL dL_law_1025 ?_
  refine hS2 143 1026 [(0, .ref b), (1, .ref (x 0)), (2, .ref (q 0)), (3, .int (nI i))] [.int r] m5_63 dL_law_1026 (Nat.le_of_ble_eq_true rfl) (fun w2 hz2 => ?_)
  refine g_icmp_eq (tgt := 1071) hC dL_law_1029 (by decide) (fun _ => hJ w2 (hk2 w2 hz2)) (fun hn => absurd rfl hn)
set_option maxHeartbeats 2000000 in
set_option maxRecDepth 100000 in
theorem lc_count {K : Kx} {E : Ew} {x h dr g0 g1 q : Nat → Nat} {ws : va_W} {b L i : Nat} {xs : Nat → Int32} (hC : Cx K E cL_law 4 "LastCalledLaw" 8) (hX : va_X b L xs (ks K) (ks K).heap) (hbl : b < (ks K).heap.size) (hbA : ¬ kA K b) (hL : L ≤ 384) (hi : i + 6 ≤ L) (hR : Rw E x h dr g0 g1 q ws) (hJ : ∀ w, Rw E x h dr g0 g1 q w → G K E 4 w [(0, .ref b), (1, .ref (x 0)), (2, .ref (q 0)), (3, .int (nI i))] 1071 []) : G K E 4 ws [(0, .ref b), (1, .ref (x 0)), (2, .ref (q 0)), (3, .int (nI i))] 1034 [] := by
  obtain ⟨r, Z, hS1, hk1⟩ := j_count hC hR (xs (i + 1))
  refine g_aload_n hC dL_law_1034 rfl 1 rfl ?_
  refine g_aload_n hC dL_law_1035 rfl 0 rfl ?_
  refine g_iload_n hC dL_law_1036 rfl 3 rfl ?_
  refine g_iconst (v := nI 1) hC dL_law_1037 (by decide) ?_
  refine g_iaddN hC dL_law_1038 ?_
  refine g_sld hC hX hbl hbA (by omega) hL dL_law_1039 ?_
  refine hS1 144 1040 [(0, .ref b), (1, .ref (x 0)), (2, .ref (q 0)), (3, .int (nI i))] [] m3_178 dL_law_1040 (Nat.le_of_ble_eq_true rfl) (fun w1 hz1 => ?_)
  obtain ⟨Z2, hS2, hk2⟩ := hk1 w1 hz1
  refine g_aload_n hC dL_law_1043 rfl 2 rfl ?_
  refine g_aload_n hC dL_law_1044 rfl 0 rfl ?_
  refine g_iload_n hC dL_law_1045 rfl 3 rfl ?_
  refine g_iconst (v := nI 1) hC dL_law_1046 (by decide) ?_
  refine g_iaddN hC dL_law_1047 ?_
  refine g_sld hC hX hbl hbA (by omega) hL dL_law_1048 ?_
  refine hS2 147 1049 [(0, .ref b), (1, .ref (x 0)), (2, .ref (q 0)), (3, .int (nI i))] [.int r] m5_67 dL_law_1049 (Nat.le_of_ble_eq_true rfl) (fun w2 hz2 => ?_)
  refine g_icmp_eq (tgt := 1071) hC dL_law_1052 (by decide) (fun _ => hJ w2 (hk2 w2 hz2)) (fun hn => absurd rfl hn)
set_option maxHeartbeats 2000000 in
set_option maxRecDepth 100000 in
theorem lc_digest {K : Kx} {E : Ew} {x h dr g0 g1 q : Nat → Nat} {ws : va_W} {b L i : Nat} {xs : Nat → Int32} (hC : Cx K E cL_law 4 "LastCalledLaw" 8) (hX : va_X b L xs (ks K) (ks K).heap) (hbl : b < (ks K).heap.size) (hbA : ¬ kA K b) (hL : L ≤ 384) (hi : i + 6 ≤ L) (hR : Rw E x h dr g0 g1 q ws) (hJ : ∀ w, Rw E x h dr g0 g1 q w → G K E 4 w [(0, .ref b), (1, .ref (x 0)), (2, .ref (q 0)), (3, .int (nI i))] 1071 []) : G K E 4 ws [(0, .ref b), (1, .ref (x 0)), (2, .ref (q 0)), (3, .int (nI i))] 1057 [] := by
  obtain ⟨r, Z, hS1, hk1⟩ := j_digest hC hR 
  refine g_aload_n hC dL_law_1057 rfl 1 rfl ?_
  refine hS1 148 1058 [(0, .ref b), (1, .ref (x 0)), (2, .ref (q 0)), (3, .int (nI i))] [] m3_187 dL_law_1058 (Nat.le_of_ble_eq_true rfl) (fun w1 hz1 => ?_)
  obtain ⟨Z2, hS2, hk2⟩ := hk1 w1 hz1
  refine g_aload_n hC dL_law_1061 rfl 2 rfl ?_
  refine hS2 152 1062 [(0, .ref b), (1, .ref (x 0)), (2, .ref (q 0)), (3, .int (nI i))] [.long r] m5_76 dL_law_1062 (Nat.le_of_ble_eq_true rfl) (fun w2 hz2 => ?_)
  refine g_lcmp hC dL_law_1065 ?_
  refine g_if_eq (tgt := 1071) hC dL_law_1066 (by decide) (fun _ => hJ w2 (hk2 w2 hz2)) (fun hn => absurd ((lg_cmp_eq r r).mpr rfl) hn)
set_option maxHeartbeats 2000000 in
set_option maxRecDepth 100000 in
theorem law_loop {K : Kx} {E : Ew} {x h dr g0 g1 q : Nat → Nat} {b L : Nat} {xs : Nat → Int32} (hC : Cx K E cL_law 4 "LastCalledLaw" 8) (hX : va_X b L xs (ks K) (ks K).heap) (hbl : b < (ks K).heap.size) (hbA : ¬ kA K b) (hL : L ≤ 384) (hEnd : ∀ (w : va_W) (lv : List (Nat × Value)), G K E 4 w lv 1078 [.int (nI 1)]) : ∀ (fu i : Nat) (ws : va_W), Rw E x h dr g0 g1 q ws → L - i < fu → i ≤ 400 → G K E 4 ws [(0, .ref b), (1, .ref (x 0)), (2, .ref (q 0)), (3, .int (nI i))] 18 [] := by
  intro fu
  induction fu with
  | zero => intro i ws _ hm _; exact absurd hm (Nat.not_lt_zero _)
  | succ fu ih =>
    intro i ws hR hm hi4
    refine g_iload_n hC dL_law_18 rfl 3 rfl ?_
    refine g_aload_n hC dL_law_19 rfl 0 rfl ?_
    refine g_slen hC hX hbl hbA dL_law_20 ?_
    refine g_bipush (v := nI 6) hC dL_law_21 (by decide) ?_
    refine g_isub hC dL_law_23 ?_
    refine g_icmp_gt (tgt := 1077) hC dL_law_24 (by decide) (fun _ => ?_) (fun hc => ?_)
    · refine g_iconst (v := nI 1) hC dL_law_1077 (by decide) ?_
      exact hEnd _ _
    · have hi : i + 6 ≤ L := by
        have h1 : ¬ (nI L - nI 6).toInt < (nI i).toInt := fun q => hc (Int32.lt_iff_toInt_lt.mpr q)
        rw [pk_sub_toInt (by omega) (by omega), nI_toInt (by omega)] at h1
        omega
      have hJ : ∀ w, Rw E x h dr g0 g1 q w → G K E 4 w [(0, .ref b), (1, .ref (x 0)), (2, .ref (q 0)), (3, .int (nI i))] 1071 [] := fun w hw => by
        refine g_iincN hC (q := 3) 6 [(3, .int (nI (i + 6))), (0, .ref b), (1, .ref (x 0)), (2, .ref (q 0))] dL_law_1071 rfl rfl (by decide) rfl ?_
        refine g_goto (tgt := 18) hC dL_law_1074 (by decide) ?_
        refine g_lv (lv' := [(0, .ref b), (1, .ref (x 0)), (2, .ref (q 0)), (3, .int (nI (i + 6)))]) [1, 2, 3, 0] rfl ?_
        exact ih (i + 6) w hw (by omega) (by omega)
      refine g_aload_n hC dL_law_27 rfl 0 rfl ?_
      refine g_iload_n hC dL_law_28 rfl 3 rfl ?_
      refine g_sld hC hX hbl hbA (by omega) hL dL_law_29 ?_
      refine g_bipush (v := nI 63) hC dL_law_30 (by decide) ?_
      refine g_iand hC dL_law_32 ?_
      obtain ⟨j, hj, he⟩ := pk_andE (xs i) (m := nI 63) 6 (by decide)
      refine g_val (v' := .int (nI j)) (by rw [he]) ?_
      by_cases hs_0 : j = 0
      · subst hs_0
        refine g_tabIn hC dL_law_33 (by decide) (by decide) (off := 147) (by decide) (tgt := 180) (by decide) ?_
        exact lc_hamlet hC hX hbl hbA hL hi hR hJ
      by_cases hs_1 : j = 1
      · subst hs_1
        refine g_tabIn hC dL_law_33 (by decide) (by decide) (off := 170) (by decide) (tgt := 203) (by decide) ?_
        exact lc_one hC hX hbl hbA hL hi hR hJ
      by_cases hs_2 : j = 2
      · subst hs_2
        refine g_tabIn hC dL_law_33 (by decide) (by decide) (off := 203) (by decide) (tgt := 236) (by decide) ?_
        exact lc_type hC hX hbl hbA hL hi hR hJ
      by_cases hs_3 : j = 3
      · subst hs_3
        refine g_tabIn hC dL_law_33 (by decide) (by decide) (off := 226) (by decide) (tgt := 259) (by decide) ?_
        exact lc_clear hC hX hbl hbA hL hi hR hJ
      by_cases hs_4 : j = 4
      · subst hs_4
        refine g_tabIn hC dL_law_33 (by decide) (by decide) (off := 239) (by decide) (tgt := 272) (by decide) ?_
        exact lc_read hC hX hbl hbA hL hi hR hJ
      by_cases hs_5 : j = 5
      · subst hs_5
        refine g_tabIn hC dL_law_33 (by decide) (by decide) (off := 252) (by decide) (tgt := 285) (by decide) ?_
        exact lc_call hC hX hbl hbA hL hi hR hJ
      by_cases hs_6 : j = 6
      · subst hs_6
        refine g_tabIn hC dL_law_33 (by decide) (by decide) (off := 285) (by decide) (tgt := 318) (by decide) ?_
        exact lc_goes hC hX hbl hbA hL hi hR hJ
      by_cases hs_7 : j = 7
      · subst hs_7
        refine g_tabIn hC dL_law_33 (by decide) (by decide) (off := 318) (by decide) (tgt := 351) (by decide) ?_
        exact lc_day hC hX hbl hbA hL hi hR hJ
      by_cases hs_8 : j = 8
      · subst hs_8
        refine g_tabIn hC dL_law_33 (by decide) (by decide) (off := 331) (by decide) (tgt := 364) (by decide) ?_
        exact lc_undo hC hX hbl hbA hL hi hR hJ
      by_cases hs_9 : j = 9
      · subst hs_9
        refine g_tabIn hC dL_law_33 (by decide) (by decide) (off := 344) (by decide) (tgt := 377) (by decide) ?_
        exact lc_of hC hX hbl hbA hL hi hR hJ
      by_cases hs_10 : j = 10
      · subst hs_10
        refine g_tabIn hC dL_law_33 (by decide) (by decide) (off := 377) (by decide) (tgt := 410) (by decide) ?_
        exact lc_turn hC hX hbl hbA hL hi hR hJ
      by_cases hs_11 : j = 11
      · subst hs_11
        refine g_tabIn hC dL_law_33 (by decide) (by decide) (off := 410) (by decide) (tgt := 443) (by decide) ?_
        exact lc_bearers hC hX hbl hbA hL hi hR hJ
      by_cases hs_12 : j = 12
      · subst hs_12
        refine g_tabIn hC dL_law_33 (by decide) (by decide) (off := 433) (by decide) (tgt := 466) (by decide) ?_
        exact lc_names hC hX hbl hbA hL hi hR hJ
      by_cases hs_13 : j = 13
      · subst hs_13
        refine g_tabIn hC dL_law_33 (by decide) (by decide) (off := 456) (by decide) (tgt := 489) (by decide) ?_
        exact lc_calls hC hX hbl hbA hL hi hR hJ
      by_cases hs_14 : j = 14
      · subst hs_14
        refine g_tabIn hC dL_law_33 (by decide) (by decide) (off := 499) (by decide) (tgt := 532) (by decide) ?_
        exact lc_own hC hX hbl hbA hL hi hR hJ
      by_cases hs_15 : j = 15
      · subst hs_15
        refine g_tabIn hC dL_law_33 (by decide) (by decide) (off := 522) (by decide) (tgt := 555) (by decide) ?_
        exact lc_ring hC hX hbl hbA hL hi hR hJ
      by_cases hs_16 : j = 16
      · subst hs_16
        refine g_tabIn hC dL_law_33 (by decide) (by decide) (off := 545) (by decide) (tgt := 578) (by decide) ?_
        exact lc_deed hC hX hbl hbA hL hi hR hJ
      by_cases hs_17 : j = 17
      · subst hs_17
        refine g_tabIn hC dL_law_33 (by decide) (by decide) (off := 578) (by decide) (tgt := 611) (by decide) ?_
        exact lc_owes hC hX hbl hbA hL hi hR hJ
      by_cases hs_18 : j = 18
      · subst hs_18
        refine g_tabIn hC dL_law_33 (by decide) (by decide) (off := 601) (by decide) (tgt := 634) (by decide) ?_
        exact lc_unpaid hC hX hbl hbA hL hi hR hJ
      by_cases hs_19 : j = 19
      · subst hs_19
        refine g_tabIn hC dL_law_33 (by decide) (by decide) (off := 614) (by decide) (tgt := 647) (by decide) ?_
        exact lc_ears hC hX hbl hbA hL hi hR hJ
      by_cases hs_20 : j = 20
      · subst hs_20
        refine g_tabIn hC dL_law_33 (by decide) (by decide) (off := 667) (by decide) (tgt := 700) (by decide) ?_
        exact lc_note hC hX hbl hbA hL hi hR hJ
      by_cases hs_21 : j = 21
      · subst hs_21
        refine g_tabIn hC dL_law_33 (by decide) (by decide) (off := 730) (by decide) (tgt := 763) (by decide) ?_
        exact lc_forget hC hX hbl hbA hL hi hR hJ
      by_cases hs_22 : j = 22
      · subst hs_22
        refine g_tabIn hC dL_law_33 (by decide) (by decide) (off := 753) (by decide) (tgt := 786) (by decide) ?_
        exact lc_is hC hX hbl hbA hL hi hR hJ
      by_cases hs_23 : j = 23
      · subst hs_23
        refine g_tabIn hC dL_law_33 (by decide) (by decide) (off := 776) (by decide) (tgt := 809) (by decide) ?_
        exact lc_stood hC hX hbl hbA hL hi hR hJ
      by_cases hs_24 : j = 24
      · subst hs_24
        refine g_tabIn hC dL_law_33 (by decide) (by decide) (off := 799) (by decide) (tgt := 832) (by decide) ?_
        exact lc_next hC hX hbl hbA hL hi hR hJ
      by_cases hs_25 : j = 25
      · subst hs_25
        refine g_tabIn hC dL_law_33 (by decide) (by decide) (off := 822) (by decide) (tgt := 855) (by decide) ?_
        exact lc_trippers hC hX hbl hbA hL hi hR hJ
      by_cases hs_26 : j = 26
      · subst hs_26
        refine g_tabIn hC dL_law_33 (by decide) (by decide) (off := 875) (by decide) (tgt := 908) (by decide) ?_
        exact lc_weeks hC hX hbl hbA hL hi hR hJ
      by_cases hs_27 : j = 27
      · subst hs_27
        refine g_tabIn hC dL_law_33 (by decide) (by decide) (off := 908) (by decide) (tgt := 941) (by decide) ?_
        exact lc_part hC hX hbl hbA hL hi hR hJ
      by_cases hs_28 : j = 28
      · subst hs_28
        refine g_tabIn hC dL_law_33 (by decide) (by decide) (off := 932) (by decide) (tgt := 965) (by decide) ?_
        exact lc_image hC hX hbl hbA hL hi hR hJ
      by_cases hs_29 : j = 29
      · subst hs_29
        refine g_tabIn hC dL_law_33 (by decide) (by decide) (off := 955) (by decide) (tgt := 988) (by decide) ?_
        exact lc_from hC hX hbl hbA hL hi hR hJ
      by_cases hs_30 : j = 30
      · subst hs_30
        refine g_tabIn hC dL_law_33 (by decide) (by decide) (off := 978) (by decide) (tgt := 1011) (by decide) ?_
        exact lc_status hC hX hbl hbA hL hi hR hJ
      by_cases hs_31 : j = 31
      · subst hs_31
        refine g_tabIn hC dL_law_33 (by decide) (by decide) (off := 1001) (by decide) (tgt := 1034) (by decide) ?_
        exact lc_count hC hX hbl hbA hL hi hR hJ
      by_cases hs_32 : j = 32
      · subst hs_32
        refine g_tabIn hC dL_law_33 (by decide) (by decide) (off := 1024) (by decide) (tgt := 1057) (by decide) ?_
        exact lc_digest hC hX hbl hbA hL hi hR hJ
      refine g_tabOut hC dL_law_33 (tab_out (lo := 0) (hi := 32) (by omega) (by omega)) (tgt := 1071) (by decide) ?_
      exact hJ ws hR
