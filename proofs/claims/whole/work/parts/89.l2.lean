section LWC
variable {p : Program} {l : Launch} {e : Env} {s : State} {m : MethodId} {below : List Frame} {meth : Method} {c : Code} {H : Heap} {locs : List Loc} {Q : State → Prop}
variable {adr : Nat → Nat} {ca : Nat → ClassId} {D : va_G} {b L i : Nat} {xs : Nat → Int32} {ls : Array Slot} {σ : mx_S} {w : Vw}
/-- from the end of each case on -/
def lw_kk (p : Program) (l : Launch) (e : Env) (s : State) (m : MethodId) (below : List Frame) (meth : Method) (c : Code) (adr : Nat → Nat) (ca : Nat → ClassId) (D : va_G) (b : Nat) (ls : Array Slot) (Q : State → Prop) : Prop := ∀ (σ' : mx_S) (w' : Vw) (H1 : Heap) (locs1 : List Loc), vwX w' σ' → vwM w' σ' → lw_st s adr ca D σ' H1 locs1 → W p l e room_1 s m #[Value.ref b] below meth c H1 locs1 600000 7302249 Q (F0 m 1292 ls [])
/-- the long of two ints, as the law makes it -/
def lw_lng (a b : Int32) : Int64 := (a.toInt64 <<< ((32 : Int32).toInt64 &&& 63)) ||| (b.toInt64 &&& 4294967295)
theorem lw_cmp0 (x : Int64) : lg_cmp x x = 0 := by
  have h : ¬ x < x := by rw [l64]; omega
  unfold lg_cmp
  simp [h]
theorem lw_c0 (F : lw_fx p s m c b L xs adr ca D) (hL : L ≤ 3072) (hi : i + 6 ≤ L) (hl : lv_has ls 4 (lw_lv b adr i)) (hx0 : vwX w σ) (hm0 : vwM w σ) (hw : lw_st s adr ca D σ H locs) (kk : lw_kk p l e s m below meth c adr ca D b ls Q) : W p l e room_1 s m #[Value.ref b] below meth c H locs 600000 7302249 Q (F0 m 188 ls []) := by
  obtain ⟨hx, hb, hml, hown, hts, -⟩ := id F
  have hsz := hl.1
  refine lv_aload_n hx hb dL_law_188 rfl (lv_at hl 1 rfl) ?_
  refine lw_arg F hL hi hl (k := 1) (by decide) rfl hw.2.2 dL_law_189 dL_law_190 dL_law_191 dL_law_192 dL_law_193 ?_
  refine lw_arg F hL hi hl (k := 2) (by decide) rfl hw.2.2 dL_law_194 dL_law_195 dL_law_196 dL_law_197 dL_law_198 ?_
  refine lw_arg F hL hi hl (k := 3) (by decide) rfl hw.2.2 dL_law_199 dL_law_200 dL_law_201 dL_law_202 dL_law_203 ?_
  obtain ⟨σ1, c1, v1, n1⟩ := X_job (d := 18) (a := (xs (i + 1))) (m := (xs (i + 2))) (b := (xs (i + 3))) hx0
  refine lw_virt F (h := 0) (As := [.int (xs (i + 1)), .int (xs (i + 2)), .int (xs (i + 3))]) (rest := []) mk_X6_job (mx_at 240 (by decide +kernel)) rfl (by decide) (Nat.le_of_ble_eq_true rfl) (by decide) c1 dL_law_204 hsz rfl hw (fun H locs hw => ?_)
  have hm1 := hm0.hi n1
  refine lv_aload_n hx hb dL_law_207 rfl (lv_at hl 2 rfl) ?_
  refine lw_arg F hL hi hl (k := 1) (by decide) rfl hw.2.2 dL_law_208 dL_law_209 dL_law_210 dL_law_211 dL_law_212 ?_
  refine lw_arg F hL hi hl (k := 2) (by decide) rfl hw.2.2 dL_law_213 dL_law_214 dL_law_215 dL_law_216 dL_law_217 ?_
  refine lw_arg F hL hi hl (k := 3) (by decide) rfl hw.2.2 dL_law_218 dL_law_219 dL_law_220 dL_law_221 dL_law_222 ?_
  obtain ⟨σ2, c2, v2, n2⟩ := M_job (d := 18) (a := (xs (i + 1))) (m := (xs (i + 2))) (b := (xs (i + 3))) hm1
  refine lw_virt F (h := 88) (As := [.int (xs (i + 1)), .int (xs (i + 2)), .int (xs (i + 3))]) (rest := [.int _]) mk_X7_job (mx_at 733 (by decide +kernel)) rfl (by decide) (Nat.le_of_ble_eq_true rfl) (by decide) c2 dL_law_223 hsz rfl hw (fun H locs hw => ?_)
  refine lv_icmp_eq (tgt := 1292) hx hb dL_law_226 (by decide) (fun _ => ?_) (fun h => absurd rfl h)
  exact kk _ _ _ _ (v1.lo n2) v2 hw
theorem lw_c1 (F : lw_fx p s m c b L xs adr ca D) (hL : L ≤ 3072) (hi : i + 6 ≤ L) (hl : lv_has ls 4 (lw_lv b adr i)) (hx0 : vwX w σ) (hm0 : vwM w σ) (hw : lw_st s adr ca D σ H locs) (kk : lw_kk p l e s m below meth c adr ca D b ls Q) : W p l e room_1 s m #[Value.ref b] below meth c H locs 600000 7302249 Q (F0 m 231 ls []) := by
  obtain ⟨hx, hb, hml, hown, hts, -⟩ := id F
  have hsz := hl.1
  refine lv_aload_n hx hb dL_law_231 rfl (lv_at hl 1 rfl) ?_
  refine lw_arg F hL hi hl (k := 1) (by decide) rfl hw.2.2 dL_law_232 dL_law_233 dL_law_234 dL_law_235 dL_law_236 ?_
  refine lw_arg F hL hi hl (k := 2) (by decide) rfl hw.2.2 dL_law_237 dL_law_238 dL_law_239 dL_law_240 dL_law_241 ?_
  refine lw_arg F hL hi hl (k := 3) (by decide) rfl hw.2.2 dL_law_242 dL_law_243 dL_law_244 dL_law_245 dL_law_246 ?_
  obtain ⟨σ1, c1, v1, n1⟩ := X_renew (d := 18) (a := (xs (i + 1))) (b := (xs (i + 2))) (v := (xs (i + 3))) hx0
  refine lw_virt F (h := 0) (As := [.int (xs (i + 1)), .int (xs (i + 2)), .int (xs (i + 3))]) (rest := []) mk_X6_renew (mx_at 254 (by decide +kernel)) rfl (by decide) (Nat.le_of_ble_eq_true rfl) (by decide) c1 dL_law_247 hsz rfl hw (fun H locs hw => ?_)
  have hm1 := hm0.hi n1
  refine lv_aload_n hx hb dL_law_250 rfl (lv_at hl 2 rfl) ?_
  refine lw_arg F hL hi hl (k := 1) (by decide) rfl hw.2.2 dL_law_251 dL_law_252 dL_law_253 dL_law_254 dL_law_255 ?_
  refine lw_arg F hL hi hl (k := 2) (by decide) rfl hw.2.2 dL_law_256 dL_law_257 dL_law_258 dL_law_259 dL_law_260 ?_
  refine lw_arg F hL hi hl (k := 3) (by decide) rfl hw.2.2 dL_law_261 dL_law_262 dL_law_263 dL_law_264 dL_law_265 ?_
  obtain ⟨σ2, c2, v2, n2⟩ := M_renew (d := 17) (a := (xs (i + 1))) (b := (xs (i + 2))) (v := (xs (i + 3))) hm1
  refine lw_virt F (h := 88) (As := [.int (xs (i + 1)), .int (xs (i + 2)), .int (xs (i + 3))]) (rest := [.int _]) mk_X7_renew (mx_at 741 (by decide +kernel)) rfl (by decide) (Nat.le_of_ble_eq_true rfl) (by decide) c2 dL_law_266 hsz rfl hw (fun H locs hw => ?_)
  refine lv_icmp_eq (tgt := 1292) hx hb dL_law_269 (by decide) (fun _ => ?_) (fun h => absurd rfl h)
  exact kk _ _ _ _ (v1.lo n2) v2 hw
theorem lw_c2 (F : lw_fx p s m c b L xs adr ca D) (hL : L ≤ 3072) (hi : i + 6 ≤ L) (hl : lv_has ls 4 (lw_lv b adr i)) (hx0 : vwX w σ) (hm0 : vwM w σ) (hw : lw_st s adr ca D σ H locs) (kk : lw_kk p l e s m below meth c adr ca D b ls Q) : W p l e room_1 s m #[Value.ref b] below meth c H locs 600000 7302249 Q (F0 m 274 ls []) := by
  obtain ⟨hx, hb, hml, hown, hts, -⟩ := id F
  have hsz := hl.1
  refine lv_aload_n hx hb dL_law_274 rfl (lv_at hl 1 rfl) ?_
  refine lw_arg F hL hi hl (k := 1) (by decide) rfl hw.2.2 dL_law_275 dL_law_276 dL_law_277 dL_law_278 dL_law_279 ?_
  refine lw_arg F hL hi hl (k := 2) (by decide) rfl hw.2.2 dL_law_280 dL_law_281 dL_law_282 dL_law_283 dL_law_284 ?_
  have c1 := X_of (d := 18) (a := (xs (i + 1))) (b := (xs (i + 2))) hx0
  refine lw_virt F (h := 0) (As := [.int (xs (i + 1)), .int (xs (i + 2))]) (rest := []) mk_X6_of (mx_at 265 (by decide +kernel)) rfl (by decide) (Nat.le_of_ble_eq_true rfl) (by decide) c1 dL_law_285 hsz rfl hw (fun H locs hw => ?_)
  have hm1 := hm0
  refine lv_aload_n hx hb dL_law_288 rfl (lv_at hl 2 rfl) ?_
  refine lw_arg F hL hi hl (k := 1) (by decide) rfl hw.2.2 dL_law_289 dL_law_290 dL_law_291 dL_law_292 dL_law_293 ?_
  refine lw_arg F hL hi hl (k := 2) (by decide) rfl hw.2.2 dL_law_294 dL_law_295 dL_law_296 dL_law_297 dL_law_298 ?_
  have c2 := M_of (d := 17) (a := (xs (i + 1))) (b := (xs (i + 2))) hm1
  refine lw_virt F (h := 88) (As := [.int (xs (i + 1)), .int (xs (i + 2))]) (rest := [.int _]) mk_X7_of (mx_at 757 (by decide +kernel)) rfl (by decide) (Nat.le_of_ble_eq_true rfl) (by decide) c2 dL_law_299 hsz rfl hw (fun H locs hw => ?_)
  refine lv_icmp_eq (tgt := 1292) hx hb dL_law_302 (by decide) (fun _ => ?_) (fun h => absurd rfl h)
  exact kk _ _ _ _ hx0 hm1 hw
theorem lw_c3 (F : lw_fx p s m c b L xs adr ca D) (hL : L ≤ 3072) (hi : i + 6 ≤ L) (hl : lv_has ls 4 (lw_lv b adr i)) (hx0 : vwX w σ) (hm0 : vwM w σ) (hw : lw_st s adr ca D σ H locs) (kk : lw_kk p l e s m below meth c adr ca D b ls Q) : W p l e room_1 s m #[Value.ref b] below meth c H locs 600000 7302249 Q (F0 m 307 ls []) := by
  obtain ⟨hx, hb, hml, hown, hts, -⟩ := id F
  have hsz := hl.1
  refine lv_aload_n hx hb dL_law_307 rfl (lv_at hl 1 rfl) ?_
  refine lw_arg F hL hi hl (k := 1) (by decide) rfl hw.2.2 dL_law_308 dL_law_309 dL_law_310 dL_law_311 dL_law_312 ?_
  refine lw_arg F hL hi hl (k := 2) (by decide) rfl hw.2.2 dL_law_313 dL_law_314 dL_law_315 dL_law_316 dL_law_317 ?_
  obtain ⟨σ1, c1, v1, n1⟩ := X_set (d := 18) (x := (xs (i + 1))) (v := (xs (i + 2))) hx0
  refine lw_virt F (h := 0) (As := [.int (xs (i + 1)), .int (xs (i + 2))]) (rest := []) mk_X6_set (mx_at 273 (by decide +kernel)) rfl (by decide) (Nat.le_of_ble_eq_true rfl) (by decide) c1 dL_law_318 hsz rfl hw (fun H locs hw => ?_)
  have hm1 := hm0.hi n1
  refine lv_aload_n hx hb dL_law_321 rfl (lv_at hl 2 rfl) ?_
  refine lw_arg F hL hi hl (k := 1) (by decide) rfl hw.2.2 dL_law_322 dL_law_323 dL_law_324 dL_law_325 dL_law_326 ?_
  refine lw_arg F hL hi hl (k := 2) (by decide) rfl hw.2.2 dL_law_327 dL_law_328 dL_law_329 dL_law_330 dL_law_331 ?_
  obtain ⟨σ2, c2, v2, n2⟩ := M_set (d := 18) (x := (xs (i + 1))) (v := (xs (i + 2))) hm1
  refine lw_virt F (h := 88) (As := [.int (xs (i + 1)), .int (xs (i + 2))]) (rest := [.int _]) mk_X7_set (mx_at 766 (by decide +kernel)) rfl (by decide) (Nat.le_of_ble_eq_true rfl) (by decide) c2 dL_law_332 hsz rfl hw (fun H locs hw => ?_)
  refine lv_icmp_eq (tgt := 1292) hx hb dL_law_335 (by decide) (fun _ => ?_) (fun h => absurd rfl h)
  exact kk _ _ _ _ (v1.lo n2) v2 hw
theorem lw_c4 (F : lw_fx p s m c b L xs adr ca D) (hL : L ≤ 3072) (hi : i + 6 ≤ L) (hl : lv_has ls 4 (lw_lv b adr i)) (hx0 : vwX w σ) (hm0 : vwM w σ) (hw : lw_st s adr ca D σ H locs) (kk : lw_kk p l e s m below meth c adr ca D b ls Q) : W p l e room_1 s m #[Value.ref b] below meth c H locs 600000 7302249 Q (F0 m 340 ls []) := by
  obtain ⟨hx, hb, hml, hown, hts, -⟩ := id F
  have hsz := hl.1
  refine lv_aload_n hx hb dL_law_340 rfl (lv_at hl 1 rfl) ?_
  refine lw_arg F hL hi hl (k := 1) (by decide) rfl hw.2.2 dL_law_341 dL_law_342 dL_law_343 dL_law_344 dL_law_345 ?_
  obtain ⟨σ1, c1, v1, n1⟩ := X_feed (d := 18) (a := (xs (i + 1))) hx0
  refine lw_virt F (h := 0) (As := [.int (xs (i + 1))]) (rest := []) mk_X6_feed (mx_at 277 (by decide +kernel)) rfl (by decide) (Nat.le_of_ble_eq_true rfl) (by decide) c1 dL_law_346 hsz rfl hw (fun H locs hw => ?_)
  have hm1 := hm0.hi n1
  refine lv_aload_n hx hb dL_law_349 rfl (lv_at hl 2 rfl) ?_
  refine lw_arg F hL hi hl (k := 1) (by decide) rfl hw.2.2 dL_law_350 dL_law_351 dL_law_352 dL_law_353 dL_law_354 ?_
  obtain ⟨σ2, c2, v2, n2⟩ := M_feed (d := 18) (a := (xs (i + 1))) hm1
  refine lw_virt F (h := 88) (As := [.int (xs (i + 1))]) (rest := [.int _]) mk_X7_feed (mx_at 771 (by decide +kernel)) rfl (by decide) (Nat.le_of_ble_eq_true rfl) (by decide) c2 dL_law_355 hsz rfl hw (fun H locs hw => ?_)
  refine lv_icmp_eq (tgt := 1292) hx hb dL_law_358 (by decide) (fun _ => ?_) (fun h => absurd rfl h)
  exact kk _ _ _ _ (v1.lo n2) v2 hw
theorem lw_c5 (F : lw_fx p s m c b L xs adr ca D) (hL : L ≤ 3072) (hi : i + 6 ≤ L) (hl : lv_has ls 4 (lw_lv b adr i)) (hx0 : vwX w σ) (hm0 : vwM w σ) (hw : lw_st s adr ca D σ H locs) (kk : lw_kk p l e s m below meth c adr ca D b ls Q) : W p l e room_1 s m #[Value.ref b] below meth c H locs 600000 7302249 Q (F0 m 363 ls []) := by
  obtain ⟨hx, hb, hml, hown, hts, -⟩ := id F
  have hsz := hl.1
  refine lv_aload_n hx hb dL_law_363 rfl (lv_at hl 1 rfl) ?_
  obtain ⟨σ1, c1, v1, n1⟩ := X_read (d := 16)  hx0
  refine lw_virt F (h := 0) (As := []) (rest := []) mk_X6_read (mx_at 285 (by decide +kernel)) rfl (by decide) (Nat.le_of_ble_eq_true rfl) (by decide) c1 dL_law_364 hsz rfl hw (fun H locs hw => ?_)
  have hm1 := hm0.hi n1
  refine lv_aload_n hx hb dL_law_367 rfl (lv_at hl 2 rfl) ?_
  obtain ⟨σ2, c2, v2, n2⟩ := M_read (d := 12)  hm1
  refine lw_virt F (h := 88) (As := []) (rest := [.int _]) mk_X7_read (mx_at 776 (by decide +kernel)) rfl (by decide) (Nat.le_of_ble_eq_true rfl) (by decide) c2 dL_law_368 hsz rfl hw (fun H locs hw => ?_)
  refine lv_icmp_eq (tgt := 1292) hx hb dL_law_371 (by decide) (fun _ => ?_) (fun h => absurd rfl h)
  exact kk _ _ _ _ (v1.lo n2) v2 hw
theorem lw_c6 (F : lw_fx p s m c b L xs adr ca D) (hL : L ≤ 3072) (hi : i + 6 ≤ L) (hl : lv_has ls 4 (lw_lv b adr i)) (hx0 : vwX w σ) (hm0 : vwM w σ) (hw : lw_st s adr ca D σ H locs) (kk : lw_kk p l e s m below meth c adr ca D b ls Q) : W p l e room_1 s m #[Value.ref b] below meth c H locs 600000 7302249 Q (F0 m 376 ls []) := by
  obtain ⟨hx, hb, hml, hown, hts, -⟩ := id F
  have hsz := hl.1
  refine lv_aload_n hx hb dL_law_376 rfl (lv_at hl 1 rfl) ?_
  refine lw_arg F hL hi hl (k := 1) (by decide) rfl hw.2.2 dL_law_377 dL_law_378 dL_law_379 dL_law_380 dL_law_381 ?_
  obtain ⟨σ1, c1, v1, n1⟩ := X_plan (d := 16) (a := (xs (i + 1))) hx0
  refine lw_virt F (h := 0) (As := [.int (xs (i + 1))]) (rest := []) mk_X6_plan (mx_at 312 (by decide +kernel)) rfl (by decide) (Nat.le_of_ble_eq_true rfl) (by decide) c1 dL_law_382 hsz rfl hw (fun H locs hw => ?_)
  have hm1 := hm0.hi n1
  refine lv_aload_n hx hb dL_law_385 rfl (lv_at hl 2 rfl) ?_
  refine lw_arg F hL hi hl (k := 1) (by decide) rfl hw.2.2 dL_law_386 dL_law_387 dL_law_388 dL_law_389 dL_law_390 ?_
  obtain ⟨σ2, c2, v2, n2⟩ := M_plan (d := 15) (a := (xs (i + 1))) hm1
  refine lw_virt F (h := 88) (As := [.int (xs (i + 1))]) (rest := [.int _]) mk_X7_plan (mx_at 814 (by decide +kernel)) rfl (by decide) (Nat.le_of_ble_eq_true rfl) (by decide) c2 dL_law_391 hsz rfl hw (fun H locs hw => ?_)
  refine lv_icmp_eq (tgt := 1292) hx hb dL_law_394 (by decide) (fun _ => ?_) (fun h => absurd rfl h)
  exact kk _ _ _ _ (v1.lo n2) v2 hw
theorem lw_c7 (F : lw_fx p s m c b L xs adr ca D) (hL : L ≤ 3072) (hi : i + 6 ≤ L) (hl : lv_has ls 4 (lw_lv b adr i)) (hx0 : vwX w σ) (hm0 : vwM w σ) (hw : lw_st s adr ca D σ H locs) (kk : lw_kk p l e s m below meth c adr ca D b ls Q) : W p l e room_1 s m #[Value.ref b] below meth c H locs 600000 7302249 Q (F0 m 399 ls []) := by
  obtain ⟨hx, hb, hml, hown, hts, -⟩ := id F
  have hsz := hl.1
  refine lv_aload_n hx hb dL_law_399 rfl (lv_at hl 1 rfl) ?_
  refine lw_arg F hL hi hl (k := 1) (by decide) rfl hw.2.2 dL_law_400 dL_law_401 dL_law_402 dL_law_403 dL_law_404 ?_
  refine lw_arg F hL hi hl (k := 2) (by decide) rfl hw.2.2 dL_law_405 dL_law_406 dL_law_407 dL_law_408 dL_law_409 ?_
  obtain ⟨σ1, c1, v1, n1⟩ := X_move (d := 17) (a := (xs (i + 1))) (b := (xs (i + 2))) hx0
  refine lw_virt F (h := 0) (As := [.int (xs (i + 1)), .int (xs (i + 2))]) (rest := []) mk_X6_move (mx_at 328 (by decide +kernel)) rfl (by decide) (Nat.le_of_ble_eq_true rfl) (by decide) c1 dL_law_410 hsz rfl hw (fun H locs hw => ?_)
  have hm1 := hm0.hi n1
  refine lv_aload_n hx hb dL_law_413 rfl (lv_at hl 2 rfl) ?_
  refine lw_arg F hL hi hl (k := 1) (by decide) rfl hw.2.2 dL_law_414 dL_law_415 dL_law_416 dL_law_417 dL_law_418 ?_
  refine lw_arg F hL hi hl (k := 2) (by decide) rfl hw.2.2 dL_law_419 dL_law_420 dL_law_421 dL_law_422 dL_law_423 ?_
  obtain ⟨σ2, c2, v2, n2⟩ := M_move (d := 17) (a := (xs (i + 1))) (b := (xs (i + 2))) hm1
  refine lw_virt F (h := 88) (As := [.int (xs (i + 1)), .int (xs (i + 2))]) (rest := [.int _]) mk_X7_move (mx_at 831 (by decide +kernel)) rfl (by decide) (Nat.le_of_ble_eq_true rfl) (by decide) c2 dL_law_424 hsz rfl hw (fun H locs hw => ?_)
  refine lv_icmp_eq (tgt := 1292) hx hb dL_law_427 (by decide) (fun _ => ?_) (fun h => absurd rfl h)
  exact kk _ _ _ _ (v1.lo n2) v2 hw
theorem lw_c8 (F : lw_fx p s m c b L xs adr ca D) (hL : L ≤ 3072) (hi : i + 6 ≤ L) (hl : lv_has ls 4 (lw_lv b adr i)) (hx0 : vwX w σ) (hm0 : vwM w σ) (hw : lw_st s adr ca D σ H locs) (kk : lw_kk p l e s m below meth c adr ca D b ls Q) : W p l e room_1 s m #[Value.ref b] below meth c H locs 600000 7302249 Q (F0 m 432 ls []) := by
  obtain ⟨hx, hb, hml, hown, hts, -⟩ := id F
  have hsz := hl.1
  refine lv_aload_n hx hb dL_law_432 rfl (lv_at hl 1 rfl) ?_
  refine lw_arg F hL hi hl (k := 1) (by decide) rfl hw.2.2 dL_law_433 dL_law_434 dL_law_435 dL_law_436 dL_law_437 ?_
  obtain ⟨σ1, c1, v1, n1⟩ := X_swap (d := 17) (a := (xs (i + 1))) hx0
  refine lw_virt F (h := 0) (As := [.int (xs (i + 1))]) (rest := []) mk_X6_swap (mx_at 337 (by decide +kernel)) rfl (by decide) (Nat.le_of_ble_eq_true rfl) (by decide) c1 dL_law_438 hsz rfl hw (fun H locs hw => ?_)
  have hm1 := hm0.hi n1
  refine lv_aload_n hx hb dL_law_441 rfl (lv_at hl 2 rfl) ?_
  refine lw_arg F hL hi hl (k := 1) (by decide) rfl hw.2.2 dL_law_442 dL_law_443 dL_law_444 dL_law_445 dL_law_446 ?_
  obtain ⟨σ2, c2, v2, n2⟩ := M_swap (d := 18) (a := (xs (i + 1))) hm1
  refine lw_virt F (h := 88) (As := [.int (xs (i + 1))]) (rest := [.int _]) mk_X7_swap (mx_at 838 (by decide +kernel)) rfl (by decide) (Nat.le_of_ble_eq_true rfl) (by decide) c2 dL_law_447 hsz rfl hw (fun H locs hw => ?_)
  refine lv_icmp_eq (tgt := 1292) hx hb dL_law_450 (by decide) (fun _ => ?_) (fun h => absurd rfl h)
  exact kk _ _ _ _ (v1.lo n2) v2 hw
theorem lw_c9 (F : lw_fx p s m c b L xs adr ca D) (hL : L ≤ 3072) (hi : i + 6 ≤ L) (hl : lv_has ls 4 (lw_lv b adr i)) (hx0 : vwX w σ) (hm0 : vwM w σ) (hw : lw_st s adr ca D σ H locs) (kk : lw_kk p l e s m below meth c adr ca D b ls Q) : W p l e room_1 s m #[Value.ref b] below meth c H locs 600000 7302249 Q (F0 m 455 ls []) := by
  obtain ⟨hx, hb, hml, hown, hts, -⟩ := id F
  have hsz := hl.1
  refine lv_aload_n hx hb dL_law_455 rfl (lv_at hl 1 rfl) ?_
  refine lw_arg F hL hi hl (k := 1) (by decide) rfl hw.2.2 dL_law_456 dL_law_457 dL_law_458 dL_law_459 dL_law_460 ?_
  refine lw_arg F hL hi hl (k := 2) (by decide) rfl hw.2.2 dL_law_461 dL_law_462 dL_law_463 dL_law_464 dL_law_465 ?_
  obtain ⟨σ1, c1, v1, n1⟩ := X_step (d := 15) (a := (xs (i + 1))) (b := (xs (i + 2))) hx0
  refine lw_virt F (h := 0) (As := [.int (xs (i + 1)), .int (xs (i + 2))]) (rest := []) mk_X6_step (mx_at 345 (by decide +kernel)) rfl (by decide) (Nat.le_of_ble_eq_true rfl) (by decide) c1 dL_law_466 hsz rfl hw (fun H locs hw => ?_)
  have hm1 := hm0.hi n1
  refine lv_aload_n hx hb dL_law_469 rfl (lv_at hl 2 rfl) ?_
  refine lw_arg F hL hi hl (k := 1) (by decide) rfl hw.2.2 dL_law_470 dL_law_471 dL_law_472 dL_law_473 dL_law_474 ?_
  refine lw_arg F hL hi hl (k := 2) (by decide) rfl hw.2.2 dL_law_475 dL_law_476 dL_law_477 dL_law_478 dL_law_479 ?_
  obtain ⟨σ2, c2, v2, n2⟩ := M_step (d := 14) (a := (xs (i + 1))) (b := (xs (i + 2))) hm1
  refine lw_virt F (h := 88) (As := [.int (xs (i + 1)), .int (xs (i + 2))]) (rest := [.int _]) mk_X7_step (mx_at 846 (by decide +kernel)) rfl (by decide) (Nat.le_of_ble_eq_true rfl) (by decide) c2 dL_law_480 hsz rfl hw (fun H locs hw => ?_)
  refine lv_icmp_eq (tgt := 1292) hx hb dL_law_483 (by decide) (fun _ => ?_) (fun h => absurd rfl h)
  exact kk _ _ _ _ (v1.lo n2) v2 hw
theorem lw_c10 (F : lw_fx p s m c b L xs adr ca D) (hL : L ≤ 3072) (hi : i + 6 ≤ L) (hl : lv_has ls 4 (lw_lv b adr i)) (hx0 : vwX w σ) (hm0 : vwM w σ) (hw : lw_st s adr ca D σ H locs) (kk : lw_kk p l e s m below meth c adr ca D b ls Q) : W p l e room_1 s m #[Value.ref b] below meth c H locs 600000 7302249 Q (F0 m 488 ls []) := by
  obtain ⟨hx, hb, hml, hown, hts, -⟩ := id F
  have hsz := hl.1
  refine lv_aload_n hx hb dL_law_488 rfl (lv_at hl 1 rfl) ?_
  refine lw_arg F hL hi hl (k := 1) (by decide) rfl hw.2.2 dL_law_489 dL_law_490 dL_law_491 dL_law_492 dL_law_493 ?_
  have c1 := X_at (d := 18) (x := (xs (i + 1))) hx0
  refine lw_virt F (h := 0) (As := [.int (xs (i + 1))]) (rest := []) mk_X6_at (mx_at 384 (by decide +kernel)) rfl (by decide) (Nat.le_of_ble_eq_true rfl) (by decide) c1 dL_law_494 hsz rfl hw (fun H locs hw => ?_)
  have hm1 := hm0
  refine lv_aload_n hx hb dL_law_497 rfl (lv_at hl 2 rfl) ?_
  refine lw_arg F hL hi hl (k := 1) (by decide) rfl hw.2.2 dL_law_498 dL_law_499 dL_law_500 dL_law_501 dL_law_502 ?_
  have c2 := M_at (d := 17) (x := (xs (i + 1))) hm1
  refine lw_virt F (h := 88) (As := [.int (xs (i + 1))]) (rest := [.int _]) mk_X7_at (mx_at 880 (by decide +kernel)) rfl (by decide) (Nat.le_of_ble_eq_true rfl) (by decide) c2 dL_law_503 hsz rfl hw (fun H locs hw => ?_)
  refine lv_icmp_eq (tgt := 1292) hx hb dL_law_506 (by decide) (fun _ => ?_) (fun h => absurd rfl h)
  exact kk _ _ _ _ hx0 hm1 hw
theorem lw_c11 (F : lw_fx p s m c b L xs adr ca D) (hL : L ≤ 3072) (hi : i + 6 ≤ L) (hl : lv_has ls 4 (lw_lv b adr i)) (hx0 : vwX w σ) (hm0 : vwM w σ) (hw : lw_st s adr ca D σ H locs) (kk : lw_kk p l e s m below meth c adr ca D b ls Q) : W p l e room_1 s m #[Value.ref b] below meth c H locs 600000 7302249 Q (F0 m 511 ls []) := by
  obtain ⟨hx, hb, hml, hown, hts, -⟩ := id F
  have hsz := hl.1
  refine lv_aload_n hx hb dL_law_511 rfl (lv_at hl 1 rfl) ?_
  refine lw_arg F hL hi hl (k := 1) (by decide) rfl hw.2.2 dL_law_512 dL_law_513 dL_law_514 dL_law_515 dL_law_516 ?_
  refine lw_arg F hL hi hl (k := 2) (by decide) rfl hw.2.2 dL_law_517 dL_law_518 dL_law_519 dL_law_520 dL_law_521 ?_
  obtain ⟨σ1, c1, v1, n1⟩ := X_time (d := 17) (a := (xs (i + 1))) (b := (xs (i + 2))) hx0
  refine lw_virt F (h := 0) (As := [.int (xs (i + 1)), .int (xs (i + 2))]) (rest := []) mk_X6_time (mx_at 388 (by decide +kernel)) rfl (by decide) (Nat.le_of_ble_eq_true rfl) (by decide) c1 dL_law_522 hsz rfl hw (fun H locs hw => ?_)
  have hm1 := hm0.hi n1
  refine lv_aload_n hx hb dL_law_525 rfl (lv_at hl 2 rfl) ?_
  refine lw_arg F hL hi hl (k := 1) (by decide) rfl hw.2.2 dL_law_526 dL_law_527 dL_law_528 dL_law_529 dL_law_530 ?_
  refine lw_arg F hL hi hl (k := 2) (by decide) rfl hw.2.2 dL_law_531 dL_law_532 dL_law_533 dL_law_534 dL_law_535 ?_
  obtain ⟨σ2, c2, v2, n2⟩ := M_time (d := 17) (a := (xs (i + 1))) (b := (xs (i + 2))) hm1
  refine lw_virt F (h := 88) (As := [.int (xs (i + 1)), .int (xs (i + 2))]) (rest := [.long _]) mk_X7_time (mx_at 884 (by decide +kernel)) rfl (by decide) (Nat.le_of_ble_eq_true rfl) (by decide) c2 dL_law_536 hsz rfl hw (fun H locs hw => ?_)
  refine W.lcmp hx hb dL_law_539 ?_
  refine lv_if_eq (tgt := 1292) hx hb dL_law_540 (by decide) (fun _ => ?_) (fun h => absurd (lw_cmp0 _) h)
  exact kk _ _ _ _ (v1.lo n2) v2 hw
theorem lw_c12 (F : lw_fx p s m c b L xs adr ca D) (hL : L ≤ 3072) (hi : i + 6 ≤ L) (hl : lv_has ls 4 (lw_lv b adr i)) (hx0 : vwX w σ) (hm0 : vwM w σ) (hw : lw_st s adr ca D σ H locs) (kk : lw_kk p l e s m below meth c adr ca D b ls Q) : W p l e room_1 s m #[Value.ref b] below meth c H locs 600000 7302249 Q (F0 m 545 ls []) := by
  obtain ⟨hx, hb, hml, hown, hts, -⟩ := id F
  have hsz := hl.1
  refine lv_aload_n hx hb dL_law_545 rfl (lv_at hl 1 rfl) ?_
  refine lw_arg F hL hi hl (k := 1) (by decide) rfl hw.2.2 dL_law_546 dL_law_547 dL_law_548 dL_law_549 dL_law_550 ?_
  obtain ⟨σ1, c1, v1, n1⟩ := X_told (d := 14) (x := (xs (i + 1))) hx0
  refine lw_virt F (h := 0) (As := [.int (xs (i + 1))]) (rest := []) mk_X6_told (mx_at 401 (by decide +kernel)) rfl (by decide) (Nat.le_of_ble_eq_true rfl) (by decide) c1 dL_law_551 hsz rfl hw (fun H locs hw => ?_)
  have hm1 := hm0.hi n1
  refine lv_aload_n hx hb dL_law_554 rfl (lv_at hl 2 rfl) ?_
  refine lw_arg F hL hi hl (k := 1) (by decide) rfl hw.2.2 dL_law_555 dL_law_556 dL_law_557 dL_law_558 dL_law_559 ?_
  obtain ⟨σ2, c2, v2, n2⟩ := M_told (d := 14) (x := (xs (i + 1))) hm1
  refine lw_virt F (h := 88) (As := [.int (xs (i + 1))]) (rest := [.long _]) mk_X7_told (mx_at 889 (by decide +kernel)) rfl (by decide) (Nat.le_of_ble_eq_true rfl) (by decide) c2 dL_law_560 hsz rfl hw (fun H locs hw => ?_)
  refine W.lcmp hx hb dL_law_563 ?_
  refine lv_if_eq (tgt := 1292) hx hb dL_law_564 (by decide) (fun _ => ?_) (fun h => absurd (lw_cmp0 _) h)
  exact kk _ _ _ _ (v1.lo n2) v2 hw
theorem lw_c13 (F : lw_fx p s m c b L xs adr ca D) (hL : L ≤ 3072) (hi : i + 6 ≤ L) (hl : lv_has ls 4 (lw_lv b adr i)) (hx0 : vwX w σ) (hm0 : vwM w σ) (hw : lw_st s adr ca D σ H locs) (kk : lw_kk p l e s m below meth c adr ca D b ls Q) : W p l e room_1 s m #[Value.ref b] below meth c H locs 600000 7302249 Q (F0 m 569 ls []) := by
  obtain ⟨hx, hb, hml, hown, hts, -⟩ := id F
  have hsz := hl.1
  refine lv_aload_n hx hb dL_law_569 rfl (lv_at hl 1 rfl) ?_
  refine lw_arg F hL hi hl (k := 1) (by decide) rfl hw.2.2 dL_law_570 dL_law_571 dL_law_572 dL_law_573 dL_law_574 ?_
  obtain ⟨σ1, c1, v1, n1⟩ := X_would (d := 16) (a := (xs (i + 1))) hx0
  refine lw_virt F (h := 0) (As := [.int (xs (i + 1))]) (rest := []) mk_X6_would (mx_at 438 (by decide +kernel)) rfl (by decide) (Nat.le_of_ble_eq_true rfl) (by decide) c1 dL_law_575 hsz rfl hw (fun H locs hw => ?_)
  have hm1 := hm0.hi n1
  refine lv_aload_n hx hb dL_law_578 rfl (lv_at hl 2 rfl) ?_
  refine lw_arg F hL hi hl (k := 1) (by decide) rfl hw.2.2 dL_law_579 dL_law_580 dL_law_581 dL_law_582 dL_law_583 ?_
  obtain ⟨σ2, c2, v2, n2⟩ := M_would (d := 15) (a := (xs (i + 1))) hm1
  refine lw_virt F (h := 88) (As := [.int (xs (i + 1))]) (rest := [.long _]) mk_X7_would (mx_at 925 (by decide +kernel)) rfl (by decide) (Nat.le_of_ble_eq_true rfl) (by decide) c2 dL_law_584 hsz rfl hw (fun H locs hw => ?_)
  refine W.lcmp hx hb dL_law_587 ?_
  refine lv_if_eq (tgt := 1292) hx hb dL_law_588 (by decide) (fun _ => ?_) (fun h => absurd (lw_cmp0 _) h)
  exact kk _ _ _ _ (v1.lo n2) v2 hw
theorem lw_c14 (F : lw_fx p s m c b L xs adr ca D) (hL : L ≤ 3072) (hi : i + 6 ≤ L) (hl : lv_has ls 4 (lw_lv b adr i)) (hx0 : vwX w σ) (hm0 : vwM w σ) (hw : lw_st s adr ca D σ H locs) (kk : lw_kk p l e s m below meth c adr ca D b ls Q) : W p l e room_1 s m #[Value.ref b] below meth c H locs 600000 7302249 Q (F0 m 593 ls []) := by
  obtain ⟨hx, hb, hml, hown, hts, -⟩ := id F
  have hsz := hl.1
  refine lv_aload_n hx hb dL_law_593 rfl (lv_at hl 1 rfl) ?_
  refine lw_arg F hL hi hl (k := 1) (by decide) rfl hw.2.2 dL_law_594 dL_law_595 dL_law_596 dL_law_597 dL_law_598 ?_
  refine lw_arg F hL hi hl (k := 2) (by decide) rfl hw.2.2 dL_law_599 dL_law_600 dL_law_601 dL_law_602 dL_law_603 ?_
  obtain ⟨σ1, c1, v1, n1⟩ := X_ruled (d := 16) (a := (xs (i + 1))) (b := (xs (i + 2))) hx0
  refine lw_virt F (h := 0) (As := [.int (xs (i + 1)), .int (xs (i + 2))]) (rest := []) mk_X6_ruled (mx_at 442 (by decide +kernel)) rfl (by decide) (Nat.le_of_ble_eq_true rfl) (by decide) c1 dL_law_604 hsz rfl hw (fun H locs hw => ?_)
  have hm1 := hm0.hi n1
  refine lv_aload_n hx hb dL_law_607 rfl (lv_at hl 2 rfl) ?_
  refine lw_arg F hL hi hl (k := 1) (by decide) rfl hw.2.2 dL_law_608 dL_law_609 dL_law_610 dL_law_611 dL_law_612 ?_
  refine lw_arg F hL hi hl (k := 2) (by decide) rfl hw.2.2 dL_law_613 dL_law_614 dL_law_615 dL_law_616 dL_law_617 ?_
  obtain ⟨σ2, c2, v2, n2⟩ := M_ruled (d := 15) (a := (xs (i + 1))) (b := (xs (i + 2))) hm1
  refine lw_virt F (h := 88) (As := [.int (xs (i + 1)), .int (xs (i + 2))]) (rest := [.int _]) mk_X7_ruled (mx_at 929 (by decide +kernel)) rfl (by decide) (Nat.le_of_ble_eq_true rfl) (by decide) c2 dL_law_618 hsz rfl hw (fun H locs hw => ?_)
  refine lv_icmp_eq (tgt := 1292) hx hb dL_law_621 (by decide) (fun _ => ?_) (fun h => absurd rfl h)
  exact kk _ _ _ _ (v1.lo n2) v2 hw
theorem lw_c15 (F : lw_fx p s m c b L xs adr ca D) (hL : L ≤ 3072) (hi : i + 6 ≤ L) (hl : lv_has ls 4 (lw_lv b adr i)) (hx0 : vwX w σ) (hm0 : vwM w σ) (hw : lw_st s adr ca D σ H locs) (kk : lw_kk p l e s m below meth c adr ca D b ls Q) : W p l e room_1 s m #[Value.ref b] below meth c H locs 600000 7302249 Q (F0 m 626 ls []) := by
  obtain ⟨hx, hb, hml, hown, hts, -⟩ := id F
  have hsz := hl.1
  refine lv_aload_n hx hb dL_law_626 rfl (lv_at hl 1 rfl) ?_
  refine lw_arg F hL hi hl (k := 1) (by decide) rfl hw.2.2 dL_law_627 dL_law_628 dL_law_629 dL_law_630 dL_law_631 ?_
  refine lw_arg F hL hi hl (k := 2) (by decide) rfl hw.2.2 dL_law_632 dL_law_633 dL_law_634 dL_law_635 dL_law_636 ?_
  refine lw_arg F hL hi hl (k := 3) (by decide) rfl hw.2.2 dL_law_637 dL_law_638 dL_law_639 dL_law_640 dL_law_641 ?_
  obtain ⟨σ1, c1, v1, n1⟩ := X_cost (d := 16) (x := (xs (i + 1))) (m := (xs (i + 2))) (a := (xs (i + 3))) hx0
  refine lw_virt F (h := 0) (As := [.int (xs (i + 1)), .int (xs (i + 2)), .int (xs (i + 3))]) (rest := []) mk_X6_cost (mx_at 446 (by decide +kernel)) rfl (by decide) (Nat.le_of_ble_eq_true rfl) (by decide) c1 dL_law_642 hsz rfl hw (fun H locs hw => ?_)
  have hm1 := hm0.hi n1
  refine lv_aload_n hx hb dL_law_645 rfl (lv_at hl 2 rfl) ?_
  refine lw_arg F hL hi hl (k := 1) (by decide) rfl hw.2.2 dL_law_646 dL_law_647 dL_law_648 dL_law_649 dL_law_650 ?_
  refine lw_arg F hL hi hl (k := 2) (by decide) rfl hw.2.2 dL_law_651 dL_law_652 dL_law_653 dL_law_654 dL_law_655 ?_
  refine lw_arg F hL hi hl (k := 3) (by decide) rfl hw.2.2 dL_law_656 dL_law_657 dL_law_658 dL_law_659 dL_law_660 ?_
  obtain ⟨σ2, c2, v2, n2⟩ := M_cost (d := 15) (x := (xs (i + 1))) (m := (xs (i + 2))) (a := (xs (i + 3))) hm1
  refine lw_virt F (h := 88) (As := [.int (xs (i + 1)), .int (xs (i + 2)), .int (xs (i + 3))]) (rest := [.long _]) mk_X7_cost (mx_at 933 (by decide +kernel)) rfl (by decide) (Nat.le_of_ble_eq_true rfl) (by decide) c2 dL_law_661 hsz rfl hw (fun H locs hw => ?_)
  refine W.lcmp hx hb dL_law_664 ?_
  refine lv_if_eq (tgt := 1292) hx hb dL_law_665 (by decide) (fun _ => ?_) (fun h => absurd (lw_cmp0 _) h)
  exact kk _ _ _ _ (v1.lo n2) v2 hw
theorem lw_c16 (F : lw_fx p s m c b L xs adr ca D) (hL : L ≤ 3072) (hi : i + 6 ≤ L) (hl : lv_has ls 4 (lw_lv b adr i)) (hx0 : vwX w σ) (hm0 : vwM w σ) (hw : lw_st s adr ca D σ H locs) (kk : lw_kk p l e s m below meth c adr ca D b ls Q) : W p l e room_1 s m #[Value.ref b] below meth c H locs 600000 7302249 Q (F0 m 670 ls []) := by
  obtain ⟨hx, hb, hml, hown, hts, -⟩ := id F
  have hsz := hl.1
  refine lv_aload_n hx hb dL_law_670 rfl (lv_at hl 1 rfl) ?_
  refine lw_arg F hL hi hl (k := 1) (by decide) rfl hw.2.2 dL_law_671 dL_law_672 dL_law_673 dL_law_674 dL_law_675 ?_
  refine lw_arg F hL hi hl (k := 2) (by decide) rfl hw.2.2 dL_law_676 dL_law_677 dL_law_678 dL_law_679 dL_law_680 ?_
  obtain ⟨σ1, c1, v1, n1⟩ := X_least (d := 10) (m := (xs (i + 1))) (a := (xs (i + 2))) hx0
  refine lw_virt F (h := 0) (As := [.int (xs (i + 1)), .int (xs (i + 2))]) (rest := []) mk_X6_least (mx_at 453 (by decide +kernel)) rfl (by decide) (Nat.le_of_ble_eq_true rfl) (by decide) c1 dL_law_681 hsz rfl hw (fun H locs hw => ?_)
  have hm1 := hm0.hi n1
  refine lv_aload_n hx hb dL_law_684 rfl (lv_at hl 2 rfl) ?_
  refine lw_arg F hL hi hl (k := 1) (by decide) rfl hw.2.2 dL_law_685 dL_law_686 dL_law_687 dL_law_688 dL_law_689 ?_
  refine lw_arg F hL hi hl (k := 2) (by decide) rfl hw.2.2 dL_law_690 dL_law_691 dL_law_692 dL_law_693 dL_law_694 ?_
  obtain ⟨σ2, c2, v2, n2⟩ := M_least (d := 15) (m := (xs (i + 1))) (a := (xs (i + 2))) hm1
  refine lw_virt F (h := 88) (As := [.int (xs (i + 1)), .int (xs (i + 2))]) (rest := [.long _]) mk_X7_least (mx_at 937 (by decide +kernel)) rfl (by decide) (Nat.le_of_ble_eq_true rfl) (by decide) c2 dL_law_695 hsz rfl hw (fun H locs hw => ?_)
  refine W.lcmp hx hb dL_law_698 ?_
  refine lv_if_eq (tgt := 1292) hx hb dL_law_699 (by decide) (fun _ => ?_) (fun h => absurd (lw_cmp0 _) h)
  exact kk _ _ _ _ (v1.lo n2) v2 hw
theorem lw_c17 (F : lw_fx p s m c b L xs adr ca D) (hL : L ≤ 3072) (hi : i + 6 ≤ L) (hl : lv_has ls 4 (lw_lv b adr i)) (hx0 : vwX w σ) (hm0 : vwM w σ) (hw : lw_st s adr ca D σ H locs) (kk : lw_kk p l e s m below meth c adr ca D b ls Q) : W p l e room_1 s m #[Value.ref b] below meth c H locs 600000 7302249 Q (F0 m 704 ls []) := by
  obtain ⟨hx, hb, hml, hown, hts, -⟩ := id F
  have hsz := hl.1
  refine lv_aload_n hx hb dL_law_704 rfl (lv_at hl 1 rfl) ?_
  refine lw_arg F hL hi hl (k := 1) (by decide) rfl hw.2.2 dL_law_705 dL_law_706 dL_law_707 dL_law_708 dL_law_709 ?_
  refine lw_arg F hL hi hl (k := 2) (by decide) rfl hw.2.2 dL_law_710 dL_law_711 dL_law_712 dL_law_713 dL_law_714 ?_
  refine lw_arg F hL hi hl (k := 3) (by decide) rfl hw.2.2 dL_law_715 dL_law_716 dL_law_717 dL_law_718 dL_law_719 ?_
  obtain ⟨σ1, c1, v1, n1⟩ := X_best (d := 10) (m := (xs (i + 1))) (a := (xs (i + 2))) (p := (xs (i + 3))) hx0
  refine lw_virt F (h := 0) (As := [.int (xs (i + 1)), .int (xs (i + 2)), .int (xs (i + 3))]) (rest := []) mk_X6_best (mx_at 473 (by decide +kernel)) rfl (by decide) (Nat.le_of_ble_eq_true rfl) (by decide) c1 dL_law_720 hsz rfl hw (fun H locs hw => ?_)
  have hm1 := hm0.hi n1
  refine lv_aload_n hx hb dL_law_723 rfl (lv_at hl 2 rfl) ?_
  refine lw_arg F hL hi hl (k := 1) (by decide) rfl hw.2.2 dL_law_724 dL_law_725 dL_law_726 dL_law_727 dL_law_728 ?_
  refine lw_arg F hL hi hl (k := 2) (by decide) rfl hw.2.2 dL_law_729 dL_law_730 dL_law_731 dL_law_732 dL_law_733 ?_
  refine lw_arg F hL hi hl (k := 3) (by decide) rfl hw.2.2 dL_law_734 dL_law_735 dL_law_736 dL_law_737 dL_law_738 ?_
  obtain ⟨σ2, c2, v2, n2⟩ := M_best (d := 15) (m := (xs (i + 1))) (a := (xs (i + 2))) (p := (xs (i + 3))) hm1
  refine lw_virt F (h := 88) (As := [.int (xs (i + 1)), .int (xs (i + 2)), .int (xs (i + 3))]) (rest := [.int _]) mk_X7_best (mx_at 952 (by decide +kernel)) rfl (by decide) (Nat.le_of_ble_eq_true rfl) (by decide) c2 dL_law_739 hsz rfl hw (fun H locs hw => ?_)
  refine lv_icmp_eq (tgt := 1292) hx hb dL_law_742 (by decide) (fun _ => ?_) (fun h => absurd rfl h)
  exact kk _ _ _ _ (v1.lo n2) v2 hw
theorem lw_c18 (F : lw_fx p s m c b L xs adr ca D) (hL : L ≤ 3072) (hi : i + 6 ≤ L) (hl : lv_has ls 4 (lw_lv b adr i)) (hx0 : vwX w σ) (hm0 : vwM w σ) (hw : lw_st s adr ca D σ H locs) (kk : lw_kk p l e s m below meth c adr ca D b ls Q) : W p l e room_1 s m #[Value.ref b] below meth c H locs 600000 7302249 Q (F0 m 747 ls []) := by
  obtain ⟨hx, hb, hml, hown, hts, -⟩ := id F
  have hsz := hl.1
  refine lv_aload_n hx hb dL_law_747 rfl (lv_at hl 1 rfl) ?_
  refine lw_arg F hL hi hl (k := 1) (by decide) rfl hw.2.2 dL_law_748 dL_law_749 dL_law_750 dL_law_751 dL_law_752 ?_
  obtain ⟨σ1, c1, v1, n1⟩ := X_slack (d := 16) (a := (xs (i + 1))) hx0
  refine lw_virt F (h := 0) (As := [.int (xs (i + 1))]) (rest := []) mk_X6_slack (mx_at 477 (by decide +kernel)) rfl (by decide) (Nat.le_of_ble_eq_true rfl) (by decide) c1 dL_law_753 hsz rfl hw (fun H locs hw => ?_)
  have hm1 := hm0.hi n1
  refine lv_aload_n hx hb dL_law_756 rfl (lv_at hl 2 rfl) ?_
  refine lw_arg F hL hi hl (k := 1) (by decide) rfl hw.2.2 dL_law_757 dL_law_758 dL_law_759 dL_law_760 dL_law_761 ?_
  obtain ⟨σ2, c2, v2, n2⟩ := M_slack (d := 15) (a := (xs (i + 1))) hm1
  refine lw_virt F (h := 88) (As := [.int (xs (i + 1))]) (rest := [.int _]) mk_X7_slack (mx_at 956 (by decide +kernel)) rfl (by decide) (Nat.le_of_ble_eq_true rfl) (by decide) c2 dL_law_762 hsz rfl hw (fun H locs hw => ?_)
  refine lv_icmp_eq (tgt := 1292) hx hb dL_law_765 (by decide) (fun _ => ?_) (fun h => absurd rfl h)
  exact kk _ _ _ _ (v1.lo n2) v2 hw
theorem lw_c19 (F : lw_fx p s m c b L xs adr ca D) (hL : L ≤ 3072) (hi : i + 6 ≤ L) (hl : lv_has ls 4 (lw_lv b adr i)) (hx0 : vwX w σ) (hm0 : vwM w σ) (hw : lw_st s adr ca D σ H locs) (kk : lw_kk p l e s m below meth c adr ca D b ls Q) : W p l e room_1 s m #[Value.ref b] below meth c H locs 600000 7302249 Q (F0 m 770 ls []) := by
  obtain ⟨hx, hb, hml, hown, hts, -⟩ := id F
  have hsz := hl.1
  refine lv_aload_n hx hb dL_law_770 rfl (lv_at hl 1 rfl) ?_
  refine lw_arg F hL hi hl (k := 1) (by decide) rfl hw.2.2 dL_law_771 dL_law_772 dL_law_773 dL_law_774 dL_law_775 ?_
  refine lw_arg F hL hi hl (k := 2) (by decide) rfl hw.2.2 dL_law_776 dL_law_777 dL_law_778 dL_law_779 dL_law_780 ?_
  obtain ⟨σ1, c1, v1, n1⟩ := X_see (d := 17) (a := (xs (i + 1))) (b := (xs (i + 2))) hx0
  refine lw_virt F (h := 0) (As := [.int (xs (i + 1)), .int (xs (i + 2))]) (rest := []) mk_X6_see (mx_at 491 (by decide +kernel)) rfl (by decide) (Nat.le_of_ble_eq_true rfl) (by decide) c1 dL_law_781 hsz rfl hw (fun H locs hw => ?_)
  have hm1 := hm0.hi n1
  refine lv_aload_n hx hb dL_law_784 rfl (lv_at hl 2 rfl) ?_
  refine lw_arg F hL hi hl (k := 1) (by decide) rfl hw.2.2 dL_law_785 dL_law_786 dL_law_787 dL_law_788 dL_law_789 ?_
  refine lw_arg F hL hi hl (k := 2) (by decide) rfl hw.2.2 dL_law_790 dL_law_791 dL_law_792 dL_law_793 dL_law_794 ?_
  obtain ⟨σ2, c2, v2, n2⟩ := M_see (d := 17) (a := (xs (i + 1))) (b := (xs (i + 2))) hm1
  refine lw_virt F (h := 88) (As := [.int (xs (i + 1)), .int (xs (i + 2))]) (rest := [.int _]) mk_X7_see (mx_at 964 (by decide +kernel)) rfl (by decide) (Nat.le_of_ble_eq_true rfl) (by decide) c2 dL_law_795 hsz rfl hw (fun H locs hw => ?_)
  refine lv_icmp_eq (tgt := 1292) hx hb dL_law_798 (by decide) (fun _ => ?_) (fun h => absurd rfl h)
  exact kk _ _ _ _ (v1.lo n2) v2 hw
theorem lw_c20 (F : lw_fx p s m c b L xs adr ca D) (hL : L ≤ 3072) (hi : i + 6 ≤ L) (hl : lv_has ls 4 (lw_lv b adr i)) (hx0 : vwX w σ) (hm0 : vwM w σ) (hw : lw_st s adr ca D σ H locs) (kk : lw_kk p l e s m below meth c adr ca D b ls Q) : W p l e room_1 s m #[Value.ref b] below meth c H locs 600000 7302249 Q (F0 m 803 ls []) := by
  obtain ⟨hx, hb, hml, hown, hts, -⟩ := id F
  have hsz := hl.1
  refine lv_aload_n hx hb dL_law_803 rfl (lv_at hl 1 rfl) ?_
  refine lw_arg F hL hi hl (k := 1) (by decide) rfl hw.2.2 dL_law_804 dL_law_805 dL_law_806 dL_law_807 dL_law_808 ?_
  refine lw_arg F hL hi hl (k := 2) (by decide) rfl hw.2.2 dL_law_809 dL_law_810 dL_law_811 dL_law_812 dL_law_813 ?_
  obtain ⟨σ1, c1, v1, n1⟩ := X_fits (d := 16) (a := (xs (i + 1))) (b := (xs (i + 2))) hx0
  refine lw_virt F (h := 0) (As := [.int (xs (i + 1)), .int (xs (i + 2))]) (rest := []) mk_X6_fits (mx_at 503 (by decide +kernel)) rfl (by decide) (Nat.le_of_ble_eq_true rfl) (by decide) c1 dL_law_814 hsz rfl hw (fun H locs hw => ?_)
  have hm1 := hm0.hi n1
  refine lv_aload_n hx hb dL_law_817 rfl (lv_at hl 2 rfl) ?_
  refine lw_arg F hL hi hl (k := 1) (by decide) rfl hw.2.2 dL_law_818 dL_law_819 dL_law_820 dL_law_821 dL_law_822 ?_
  refine lw_arg F hL hi hl (k := 2) (by decide) rfl hw.2.2 dL_law_823 dL_law_824 dL_law_825 dL_law_826 dL_law_827 ?_
  obtain ⟨σ2, c2, v2, n2⟩ := M_fits (d := 15) (a := (xs (i + 1))) (b := (xs (i + 2))) hm1
  refine lw_virt F (h := 88) (As := [.int (xs (i + 1)), .int (xs (i + 2))]) (rest := [.int _]) mk_X7_fits (mx_at 968 (by decide +kernel)) rfl (by decide) (Nat.le_of_ble_eq_true rfl) (by decide) c2 dL_law_828 hsz rfl hw (fun H locs hw => ?_)
  refine lv_icmp_eq (tgt := 1292) hx hb dL_law_831 (by decide) (fun _ => ?_) (fun h => absurd rfl h)
  exact kk _ _ _ _ (v1.lo n2) v2 hw
theorem lw_c21 (F : lw_fx p s m c b L xs adr ca D) (hL : L ≤ 3072) (hi : i + 6 ≤ L) (hl : lv_has ls 4 (lw_lv b adr i)) (hx0 : vwX w σ) (hm0 : vwM w σ) (hw : lw_st s adr ca D σ H locs) (kk : lw_kk p l e s m below meth c adr ca D b ls Q) : W p l e room_1 s m #[Value.ref b] below meth c H locs 600000 7302249 Q (F0 m 836 ls []) := by
  obtain ⟨hx, hb, hml, hown, hts, -⟩ := id F
  have hsz := hl.1
  refine lv_aload_n hx hb dL_law_836 rfl (lv_at hl 1 rfl) ?_
  refine lw_arg F hL hi hl (k := 1) (by decide) rfl hw.2.2 dL_law_837 dL_law_838 dL_law_839 dL_law_840 dL_law_841 ?_
  refine lw_arg F hL hi hl (k := 2) (by decide) rfl hw.2.2 dL_law_842 dL_law_843 dL_law_844 dL_law_845 dL_law_846 ?_
  obtain ⟨σ1, c1, v1, n1⟩ := X_odds (d := 10) (a := (xs (i + 1))) (b := (xs (i + 2))) hx0
  refine lw_virt F (h := 0) (As := [.int (xs (i + 1)), .int (xs (i + 2))]) (rest := []) mk_X6_odds (mx_at 511 (by decide +kernel)) rfl (by decide) (Nat.le_of_ble_eq_true rfl) (by decide) c1 dL_law_847 hsz rfl hw (fun H locs hw => ?_)
  have hm1 := hm0.hi n1
  refine lv_aload_n hx hb dL_law_850 rfl (lv_at hl 2 rfl) ?_
  refine lw_arg F hL hi hl (k := 1) (by decide) rfl hw.2.2 dL_law_851 dL_law_852 dL_law_853 dL_law_854 dL_law_855 ?_
  refine lw_arg F hL hi hl (k := 2) (by decide) rfl hw.2.2 dL_law_856 dL_law_857 dL_law_858 dL_law_859 dL_law_860 ?_
  obtain ⟨σ2, c2, v2, n2⟩ := M_odds (d := 15) (a := (xs (i + 1))) (b := (xs (i + 2))) hm1
  refine lw_virt F (h := 88) (As := [.int (xs (i + 1)), .int (xs (i + 2))]) (rest := [.long _]) mk_X7_odds (mx_at 980 (by decide +kernel)) rfl (by decide) (Nat.le_of_ble_eq_true rfl) (by decide) c2 dL_law_861 hsz rfl hw (fun H locs hw => ?_)
  refine W.lcmp hx hb dL_law_864 ?_
  refine lv_if_eq (tgt := 1292) hx hb dL_law_865 (by decide) (fun _ => ?_) (fun h => absurd (lw_cmp0 _) h)
  exact kk _ _ _ _ (v1.lo n2) v2 hw
theorem lw_c22 (F : lw_fx p s m c b L xs adr ca D) (hL : L ≤ 3072) (hi : i + 6 ≤ L) (hl : lv_has ls 4 (lw_lv b adr i)) (hx0 : vwX w σ) (hm0 : vwM w σ) (hw : lw_st s adr ca D σ H locs) (kk : lw_kk p l e s m below meth c adr ca D b ls Q) : W p l e room_1 s m #[Value.ref b] below meth c H locs 600000 7302249 Q (F0 m 870 ls []) := by
  obtain ⟨hx, hb, hml, hown, hts, -⟩ := id F
  have hsz := hl.1
  refine lv_aload_n hx hb dL_law_870 rfl (lv_at hl 1 rfl) ?_
  refine lw_arg F hL hi hl (k := 1) (by decide) rfl hw.2.2 dL_law_871 dL_law_872 dL_law_873 dL_law_874 dL_law_875 ?_
  obtain ⟨σ1, c1, v1, n1⟩ := X_mean (d := 17) (a := (xs (i + 1))) hx0
  refine lw_virt F (h := 0) (As := [.int (xs (i + 1))]) (rest := []) mk_X6_mean (mx_at 518 (by decide +kernel)) rfl (by decide) (Nat.le_of_ble_eq_true rfl) (by decide) c1 dL_law_876 hsz rfl hw (fun H locs hw => ?_)
  have hm1 := hm0.hi n1
  refine lv_aload_n hx hb dL_law_879 rfl (lv_at hl 2 rfl) ?_
  refine lw_arg F hL hi hl (k := 1) (by decide) rfl hw.2.2 dL_law_880 dL_law_881 dL_law_882 dL_law_883 dL_law_884 ?_
  obtain ⟨σ2, c2, v2, n2⟩ := M_mean (d := 16) (a := (xs (i + 1))) hm1
  refine lw_virt F (h := 88) (As := [.int (xs (i + 1))]) (rest := [.long _]) mk_X7_mean (mx_at 988 (by decide +kernel)) rfl (by decide) (Nat.le_of_ble_eq_true rfl) (by decide) c2 dL_law_885 hsz rfl hw (fun H locs hw => ?_)
  refine W.lcmp hx hb dL_law_888 ?_
  refine lv_if_eq (tgt := 1292) hx hb dL_law_889 (by decide) (fun _ => ?_) (fun h => absurd (lw_cmp0 _) h)
  exact kk _ _ _ _ (v1.lo n2) v2 hw
theorem lw_c23 (F : lw_fx p s m c b L xs adr ca D) (hL : L ≤ 3072) (hi : i + 6 ≤ L) (hl : lv_has ls 4 (lw_lv b adr i)) (hx0 : vwX w σ) (hm0 : vwM w σ) (hw : lw_st s adr ca D σ H locs) (kk : lw_kk p l e s m below meth c adr ca D b ls Q) : W p l e room_1 s m #[Value.ref b] below meth c H locs 600000 7302249 Q (F0 m 894 ls []) := by
  obtain ⟨hx, hb, hml, hown, hts, -⟩ := id F
  have hsz := hl.1
  refine lv_aload_n hx hb dL_law_894 rfl (lv_at hl 1 rfl) ?_
  refine lw_arg F hL hi hl (k := 1) (by decide) rfl hw.2.2 dL_law_895 dL_law_896 dL_law_897 dL_law_898 dL_law_899 ?_
  refine lw_arg F hL hi hl (k := 2) (by decide) rfl hw.2.2 dL_law_900 dL_law_901 dL_law_902 dL_law_903 dL_law_904 ?_
  obtain ⟨σ1, c1, v1, n1⟩ := X_event (d := 18) (a := (xs (i + 1))) (b := (xs (i + 2))) hx0
  refine lw_virt F (h := 0) (As := [.int (xs (i + 1)), .int (xs (i + 2))]) (rest := []) mk_X6_event (mx_at 522 (by decide +kernel)) rfl (by decide) (Nat.le_of_ble_eq_true rfl) (by decide) c1 dL_law_905 hsz rfl hw (fun H locs hw => ?_)
  have hm1 := hm0.hi n1
  refine lv_aload_n hx hb dL_law_908 rfl (lv_at hl 2 rfl) ?_
  refine lw_arg F hL hi hl (k := 1) (by decide) rfl hw.2.2 dL_law_909 dL_law_910 dL_law_911 dL_law_912 dL_law_913 ?_
  refine lw_arg F hL hi hl (k := 2) (by decide) rfl hw.2.2 dL_law_914 dL_law_915 dL_law_916 dL_law_917 dL_law_918 ?_
  obtain ⟨σ2, c2, v2, n2⟩ := M_event (d := 17) (a := (xs (i + 1))) (b := (xs (i + 2))) hm1
  refine lw_virt F (h := 88) (As := [.int (xs (i + 1)), .int (xs (i + 2))]) (rest := [.int _]) mk_X7_event (mx_at 992 (by decide +kernel)) rfl (by decide) (Nat.le_of_ble_eq_true rfl) (by decide) c2 dL_law_919 hsz rfl hw (fun H locs hw => ?_)
  refine lv_icmp_eq (tgt := 1292) hx hb dL_law_922 (by decide) (fun _ => ?_) (fun h => absurd rfl h)
  exact kk _ _ _ _ (v1.lo n2) v2 hw
theorem lw_c24 (F : lw_fx p s m c b L xs adr ca D) (hL : L ≤ 3072) (hi : i + 6 ≤ L) (hl : lv_has ls 4 (lw_lv b adr i)) (hx0 : vwX w σ) (hm0 : vwM w σ) (hw : lw_st s adr ca D σ H locs) (kk : lw_kk p l e s m below meth c adr ca D b ls Q) : W p l e room_1 s m #[Value.ref b] below meth c H locs 600000 7302249 Q (F0 m 927 ls []) := by
  obtain ⟨hx, hb, hml, hown, hts, -⟩ := id F
  have hsz := hl.1
  refine lv_aload_n hx hb dL_law_927 rfl (lv_at hl 1 rfl) ?_
  refine lw_arg F hL hi hl (k := 1) (by decide) rfl hw.2.2 dL_law_928 dL_law_929 dL_law_930 dL_law_931 dL_law_932 ?_
  obtain ⟨σ1, c1, v1, n1⟩ := X_after (d := 10) (a := (xs (i + 1))) hx0
  refine lw_virt F (h := 0) (As := [.int (xs (i + 1))]) (rest := []) mk_X6_after (mx_at 526 (by decide +kernel)) rfl (by decide) (Nat.le_of_ble_eq_true rfl) (by decide) c1 dL_law_933 hsz rfl hw (fun H locs hw => ?_)
  have hm1 := hm0.hi n1
  refine lv_aload_n hx hb dL_law_936 rfl (lv_at hl 2 rfl) ?_
  refine lw_arg F hL hi hl (k := 1) (by decide) rfl hw.2.2 dL_law_937 dL_law_938 dL_law_939 dL_law_940 dL_law_941 ?_
  obtain ⟨σ2, c2, v2, n2⟩ := M_after (d := 15) (a := (xs (i + 1))) hm1
  refine lw_virt F (h := 88) (As := [.int (xs (i + 1))]) (rest := [.long _]) mk_X7_after (mx_at 996 (by decide +kernel)) rfl (by decide) (Nat.le_of_ble_eq_true rfl) (by decide) c2 dL_law_942 hsz rfl hw (fun H locs hw => ?_)
  refine W.lcmp hx hb dL_law_945 ?_
  refine lv_if_eq (tgt := 1292) hx hb dL_law_946 (by decide) (fun _ => ?_) (fun h => absurd (lw_cmp0 _) h)
  exact kk _ _ _ _ (v1.lo n2) v2 hw
theorem lw_c25 (F : lw_fx p s m c b L xs adr ca D) (hL : L ≤ 3072) (hi : i + 6 ≤ L) (hl : lv_has ls 4 (lw_lv b adr i)) (hx0 : vwX w σ) (hm0 : vwM w σ) (hw : lw_st s adr ca D σ H locs) (kk : lw_kk p l e s m below meth c adr ca D b ls Q) : W p l e room_1 s m #[Value.ref b] below meth c H locs 600000 7302249 Q (F0 m 951 ls []) := by
  obtain ⟨hx, hb, hml, hown, hts, -⟩ := id F
  have hsz := hl.1
  refine lv_aload_n hx hb dL_law_951 rfl (lv_at hl 1 rfl) ?_
  refine lw_arg F hL hi hl (k := 1) (by decide) rfl hw.2.2 dL_law_952 dL_law_953 dL_law_954 dL_law_955 dL_law_956 ?_
  refine lw_arg F hL hi hl (k := 2) (by decide) rfl hw.2.2 dL_law_957 dL_law_958 dL_law_959 dL_law_960 dL_law_961 ?_
  obtain ⟨σ1, c1, v1, n1⟩ := X_book (d := 17) (a := (xs (i + 1))) (b := (xs (i + 2))) hx0
  refine lw_virt F (h := 0) (As := [.int (xs (i + 1)), .int (xs (i + 2))]) (rest := []) mk_X6_book (mx_at 535 (by decide +kernel)) rfl (by decide) (Nat.le_of_ble_eq_true rfl) (by decide) c1 dL_law_962 hsz rfl hw (fun H locs hw => ?_)
  have hm1 := hm0.hi n1
  refine lv_aload_n hx hb dL_law_965 rfl (lv_at hl 2 rfl) ?_
  refine lw_arg F hL hi hl (k := 1) (by decide) rfl hw.2.2 dL_law_966 dL_law_967 dL_law_968 dL_law_969 dL_law_970 ?_
  refine lw_arg F hL hi hl (k := 2) (by decide) rfl hw.2.2 dL_law_971 dL_law_972 dL_law_973 dL_law_974 dL_law_975 ?_
  obtain ⟨σ2, c2, v2, n2⟩ := M_book (d := 17) (a := (xs (i + 1))) (b := (xs (i + 2))) hm1
  refine lw_virt F (h := 88) (As := [.int (xs (i + 1)), .int (xs (i + 2))]) (rest := [.int _]) mk_X7_book (mx_at 1004 (by decide +kernel)) rfl (by decide) (Nat.le_of_ble_eq_true rfl) (by decide) c2 dL_law_976 hsz rfl hw (fun H locs hw => ?_)
  refine lv_icmp_eq (tgt := 1292) hx hb dL_law_979 (by decide) (fun _ => ?_) (fun h => absurd rfl h)
  exact kk _ _ _ _ (v1.lo n2) v2 hw
theorem lw_c26 (F : lw_fx p s m c b L xs adr ca D) (hL : L ≤ 3072) (hi : i + 6 ≤ L) (hl : lv_has ls 4 (lw_lv b adr i)) (hx0 : vwX w σ) (hm0 : vwM w σ) (hw : lw_st s adr ca D σ H locs) (kk : lw_kk p l e s m below meth c adr ca D b ls Q) : W p l e room_1 s m #[Value.ref b] below meth c H locs 600000 7302249 Q (F0 m 984 ls []) := by
  obtain ⟨hx, hb, hml, hown, hts, -⟩ := id F
  have hsz := hl.1
  refine lv_aload_n hx hb dL_law_984 rfl (lv_at hl 1 rfl) ?_
  have c1 := X_looked (d := 17)  hx0
  refine lw_virt F (h := 0) (As := []) (rest := []) mk_X6_looked (mx_at 539 (by decide +kernel)) rfl (by decide) (Nat.le_of_ble_eq_true rfl) (by decide) c1 dL_law_985 hsz rfl hw (fun H locs hw => ?_)
  have hm1 := hm0
  refine lv_aload_n hx hb dL_law_988 rfl (lv_at hl 2 rfl) ?_
  have c2 := M_looked (d := 18)  hm1
  refine lw_virt F (h := 88) (As := []) (rest := [.int _]) mk_X7_looked (mx_at 1008 (by decide +kernel)) rfl (by decide) (Nat.le_of_ble_eq_true rfl) (by decide) c2 dL_law_989 hsz rfl hw (fun H locs hw => ?_)
  refine lv_icmp_eq (tgt := 1292) hx hb dL_law_992 (by decide) (fun _ => ?_) (fun h => absurd rfl h)
  exact kk _ _ _ _ hx0 hm1 hw
theorem lw_c27 (F : lw_fx p s m c b L xs adr ca D) (hL : L ≤ 3072) (hi : i + 6 ≤ L) (hl : lv_has ls 4 (lw_lv b adr i)) (hx0 : vwX w σ) (hm0 : vwM w σ) (hw : lw_st s adr ca D σ H locs) (kk : lw_kk p l e s m below meth c adr ca D b ls Q) : W p l e room_1 s m #[Value.ref b] below meth c H locs 600000 7302249 Q (F0 m 997 ls []) := by
  obtain ⟨hx, hb, hml, hown, hts, -⟩ := id F
  have hsz := hl.1
  refine lv_aload_n hx hb dL_law_997 rfl (lv_at hl 1 rfl) ?_
  refine lw_arg F hL hi hl (k := 1) (by decide) rfl hw.2.2 dL_law_998 dL_law_999 dL_law_1000 dL_law_1001 dL_law_1002 ?_
  refine lw_arg F hL hi hl (k := 2) (by decide) rfl hw.2.2 dL_law_1003 dL_law_1004 dL_law_1005 dL_law_1006 dL_law_1007 ?_
  obtain ⟨σ1, c1, v1, n1⟩ := X_judge (d := 17) (a := (xs (i + 1))) (b := (xs (i + 2))) hx0
  refine lw_virt F (h := 0) (As := [.int (xs (i + 1)), .int (xs (i + 2))]) (rest := []) mk_X6_judge (mx_at 544 (by decide +kernel)) rfl (by decide) (Nat.le_of_ble_eq_true rfl) (by decide) c1 dL_law_1008 hsz rfl hw (fun H locs hw => ?_)
  have hm1 := hm0.hi n1
  refine lv_aload_n hx hb dL_law_1011 rfl (lv_at hl 2 rfl) ?_
  refine lw_arg F hL hi hl (k := 1) (by decide) rfl hw.2.2 dL_law_1012 dL_law_1013 dL_law_1014 dL_law_1015 dL_law_1016 ?_
  refine lw_arg F hL hi hl (k := 2) (by decide) rfl hw.2.2 dL_law_1017 dL_law_1018 dL_law_1019 dL_law_1020 dL_law_1021 ?_
  obtain ⟨σ2, c2, v2, n2⟩ := M_judge (d := 17) (a := (xs (i + 1))) (b := (xs (i + 2))) hm1
  refine lw_virt F (h := 88) (As := [.int (xs (i + 1)), .int (xs (i + 2))]) (rest := [.int _]) mk_X7_judge (mx_at 1012 (by decide +kernel)) rfl (by decide) (Nat.le_of_ble_eq_true rfl) (by decide) c2 dL_law_1022 hsz rfl hw (fun H locs hw => ?_)
  refine lv_icmp_eq (tgt := 1292) hx hb dL_law_1025 (by decide) (fun _ => ?_) (fun h => absurd rfl h)
  exact kk _ _ _ _ (v1.lo n2) v2 hw
theorem lw_c28 (F : lw_fx p s m c b L xs adr ca D) (hL : L ≤ 3072) (hi : i + 6 ≤ L) (hl : lv_has ls 4 (lw_lv b adr i)) (hx0 : vwX w σ) (hm0 : vwM w σ) (hw : lw_st s adr ca D σ H locs) (kk : lw_kk p l e s m below meth c adr ca D b ls Q) : W p l e room_1 s m #[Value.ref b] below meth c H locs 600000 7302249 Q (F0 m 1030 ls []) := by
  obtain ⟨hx, hb, hml, hown, hts, -⟩ := id F
  have hsz := hl.1
  refine lv_aload_n hx hb dL_law_1030 rfl (lv_at hl 1 rfl) ?_
  obtain ⟨σ1, c1, v1, n1⟩ := X_image (d := 18)  hx0
  refine lw_virt F (h := 0) (As := []) (rest := []) mk_X6_image (mx_at 556 (by decide +kernel)) rfl (by decide) (Nat.le_of_ble_eq_true rfl) (by decide) c1 dL_law_1031 hsz rfl hw (fun H locs hw => ?_)
  have hm1 := hm0.hi n1
  refine lv_aload_n hx hb dL_law_1034 rfl (lv_at hl 2 rfl) ?_
  obtain ⟨σ2, c2, v2, n2⟩ := M_image (d := 16)  hm1
  refine lw_virt F (h := 88) (As := []) (rest := [.int _]) mk_X7_image (mx_at 713 (by decide +kernel)) rfl (by decide) (Nat.le_of_ble_eq_true rfl) (by decide) c2 dL_law_1035 hsz rfl hw (fun H locs hw => ?_)
  refine lv_icmp_eq (tgt := 1292) hx hb dL_law_1038 (by decide) (fun _ => ?_) (fun h => absurd rfl h)
  exact kk _ _ _ _ (v1.lo n2) v2 hw
theorem lw_c29 (F : lw_fx p s m c b L xs adr ca D) (hL : L ≤ 3072) (hi : i + 6 ≤ L) (hl : lv_has ls 4 (lw_lv b adr i)) (hx0 : vwX w σ) (hm0 : vwM w σ) (hw : lw_st s adr ca D σ H locs) (kk : lw_kk p l e s m below meth c adr ca D b ls Q) : W p l e room_1 s m #[Value.ref b] below meth c H locs 600000 7302249 Q (F0 m 1043 ls []) := by
  obtain ⟨hx, hb, hml, hown, hts, -⟩ := id F
  have hsz := hl.1
  refine lv_aload_n hx hb dL_law_1043 rfl (lv_at hl 1 rfl) ?_
  obtain ⟨σ1, c1, v1, n1⟩ := X_undo (d := 18)  hx0
  refine lw_virt F (h := 0) (As := []) (rest := []) mk_X6_undo (mx_at 566 (by decide +kernel)) rfl (by decide) (Nat.le_of_ble_eq_true rfl) (by decide) c1 dL_law_1044 hsz rfl hw (fun H locs hw => ?_)
  have hm1 := hm0.hi n1
  refine lv_aload_n hx hb dL_law_1047 rfl (lv_at hl 2 rfl) ?_
  obtain ⟨σ2, c2, v2, n2⟩ := M_undo (d := 16)  hm1
  refine lw_virt F (h := 88) (As := []) (rest := [.int _]) mk_X7_undo (mx_at 729 (by decide +kernel)) rfl (by decide) (Nat.le_of_ble_eq_true rfl) (by decide) c2 dL_law_1048 hsz rfl hw (fun H locs hw => ?_)
  refine lv_icmp_eq (tgt := 1292) hx hb dL_law_1051 (by decide) (fun _ => ?_) (fun h => absurd rfl h)
  exact kk _ _ _ _ (v1.lo n2) v2 hw
theorem lw_c30 (F : lw_fx p s m c b L xs adr ca D) (hL : L ≤ 3072) (hi : i + 6 ≤ L) (hl : lv_has ls 4 (lw_lv b adr i)) (hx0 : vwX w σ) (hm0 : vwM w σ) (hw : lw_st s adr ca D σ H locs) (kk : lw_kk p l e s m below meth c adr ca D b ls Q) : W p l e room_1 s m #[Value.ref b] below meth c H locs 600000 7302249 Q (F0 m 1056 ls []) := by
  obtain ⟨hx, hb, hml, hown, hts, -⟩ := id F
  have hsz := hl.1
  refine lv_aload_n hx hb dL_law_1056 rfl (lv_at hl 1 rfl) ?_
  refine lw_arg F hL hi hl (k := 1) (by decide) rfl hw.2.2 dL_law_1057 dL_law_1058 dL_law_1059 dL_law_1060 dL_law_1061 ?_
  have c1 := X_count (d := 19) (x := (xs (i + 1))) hx0
  refine lw_virt F (h := 0) (As := [.int (xs (i + 1))]) (rest := []) mk_X6_count (mx_at 570 (by decide +kernel)) rfl (by decide) (Nat.le_of_ble_eq_true rfl) (by decide) c1 dL_law_1062 hsz rfl hw (fun H locs hw => ?_)
  have hm1 := hm0
  refine lv_aload_n hx hb dL_law_1065 rfl (lv_at hl 2 rfl) ?_
  refine lw_arg F hL hi hl (k := 1) (by decide) rfl hw.2.2 dL_law_1066 dL_law_1067 dL_law_1068 dL_law_1069 dL_law_1070 ?_
  have c2 := M_count (d := 19) (x := (xs (i + 1))) hm1
  refine lw_virt F (h := 88) (As := [.int (xs (i + 1))]) (rest := [.int _]) mk_X7_count (mx_at 1019 (by decide +kernel)) rfl (by decide) (Nat.le_of_ble_eq_true rfl) (by decide) c2 dL_law_1071 hsz rfl hw (fun H locs hw => ?_)
  refine lv_icmp_eq (tgt := 1292) hx hb dL_law_1074 (by decide) (fun _ => ?_) (fun h => absurd rfl h)
  exact kk _ _ _ _ hx0 hm1 hw
theorem lw_c31 (F : lw_fx p s m c b L xs adr ca D) (hL : L ≤ 3072) (hi : i + 6 ≤ L) (hl : lv_has ls 4 (lw_lv b adr i)) (hx0 : vwX w σ) (hm0 : vwM w σ) (hw : lw_st s adr ca D σ H locs) (kk : lw_kk p l e s m below meth c adr ca D b ls Q) : W p l e room_1 s m #[Value.ref b] below meth c H locs 600000 7302249 Q (F0 m 1079 ls []) := by
  obtain ⟨hx, hb, hml, hown, hts, -⟩ := id F
  have hsz := hl.1
  refine lv_aload_n hx hb dL_law_1079 rfl (lv_at hl 1 rfl) ?_
  refine lw_arg F hL hi hl (k := 1) (by decide) rfl hw.2.2 dL_law_1080 dL_law_1081 dL_law_1082 dL_law_1083 dL_law_1084 ?_
  refine lw_arg F hL hi hl (k := 2) (by decide) rfl hw.2.2 dL_law_1085 dL_law_1086 dL_law_1087 dL_law_1088 dL_law_1089 ?_
  refine lw_arg F hL hi hl (k := 3) (by decide) rfl hw.2.2 dL_law_1090 dL_law_1091 dL_law_1092 dL_law_1093 dL_law_1094 ?_
  obtain ⟨σ1, c1, v1, n1⟩ := X_tape (d := 17) (a := (xs (i + 1))) (b := (xs (i + 2))) (n := (xs (i + 3))) hx0
  refine lw_virt F (h := 0) (As := [.int (xs (i + 1)), .int (xs (i + 2)), .int (xs (i + 3))]) (rest := []) mk_X6_tape (mx_at 574 (by decide +kernel)) rfl (by decide) (Nat.le_of_ble_eq_true rfl) (by decide) c1 dL_law_1095 hsz rfl hw (fun H locs hw => ?_)
  have hm1 := hm0.hi n1
  refine lv_aload_n hx hb dL_law_1098 rfl (lv_at hl 2 rfl) ?_
  refine lw_arg F hL hi hl (k := 1) (by decide) rfl hw.2.2 dL_law_1099 dL_law_1100 dL_law_1101 dL_law_1102 dL_law_1103 ?_
  refine lw_arg F hL hi hl (k := 2) (by decide) rfl hw.2.2 dL_law_1104 dL_law_1105 dL_law_1106 dL_law_1107 dL_law_1108 ?_
  refine lw_arg F hL hi hl (k := 3) (by decide) rfl hw.2.2 dL_law_1109 dL_law_1110 dL_law_1111 dL_law_1112 dL_law_1113 ?_
  obtain ⟨σ2, c2, v2, n2⟩ := M_tape (d := 17) (a := (xs (i + 1))) (b := (xs (i + 2))) (n := (xs (i + 3))) hm1
  refine lw_virt F (h := 88) (As := [.int (xs (i + 1)), .int (xs (i + 2)), .int (xs (i + 3))]) (rest := [.int _]) mk_X7_tape (mx_at 1023 (by decide +kernel)) rfl (by decide) (Nat.le_of_ble_eq_true rfl) (by decide) c2 dL_law_1114 hsz rfl hw (fun H locs hw => ?_)
  refine lv_icmp_eq (tgt := 1292) hx hb dL_law_1117 (by decide) (fun _ => ?_) (fun h => absurd rfl h)
  exact kk _ _ _ _ (v1.lo n2) v2 hw
theorem lw_c32 (F : lw_fx p s m c b L xs adr ca D) (hL : L ≤ 3072) (hi : i + 6 ≤ L) (hl : lv_has ls 4 (lw_lv b adr i)) (hx0 : vwX w σ) (hm0 : vwM w σ) (hw : lw_st s adr ca D σ H locs) (kk : lw_kk p l e s m below meth c adr ca D b ls Q) : W p l e room_1 s m #[Value.ref b] below meth c H locs 600000 7302249 Q (F0 m 1122 ls []) := by
  obtain ⟨hx, hb, hml, hown, hts, -⟩ := id F
  have hsz := hl.1
  refine lv_aload_n hx hb dL_law_1122 rfl (lv_at hl 1 rfl) ?_
  refine lw_arg F hL hi hl (k := 1) (by decide) rfl hw.2.2 dL_law_1123 dL_law_1124 dL_law_1125 dL_law_1126 dL_law_1127 ?_
  refine lw_arg F hL hi hl (k := 2) (by decide) rfl hw.2.2 dL_law_1128 dL_law_1129 dL_law_1130 dL_law_1131 dL_law_1132 ?_
  refine lw_arg F hL hi hl (k := 3) (by decide) rfl hw.2.2 dL_law_1133 dL_law_1134 dL_law_1135 dL_law_1136 dL_law_1137 ?_
  refine lv_i2l hx hb dL_law_1138 rfl ?_
  refine lv_bipush (v := 32) hx hb dL_law_1139 (by decide) ?_
  refine lv_lshl hx hb dL_law_1141 rfl ?_
  refine lw_arg F hL hi hl (k := 4) (by decide) rfl hw.2.2 dL_law_1142 dL_law_1143 dL_law_1144 dL_law_1145 dL_law_1146 ?_
  refine lv_i2l hx hb dL_law_1147 rfl ?_
  refine lv_ldc2 (v := 4294967295) hx hb hown (hts _ (mx_at 1044 (by decide +kernel))) dL_law_1148 ?_
  refine lv_land hx hb dL_law_1151 ?_
  refine lv_lor hx hb dL_law_1152 ?_
  obtain ⟨σ1, c1, v1, n1⟩ := X_item (d := 18) (a := (xs (i + 1))) (b := (xs (i + 2))) (v := (lw_lng (xs (i + 3)) (xs (i + 4)))) hx0
  refine lw_virt F (h := 0) (As := [.int (xs (i + 1)), .int (xs (i + 2)), .long (lw_lng (xs (i + 3)) (xs (i + 4)))]) (rest := []) mk_X6_item (mx_at 585 (by decide +kernel)) rfl (by decide) (Nat.le_of_ble_eq_true rfl) (by decide) c1 dL_law_1153 hsz rfl hw (fun H locs hw => ?_)
  have hm1 := hm0.hi n1
  refine lv_aload_n hx hb dL_law_1156 rfl (lv_at hl 2 rfl) ?_
  refine lw_arg F hL hi hl (k := 1) (by decide) rfl hw.2.2 dL_law_1157 dL_law_1158 dL_law_1159 dL_law_1160 dL_law_1161 ?_
  refine lw_arg F hL hi hl (k := 2) (by decide) rfl hw.2.2 dL_law_1162 dL_law_1163 dL_law_1164 dL_law_1165 dL_law_1166 ?_
  refine lw_arg F hL hi hl (k := 3) (by decide) rfl hw.2.2 dL_law_1167 dL_law_1168 dL_law_1169 dL_law_1170 dL_law_1171 ?_
  refine lv_i2l hx hb dL_law_1172 rfl ?_
  refine lv_bipush (v := 32) hx hb dL_law_1173 (by decide) ?_
  refine lv_lshl hx hb dL_law_1175 rfl ?_
  refine lw_arg F hL hi hl (k := 4) (by decide) rfl hw.2.2 dL_law_1176 dL_law_1177 dL_law_1178 dL_law_1179 dL_law_1180 ?_
  refine lv_i2l hx hb dL_law_1181 rfl ?_
  refine lv_ldc2 (v := 4294967295) hx hb hown (hts _ (mx_at 1044 (by decide +kernel))) dL_law_1182 ?_
  refine lv_land hx hb dL_law_1185 ?_
  refine lv_lor hx hb dL_law_1186 ?_
  obtain ⟨σ2, c2, v2, n2⟩ := M_item (d := 17) (a := (xs (i + 1))) (b := (xs (i + 2))) (v := (lw_lng (xs (i + 3)) (xs (i + 4)))) hm1
  refine lw_virt F (h := 88) (As := [.int (xs (i + 1)), .int (xs (i + 2)), .long (lw_lng (xs (i + 3)) (xs (i + 4)))]) (rest := [.int _]) mk_X7_item (mx_at 1029 (by decide +kernel)) rfl (by decide) (Nat.le_of_ble_eq_true rfl) (by decide) c2 dL_law_1187 hsz rfl hw (fun H locs hw => ?_)
  refine lv_icmp_eq (tgt := 1292) hx hb dL_law_1190 (by decide) (fun _ => ?_) (fun h => absurd rfl h)
  exact kk _ _ _ _ (v1.lo n2) v2 hw
theorem lw_c33 (F : lw_fx p s m c b L xs adr ca D) (hL : L ≤ 3072) (hi : i + 6 ≤ L) (hl : lv_has ls 4 (lw_lv b adr i)) (hx0 : vwX w σ) (hm0 : vwM w σ) (hw : lw_st s adr ca D σ H locs) (kk : lw_kk p l e s m below meth c adr ca D b ls Q) : W p l e room_1 s m #[Value.ref b] below meth c H locs 600000 7302249 Q (F0 m 1195 ls []) := by
  obtain ⟨hx, hb, hml, hown, hts, -⟩ := id F
  have hsz := hl.1
  refine lv_aload_n hx hb dL_law_1195 rfl (lv_at hl 1 rfl) ?_
  refine lw_arg F hL hi hl (k := 1) (by decide) rfl hw.2.2 dL_law_1196 dL_law_1197 dL_law_1198 dL_law_1199 dL_law_1200 ?_
  refine lw_arg F hL hi hl (k := 2) (by decide) rfl hw.2.2 dL_law_1201 dL_law_1202 dL_law_1203 dL_law_1204 dL_law_1205 ?_
  have c1 := X_peek (d := 18) (a := (xs (i + 1))) (b := (xs (i + 2))) hx0
  refine lw_virt F (h := 0) (As := [.int (xs (i + 1)), .int (xs (i + 2))]) (rest := []) mk_X6_peek (mx_at 593 (by decide +kernel)) rfl (by decide) (Nat.le_of_ble_eq_true rfl) (by decide) c1 dL_law_1206 hsz rfl hw (fun H locs hw => ?_)
  have hm1 := hm0
  refine lv_aload_n hx hb dL_law_1209 rfl (lv_at hl 2 rfl) ?_
  refine lw_arg F hL hi hl (k := 1) (by decide) rfl hw.2.2 dL_law_1210 dL_law_1211 dL_law_1212 dL_law_1213 dL_law_1214 ?_
  refine lw_arg F hL hi hl (k := 2) (by decide) rfl hw.2.2 dL_law_1215 dL_law_1216 dL_law_1217 dL_law_1218 dL_law_1219 ?_
  have c2 := M_peek (d := 17) (a := (xs (i + 1))) (b := (xs (i + 2))) hm1
  refine lw_virt F (h := 88) (As := [.int (xs (i + 1)), .int (xs (i + 2))]) (rest := [.long _]) mk_X7_peek (mx_at 1036 (by decide +kernel)) rfl (by decide) (Nat.le_of_ble_eq_true rfl) (by decide) c2 dL_law_1220 hsz rfl hw (fun H locs hw => ?_)
  refine W.lcmp hx hb dL_law_1223 ?_
  refine lv_if_eq (tgt := 1292) hx hb dL_law_1224 (by decide) (fun _ => ?_) (fun h => absurd (lw_cmp0 _) h)
  exact kk _ _ _ _ hx0 hm1 hw
theorem lw_c34 (F : lw_fx p s m c b L xs adr ca D) (hL : L ≤ 3072) (hi : i + 6 ≤ L) (hl : lv_has ls 4 (lw_lv b adr i)) (hx0 : vwX w σ) (hm0 : vwM w σ) (hw : lw_st s adr ca D σ H locs) (kk : lw_kk p l e s m below meth c adr ca D b ls Q) : W p l e room_1 s m #[Value.ref b] below meth c H locs 600000 7302249 Q (F0 m 1229 ls []) := by
  obtain ⟨hx, hb, hml, hown, hts, -⟩ := id F
  have hsz := hl.1
  refine lv_aload_n hx hb dL_law_1229 rfl (lv_at hl 1 rfl) ?_
  refine lw_arg F hL hi hl (k := 1) (by decide) rfl hw.2.2 dL_law_1230 dL_law_1231 dL_law_1232 dL_law_1233 dL_law_1234 ?_
  refine lw_arg F hL hi hl (k := 2) (by decide) rfl hw.2.2 dL_law_1235 dL_law_1236 dL_law_1237 dL_law_1238 dL_law_1239 ?_
  refine lw_arg F hL hi hl (k := 3) (by decide) rfl hw.2.2 dL_law_1240 dL_law_1241 dL_law_1242 dL_law_1243 dL_law_1244 ?_
  refine lw_arg F hL hi hl (k := 4) (by decide) rfl hw.2.2 dL_law_1245 dL_law_1246 dL_law_1247 dL_law_1248 dL_law_1249 ?_
  refine lw_arg F hL hi hl (k := 5) (by decide) rfl hw.2.2 dL_law_1250 dL_law_1251 dL_law_1252 dL_law_1253 dL_law_1254 ?_
  obtain ⟨σ1, c1, v1, n1⟩ := X_shift (d := 18) (a := (xs (i + 1))) (i := (xs (i + 2))) (b := (xs (i + 3))) (j := (xs (i + 4))) (n := (xs (i + 5))) hx0
  refine lw_virt F (h := 0) (As := [.int (xs (i + 1)), .int (xs (i + 2)), .int (xs (i + 3)), .int (xs (i + 4)), .int (xs (i + 5))]) (rest := []) mk_X6_shift (mx_at 597 (by decide +kernel)) rfl (by decide) (Nat.le_of_ble_eq_true rfl) (by decide) c1 dL_law_1255 hsz rfl hw (fun H locs hw => ?_)
  have hm1 := hm0.hi n1
  refine lv_aload_n hx hb dL_law_1258 rfl (lv_at hl 2 rfl) ?_
  refine lw_arg F hL hi hl (k := 1) (by decide) rfl hw.2.2 dL_law_1259 dL_law_1260 dL_law_1261 dL_law_1262 dL_law_1263 ?_
  refine lw_arg F hL hi hl (k := 2) (by decide) rfl hw.2.2 dL_law_1264 dL_law_1265 dL_law_1266 dL_law_1267 dL_law_1268 ?_
  refine lw_arg F hL hi hl (k := 3) (by decide) rfl hw.2.2 dL_law_1269 dL_law_1270 dL_law_1271 dL_law_1272 dL_law_1273 ?_
  refine lw_arg F hL hi hl (k := 4) (by decide) rfl hw.2.2 dL_law_1274 dL_law_1275 dL_law_1276 dL_law_1277 dL_law_1278 ?_
  refine lw_arg F hL hi hl (k := 5) (by decide) rfl hw.2.2 dL_law_1279 dL_law_1280 dL_law_1281 dL_law_1282 dL_law_1283 ?_
  obtain ⟨σ2, c2, v2, n2⟩ := M_shift (d := 17) (a := (xs (i + 1))) (i := (xs (i + 2))) (b := (xs (i + 3))) (j := (xs (i + 4))) (n := (xs (i + 5))) hm1
  refine lw_virt F (h := 88) (As := [.int (xs (i + 1)), .int (xs (i + 2)), .int (xs (i + 3)), .int (xs (i + 4)), .int (xs (i + 5))]) (rest := [.int _]) mk_X7_shift (mx_at 1040 (by decide +kernel)) rfl (by decide) (Nat.le_of_ble_eq_true rfl) (by decide) c2 dL_law_1284 hsz rfl hw (fun H locs hw => ?_)
  refine lv_icmp_eq (tgt := 1292) hx hb dL_law_1287 (by decide) (fun _ => ?_) (fun h => absurd rfl h)
  exact kk _ _ _ _ (v1.lo n2) v2 hw
end LWC
