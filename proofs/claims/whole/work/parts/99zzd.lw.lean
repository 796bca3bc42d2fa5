/-! THE LAW: its cases -/
/-- one call of both, from pc on -/
def LSt (g : mm_G) (b K x m i pc : Nat) (B : mm_B) (I : mm_TI) (J : mm_TJ) (P : mm_TP) : Prop := ∃ (B2 : mm_B) (I2 : mm_TI) (J2 : mm_TJ) (P2 : mm_TP), RS g B2 I2 J2 P2 x m (K + 1) ∧ Ext B B2 ∧ mm_nx B2 ≤ mm_nx B + 100 ∧ mm_sl B2 ≤ mm_sl B + 10000 ∧ (∀ q, q < x → I2 q = I q) ∧ ∀ Z : mm_Z, Ev g mL_law 1823 [some (.ref b), some (.ref x), some (.ref m), some (.int (nI i))] [] B2 I2 J2 P2 Z → Ev g mL_law pc [some (.ref b), some (.ref x), some (.ref m), some (.int (nI i))] [] B I J P Z
/-- what holds at each call -/
def LHy (g : mm_G) (b L K x m i : Nat) (B : mm_B) (I : mm_TI) (J : mm_TJ) (P : mm_TP) : Prop := K < 600 ∧ RS g B I J P x m K ∧ mm_T B b = 1 ∧ mm_N B b = L ∧ i + 6 ≤ L ∧ L < 2 ^ 31 ∧ b < g.1 ∧ mm_T B x = 111 ∧ mm_T B m = 112
section LW0
variable {g : mm_G} {B : mm_B} {I : mm_TI} {J : mm_TJ} {P : mm_TP} {b L K x m i : Nat}
theorem law_c0 (h : LHy g b L K x m i B I J P) : LSt g b K x m i 228 B I J P := by
  obtain ⟨hK, hS, tb, nb, hi, hL, hb, tx, tm⟩ := h
  obtain ⟨r, B1, I1, J1, P1, I2, J2, P2, c1, c2, rs, ex, nx, sl, lo⟩ := (show JO g mX11_coder mX12_coder [.int (I b (i + 1))] from jo_coder) K x m B I J P hK hS
  have tb1 : mm_T B1 b = 1 := (ex.1 b (by omega)).1.trans tb
  have nb1 : mm_N B1 b = L := (ex.1 b (by omega)).2.trans nb
  have tm1 : mm_T B1 m = 112 := (ex.1 m (by omega)).1.trans tm
  refine ⟨B1, I2, J2, P2, rs, ex, nx, sl, lo, fun Z k => ?_⟩
  refine ev_aload_n 229 dL_law_228 rfl rfl ?_
  refine ev_aload_n 230 dL_law_229 rfl rfl ?_
  refine ev_iload_n 231 dL_law_230 rfl rfl ?_
  refine ev_iconstN 232 1 dL_law_231 rfl ?_
  refine ev_iaddN 233 dL_law_232 rfl ?_
  refine ev_ialdR 234 _ dL_law_233 tb rfl (by have hNN := nb; omega) rfl ?_
  refine ev_invVF 237 (Mc := mX11_coder) ⟨lk296, lk75, hdX11_coder, (Nat.le_of_ble_eq_true rfl), (Nat.le_of_ble_eq_true rfl)⟩ lk293 lk294 lk295 mm_cl11 rfl dL_law_234 (c1) rfl tx (Nat.le_of_ble_eq_true rfl) rfl rfl (hb) (tb) (tb1) (k.1) (fun hf => ?_)
  have e1 : I1 b (i + 1) = I b (i + 1) := hf _ (by omega) (by omega)
  rw [← e1] at c2
  refine ev_aload_n 238 dL_law_237 rfl rfl ?_
  refine ev_aload_n 239 dL_law_238 rfl rfl ?_
  refine ev_iload_n 240 dL_law_239 rfl rfl ?_
  refine ev_iconstN 241 1 dL_law_240 rfl ?_
  refine ev_iaddN 242 dL_law_241 rfl ?_
  refine ev_ialdR 243 _ dL_law_242 tb1 rfl (by have hNN := nb1; omega) rfl ?_
  refine ev_invV 246 (Mc := mX12_coder) ⟨lk1533, lk80, hdX12_coder, (Nat.le_of_ble_eq_true rfl), (Nat.le_of_ble_eq_true rfl)⟩ lk1530 lk1531 lk1532 mm_cl12 rfl dL_law_243 (c2) rfl tm1 (Nat.le_of_ble_eq_true rfl) rfl rfl ?_
  refine ev_icmp_eq 249 1823 dL_law_246 (by decide) rfl (fun hbr => ?_) (fun hx => absurd ((rfl)) hx)
  exact k
theorem law_c1 (h : LHy g b L K x m i B I J P) : LSt g b K x m i 251 B I J P := by
  obtain ⟨hK, hS, tb, nb, hi, hL, hb, tx, tm⟩ := h
  obtain ⟨r, B1, I1, J1, P1, I2, J2, P2, c1, c2, rs, ex, nx, sl, lo⟩ := (show JO g mX11_rate mX12_rate [.int (I b (i + 1)), .int (I b (i + 2))] from jo_rate) K x m B I J P hK hS
  have tb1 : mm_T B1 b = 1 := (ex.1 b (by omega)).1.trans tb
  have nb1 : mm_N B1 b = L := (ex.1 b (by omega)).2.trans nb
  have tm1 : mm_T B1 m = 112 := (ex.1 m (by omega)).1.trans tm
  refine ⟨B1, I2, J2, P2, rs, ex, nx, sl, lo, fun Z k => ?_⟩
  refine ev_aload_n 252 dL_law_251 rfl rfl ?_
  refine ev_aload_n 253 dL_law_252 rfl rfl ?_
  refine ev_iload_n 254 dL_law_253 rfl rfl ?_
  refine ev_iconstN 255 1 dL_law_254 rfl ?_
  refine ev_iaddN 256 dL_law_255 rfl ?_
  refine ev_ialdR 257 _ dL_law_256 tb rfl (by have hNN := nb; omega) rfl ?_
  refine ev_aload_n 258 dL_law_257 rfl rfl ?_
  refine ev_iload_n 259 dL_law_258 rfl rfl ?_
  refine ev_iconstN 260 2 dL_law_259 rfl ?_
  refine ev_iaddN 261 dL_law_260 rfl ?_
  refine ev_ialdR 262 _ dL_law_261 tb rfl (by have hNN := nb; omega) rfl ?_
  refine ev_invVF 265 (Mc := mX11_rate) ⟨lk566, lk75, hdX11_rate, (Nat.le_of_ble_eq_true rfl), (Nat.le_of_ble_eq_true rfl)⟩ lk563 lk564 lk565 mm_cl11 rfl dL_law_262 (c1) rfl tx (Nat.le_of_ble_eq_true rfl) rfl rfl (hb) (tb) (tb1) (k.1) (fun hf => ?_)
  have e1 : I1 b (i + 1) = I b (i + 1) := hf _ (by omega) (by omega)
  have e2 : I1 b (i + 2) = I b (i + 2) := hf _ (by omega) (by omega)
  rw [← e1, ← e2] at c2
  refine ev_aload_n 266 dL_law_265 rfl rfl ?_
  refine ev_aload_n 267 dL_law_266 rfl rfl ?_
  refine ev_iload_n 268 dL_law_267 rfl rfl ?_
  refine ev_iconstN 269 1 dL_law_268 rfl ?_
  refine ev_iaddN 270 dL_law_269 rfl ?_
  refine ev_ialdR 271 _ dL_law_270 tb1 rfl (by have hNN := nb1; omega) rfl ?_
  refine ev_aload_n 272 dL_law_271 rfl rfl ?_
  refine ev_iload_n 273 dL_law_272 rfl rfl ?_
  refine ev_iconstN 274 2 dL_law_273 rfl ?_
  refine ev_iaddN 275 dL_law_274 rfl ?_
  refine ev_ialdR 276 _ dL_law_275 tb1 rfl (by have hNN := nb1; omega) rfl ?_
  refine ev_invV 279 (Mc := mX12_rate) ⟨lk1548, lk80, hdX12_rate, (Nat.le_of_ble_eq_true rfl), (Nat.le_of_ble_eq_true rfl)⟩ lk1545 lk1546 lk1547 mm_cl12 rfl dL_law_276 (c2) rfl tm1 (Nat.le_of_ble_eq_true rfl) rfl rfl ?_
  refine ev_icmp_eq 282 1823 dL_law_279 (by decide) rfl (fun hbr => ?_) (fun hx => absurd ((rfl)) hx)
  exact k
theorem law_c2 (h : LHy g b L K x m i B I J P) : LSt g b K x m i 284 B I J P := by
  obtain ⟨hK, hS, tb, nb, hi, hL, hb, tx, tm⟩ := h
  by_cases z : I b (i + 2) = 0
  · have _ := z
    obtain ⟨r, B1, I1, J1, P1, I2, J2, P2, c1, c2, rs, ex, nx, sl, lo⟩ := (show JO g mX11_emphasis mX12_emphasis [.int (I b (i + 1)), .int (nI 0)] from jo_emphasis (by omega)) K x m B I J P hK hS
    have tb1 : mm_T B1 b = 1 := (ex.1 b (by omega)).1.trans tb
    have nb1 : mm_N B1 b = L := (ex.1 b (by omega)).2.trans nb
    have tm1 : mm_T B1 m = 112 := (ex.1 m (by omega)).1.trans tm
    refine ⟨B1, I2, J2, P2, rs, ex, nx, sl, lo, fun Z k => ?_⟩
    refine ev_aload_n 285 dL_law_284 rfl rfl ?_
    refine ev_aload_n 286 dL_law_285 rfl rfl ?_
    refine ev_iload_n 287 dL_law_286 rfl rfl ?_
    refine ev_iconstN 288 1 dL_law_287 rfl ?_
    refine ev_iaddN 289 dL_law_288 rfl ?_
    refine ev_ialdR 290 _ dL_law_289 tb rfl (by have hNN := nb; omega) rfl ?_
    refine ev_aload_n 291 dL_law_290 rfl rfl ?_
    refine ev_iload_n 292 dL_law_291 rfl rfl ?_
    refine ev_iconstN 293 2 dL_law_292 rfl ?_
    refine ev_iaddN 294 dL_law_293 rfl ?_
    refine ev_ialdR 295 _ dL_law_294 tb rfl (by have hNN := nb; omega) rfl ?_
    refine ev_if_eq 298 302 dL_law_295 (by decide) rfl (fun hbr => ?_) (fun hx => absurd ((z)) hx)
    refine ev_iconstN 303 0 dL_law_302 rfl ?_
    refine ev_invVF 306 (Mc := mX11_emphasis) ⟨lk574, lk75, hdX11_emphasis, (Nat.le_of_ble_eq_true rfl), (Nat.le_of_ble_eq_true rfl)⟩ lk571 lk572 lk573 mm_cl11 rfl dL_law_303 (c1) rfl tx (Nat.le_of_ble_eq_true rfl) rfl rfl (hb) (tb) (tb1) (k.1) (fun hf => ?_)
    have e1 : I1 b (i + 1) = I b (i + 1) := hf _ (by omega) (by omega)
    have e2 : I1 b (i + 2) = I b (i + 2) := hf _ (by omega) (by omega)
    rw [← e1] at c2
    rw [← e2] at z
    refine ev_aload_n 307 dL_law_306 rfl rfl ?_
    refine ev_aload_n 308 dL_law_307 rfl rfl ?_
    refine ev_iload_n 309 dL_law_308 rfl rfl ?_
    refine ev_iconstN 310 1 dL_law_309 rfl ?_
    refine ev_iaddN 311 dL_law_310 rfl ?_
    refine ev_ialdR 312 _ dL_law_311 tb1 rfl (by have hNN := nb1; omega) rfl ?_
    refine ev_aload_n 313 dL_law_312 rfl rfl ?_
    refine ev_iload_n 314 dL_law_313 rfl rfl ?_
    refine ev_iconstN 315 2 dL_law_314 rfl ?_
    refine ev_iaddN 316 dL_law_315 rfl ?_
    refine ev_ialdR 317 _ dL_law_316 tb1 rfl (by have hNN := nb1; omega) rfl ?_
    refine ev_if_eq 320 324 dL_law_317 (by decide) rfl (fun hbr => ?_) (fun hx => absurd ((z)) hx)
    refine ev_iconstN 325 0 dL_law_324 rfl ?_
    refine ev_invV 328 (Mc := mX12_emphasis) ⟨lk1556, lk80, hdX12_emphasis, (Nat.le_of_ble_eq_true rfl), (Nat.le_of_ble_eq_true rfl)⟩ lk1553 lk1554 lk1555 mm_cl12 rfl dL_law_325 (c2) rfl tm1 (Nat.le_of_ble_eq_true rfl) rfl rfl ?_
    refine ev_icmp_eq 331 1823 dL_law_328 (by decide) rfl (fun hbr => ?_) (fun hx => absurd ((rfl)) hx)
    exact k
  · have _ := z
    obtain ⟨r, B1, I1, J1, P1, I2, J2, P2, c1, c2, rs, ex, nx, sl, lo⟩ := (show JO g mX11_emphasis mX12_emphasis [.int (I b (i + 1)), .int (nI 1)] from jo_emphasis (by omega)) K x m B I J P hK hS
    have tb1 : mm_T B1 b = 1 := (ex.1 b (by omega)).1.trans tb
    have nb1 : mm_N B1 b = L := (ex.1 b (by omega)).2.trans nb
    have tm1 : mm_T B1 m = 112 := (ex.1 m (by omega)).1.trans tm
    refine ⟨B1, I2, J2, P2, rs, ex, nx, sl, lo, fun Z k => ?_⟩
    refine ev_aload_n 285 dL_law_284 rfl rfl ?_
    refine ev_aload_n 286 dL_law_285 rfl rfl ?_
    refine ev_iload_n 287 dL_law_286 rfl rfl ?_
    refine ev_iconstN 288 1 dL_law_287 rfl ?_
    refine ev_iaddN 289 dL_law_288 rfl ?_
    refine ev_ialdR 290 _ dL_law_289 tb rfl (by have hNN := nb; omega) rfl ?_
    refine ev_aload_n 291 dL_law_290 rfl rfl ?_
    refine ev_iload_n 292 dL_law_291 rfl rfl ?_
    refine ev_iconstN 293 2 dL_law_292 rfl ?_
    refine ev_iaddN 294 dL_law_293 rfl ?_
    refine ev_ialdR 295 _ dL_law_294 tb rfl (by have hNN := nb; omega) rfl ?_
    refine ev_if_eq 298 302 dL_law_295 (by decide) rfl (fun hx => absurd hx ((z))) (fun hbr => ?_)
    refine ev_iconstN 299 1 dL_law_298 rfl ?_
    refine ev_goto 303 dL_law_299 (by decide) ?_
    refine ev_invVF 306 (Mc := mX11_emphasis) ⟨lk574, lk75, hdX11_emphasis, (Nat.le_of_ble_eq_true rfl), (Nat.le_of_ble_eq_true rfl)⟩ lk571 lk572 lk573 mm_cl11 rfl dL_law_303 (c1) rfl tx (Nat.le_of_ble_eq_true rfl) rfl rfl (hb) (tb) (tb1) (k.1) (fun hf => ?_)
    have e1 : I1 b (i + 1) = I b (i + 1) := hf _ (by omega) (by omega)
    have e2 : I1 b (i + 2) = I b (i + 2) := hf _ (by omega) (by omega)
    rw [← e1] at c2
    rw [← e2] at z
    refine ev_aload_n 307 dL_law_306 rfl rfl ?_
    refine ev_aload_n 308 dL_law_307 rfl rfl ?_
    refine ev_iload_n 309 dL_law_308 rfl rfl ?_
    refine ev_iconstN 310 1 dL_law_309 rfl ?_
    refine ev_iaddN 311 dL_law_310 rfl ?_
    refine ev_ialdR 312 _ dL_law_311 tb1 rfl (by have hNN := nb1; omega) rfl ?_
    refine ev_aload_n 313 dL_law_312 rfl rfl ?_
    refine ev_iload_n 314 dL_law_313 rfl rfl ?_
    refine ev_iconstN 315 2 dL_law_314 rfl ?_
    refine ev_iaddN 316 dL_law_315 rfl ?_
    refine ev_ialdR 317 _ dL_law_316 tb1 rfl (by have hNN := nb1; omega) rfl ?_
    refine ev_if_eq 320 324 dL_law_317 (by decide) rfl (fun hx => absurd hx ((z))) (fun hbr => ?_)
    refine ev_iconstN 321 1 dL_law_320 rfl ?_
    refine ev_goto 325 dL_law_321 (by decide) ?_
    refine ev_invV 328 (Mc := mX12_emphasis) ⟨lk1556, lk80, hdX12_emphasis, (Nat.le_of_ble_eq_true rfl), (Nat.le_of_ble_eq_true rfl)⟩ lk1553 lk1554 lk1555 mm_cl12 rfl dL_law_325 (c2) rfl tm1 (Nat.le_of_ble_eq_true rfl) rfl rfl ?_
    refine ev_icmp_eq 331 1823 dL_law_328 (by decide) rfl (fun hbr => ?_) (fun hx => absurd ((rfl)) hx)
    exact k
theorem law_c3 (h : LHy g b L K x m i B I J P) : LSt g b K x m i 333 B I J P := by
  obtain ⟨hK, hS, tb, nb, hi, hL, hb, tx, tm⟩ := h
  obtain ⟨r, B1, I1, J1, P1, I2, J2, P2, c1, c2, rs, ex, nx, sl, lo⟩ := (show JO g mX11_search mX12_search [.int (I b (i + 1)), .int (I b (i + 2)), .int (I b (i + 3))] from jo_search) K x m B I J P hK hS
  have tb1 : mm_T B1 b = 1 := (ex.1 b (by omega)).1.trans tb
  have nb1 : mm_N B1 b = L := (ex.1 b (by omega)).2.trans nb
  have tm1 : mm_T B1 m = 112 := (ex.1 m (by omega)).1.trans tm
  refine ⟨B1, I2, J2, P2, rs, ex, nx, sl, lo, fun Z k => ?_⟩
  refine ev_aload_n 334 dL_law_333 rfl rfl ?_
  refine ev_aload_n 335 dL_law_334 rfl rfl ?_
  refine ev_iload_n 336 dL_law_335 rfl rfl ?_
  refine ev_iconstN 337 1 dL_law_336 rfl ?_
  refine ev_iaddN 338 dL_law_337 rfl ?_
  refine ev_ialdR 339 _ dL_law_338 tb rfl (by have hNN := nb; omega) rfl ?_
  refine ev_aload_n 340 dL_law_339 rfl rfl ?_
  refine ev_iload_n 341 dL_law_340 rfl rfl ?_
  refine ev_iconstN 342 2 dL_law_341 rfl ?_
  refine ev_iaddN 343 dL_law_342 rfl ?_
  refine ev_ialdR 344 _ dL_law_343 tb rfl (by have hNN := nb; omega) rfl ?_
  refine ev_aload_n 345 dL_law_344 rfl rfl ?_
  refine ev_iload_n 346 dL_law_345 rfl rfl ?_
  refine ev_iconstN 347 3 dL_law_346 rfl ?_
  refine ev_iaddN 348 dL_law_347 rfl ?_
  refine ev_ialdR 349 _ dL_law_348 tb rfl (by have hNN := nb; omega) rfl ?_
  refine ev_invVF 352 (Mc := mX11_search) ⟨lk581, lk75, hdX11_search, (Nat.le_of_ble_eq_true rfl), (Nat.le_of_ble_eq_true rfl)⟩ lk578 lk579 lk580 mm_cl11 rfl dL_law_349 (c1) rfl tx (Nat.le_of_ble_eq_true rfl) rfl rfl (hb) (tb) (tb1) (k.1) (fun hf => ?_)
  have e1 : I1 b (i + 1) = I b (i + 1) := hf _ (by omega) (by omega)
  have e2 : I1 b (i + 2) = I b (i + 2) := hf _ (by omega) (by omega)
  have e3 : I1 b (i + 3) = I b (i + 3) := hf _ (by omega) (by omega)
  rw [← e1, ← e2, ← e3] at c2
  refine ev_aload_n 353 dL_law_352 rfl rfl ?_
  refine ev_aload_n 354 dL_law_353 rfl rfl ?_
  refine ev_iload_n 355 dL_law_354 rfl rfl ?_
  refine ev_iconstN 356 1 dL_law_355 rfl ?_
  refine ev_iaddN 357 dL_law_356 rfl ?_
  refine ev_ialdR 358 _ dL_law_357 tb1 rfl (by have hNN := nb1; omega) rfl ?_
  refine ev_aload_n 359 dL_law_358 rfl rfl ?_
  refine ev_iload_n 360 dL_law_359 rfl rfl ?_
  refine ev_iconstN 361 2 dL_law_360 rfl ?_
  refine ev_iaddN 362 dL_law_361 rfl ?_
  refine ev_ialdR 363 _ dL_law_362 tb1 rfl (by have hNN := nb1; omega) rfl ?_
  refine ev_aload_n 364 dL_law_363 rfl rfl ?_
  refine ev_iload_n 365 dL_law_364 rfl rfl ?_
  refine ev_iconstN 366 3 dL_law_365 rfl ?_
  refine ev_iaddN 367 dL_law_366 rfl ?_
  refine ev_ialdR 368 _ dL_law_367 tb1 rfl (by have hNN := nb1; omega) rfl ?_
  refine ev_invV 371 (Mc := mX12_search) ⟨lk1560, lk80, hdX12_search, (Nat.le_of_ble_eq_true rfl), (Nat.le_of_ble_eq_true rfl)⟩ lk1557 lk1558 lk1559 mm_cl12 rfl dL_law_368 (c2) rfl tm1 (Nat.le_of_ble_eq_true rfl) rfl rfl ?_
  refine ev_icmp_eq 374 1823 dL_law_371 (by decide) rfl (fun hbr => ?_) (fun hx => absurd ((rfl)) hx)
  exact k
theorem law_c4 (h : LHy g b L K x m i B I J P) : LSt g b K x m i 376 B I J P := by
  obtain ⟨hK, hS, tb, nb, hi, hL, hb, tx, tm⟩ := h
  obtain ⟨r, B1, I1, J1, P1, I2, J2, P2, c1, c2, rs, ex, nx, sl, lo⟩ := (show JO g mX11_silence mX12_silence [.int (I b (i + 1)), .int (I b (i + 2))] from jo_silence) K x m B I J P hK hS
  have tb1 : mm_T B1 b = 1 := (ex.1 b (by omega)).1.trans tb
  have nb1 : mm_N B1 b = L := (ex.1 b (by omega)).2.trans nb
  have tm1 : mm_T B1 m = 112 := (ex.1 m (by omega)).1.trans tm
  refine ⟨B1, I2, J2, P2, rs, ex, nx, sl, lo, fun Z k => ?_⟩
  refine ev_aload_n 377 dL_law_376 rfl rfl ?_
  refine ev_aload_n 378 dL_law_377 rfl rfl ?_
  refine ev_iload_n 379 dL_law_378 rfl rfl ?_
  refine ev_iconstN 380 1 dL_law_379 rfl ?_
  refine ev_iaddN 381 dL_law_380 rfl ?_
  refine ev_ialdR 382 _ dL_law_381 tb rfl (by have hNN := nb; omega) rfl ?_
  refine ev_aload_n 383 dL_law_382 rfl rfl ?_
  refine ev_iload_n 384 dL_law_383 rfl rfl ?_
  refine ev_iconstN 385 2 dL_law_384 rfl ?_
  refine ev_iaddN 386 dL_law_385 rfl ?_
  refine ev_ialdR 387 _ dL_law_386 tb rfl (by have hNN := nb; omega) rfl ?_
  refine ev_invVF 390 (Mc := mX11_silence) ⟨lk585, lk75, hdX11_silence, (Nat.le_of_ble_eq_true rfl), (Nat.le_of_ble_eq_true rfl)⟩ lk582 lk583 lk584 mm_cl11 rfl dL_law_387 (c1) rfl tx (Nat.le_of_ble_eq_true rfl) rfl rfl (hb) (tb) (tb1) (k.1) (fun hf => ?_)
  have e1 : I1 b (i + 1) = I b (i + 1) := hf _ (by omega) (by omega)
  have e2 : I1 b (i + 2) = I b (i + 2) := hf _ (by omega) (by omega)
  rw [← e1, ← e2] at c2
  refine ev_aload_n 391 dL_law_390 rfl rfl ?_
  refine ev_aload_n 392 dL_law_391 rfl rfl ?_
  refine ev_iload_n 393 dL_law_392 rfl rfl ?_
  refine ev_iconstN 394 1 dL_law_393 rfl ?_
  refine ev_iaddN 395 dL_law_394 rfl ?_
  refine ev_ialdR 396 _ dL_law_395 tb1 rfl (by have hNN := nb1; omega) rfl ?_
  refine ev_aload_n 397 dL_law_396 rfl rfl ?_
  refine ev_iload_n 398 dL_law_397 rfl rfl ?_
  refine ev_iconstN 399 2 dL_law_398 rfl ?_
  refine ev_iaddN 400 dL_law_399 rfl ?_
  refine ev_ialdR 401 _ dL_law_400 tb1 rfl (by have hNN := nb1; omega) rfl ?_
  refine ev_invV 404 (Mc := mX12_silence) ⟨lk1564, lk80, hdX12_silence, (Nat.le_of_ble_eq_true rfl), (Nat.le_of_ble_eq_true rfl)⟩ lk1561 lk1562 lk1563 mm_cl12 rfl dL_law_401 (c2) rfl tm1 (Nat.le_of_ble_eq_true rfl) rfl rfl ?_
  refine ev_icmp_eq 407 1823 dL_law_404 (by decide) rfl (fun hbr => ?_) (fun hx => absurd ((rfl)) hx)
  exact k
theorem law_c5 (h : LHy g b L K x m i B I J P) : LSt g b K x m i 409 B I J P := by
  obtain ⟨hK, hS, tb, nb, hi, hL, hb, tx, tm⟩ := h
  by_cases z : I b (i + 2) = 0
  · have _ := z
    obtain ⟨r, B1, I1, J1, P1, I2, J2, P2, c1, c2, rs, ex, nx, sl, lo⟩ := (show JO g mX11_redundancy mX12_redundancy [.int (I b (i + 1)), .int (nI 0)] from jo_redundancy (by omega)) K x m B I J P hK hS
    have tb1 : mm_T B1 b = 1 := (ex.1 b (by omega)).1.trans tb
    have nb1 : mm_N B1 b = L := (ex.1 b (by omega)).2.trans nb
    have tm1 : mm_T B1 m = 112 := (ex.1 m (by omega)).1.trans tm
    refine ⟨B1, I2, J2, P2, rs, ex, nx, sl, lo, fun Z k => ?_⟩
    refine ev_aload_n 410 dL_law_409 rfl rfl ?_
    refine ev_aload_n 411 dL_law_410 rfl rfl ?_
    refine ev_iload_n 412 dL_law_411 rfl rfl ?_
    refine ev_iconstN 413 1 dL_law_412 rfl ?_
    refine ev_iaddN 414 dL_law_413 rfl ?_
    refine ev_ialdR 415 _ dL_law_414 tb rfl (by have hNN := nb; omega) rfl ?_
    refine ev_aload_n 416 dL_law_415 rfl rfl ?_
    refine ev_iload_n 417 dL_law_416 rfl rfl ?_
    refine ev_iconstN 418 2 dL_law_417 rfl ?_
    refine ev_iaddN 419 dL_law_418 rfl ?_
    refine ev_ialdR 420 _ dL_law_419 tb rfl (by have hNN := nb; omega) rfl ?_
    refine ev_if_eq 423 427 dL_law_420 (by decide) rfl (fun hbr => ?_) (fun hx => absurd ((z)) hx)
    refine ev_iconstN 428 0 dL_law_427 rfl ?_
    refine ev_invVF 431 (Mc := mX11_redundancy) ⟨lk590, lk75, hdX11_redundancy, (Nat.le_of_ble_eq_true rfl), (Nat.le_of_ble_eq_true rfl)⟩ lk587 lk588 lk589 mm_cl11 rfl dL_law_428 (c1) rfl tx (Nat.le_of_ble_eq_true rfl) rfl rfl (hb) (tb) (tb1) (k.1) (fun hf => ?_)
    have e1 : I1 b (i + 1) = I b (i + 1) := hf _ (by omega) (by omega)
    have e2 : I1 b (i + 2) = I b (i + 2) := hf _ (by omega) (by omega)
    rw [← e1] at c2
    rw [← e2] at z
    refine ev_aload_n 432 dL_law_431 rfl rfl ?_
    refine ev_aload_n 433 dL_law_432 rfl rfl ?_
    refine ev_iload_n 434 dL_law_433 rfl rfl ?_
    refine ev_iconstN 435 1 dL_law_434 rfl ?_
    refine ev_iaddN 436 dL_law_435 rfl ?_
    refine ev_ialdR 437 _ dL_law_436 tb1 rfl (by have hNN := nb1; omega) rfl ?_
    refine ev_aload_n 438 dL_law_437 rfl rfl ?_
    refine ev_iload_n 439 dL_law_438 rfl rfl ?_
    refine ev_iconstN 440 2 dL_law_439 rfl ?_
    refine ev_iaddN 441 dL_law_440 rfl ?_
    refine ev_ialdR 442 _ dL_law_441 tb1 rfl (by have hNN := nb1; omega) rfl ?_
    refine ev_if_eq 445 449 dL_law_442 (by decide) rfl (fun hbr => ?_) (fun hx => absurd ((z)) hx)
    refine ev_iconstN 450 0 dL_law_449 rfl ?_
    refine ev_invV 453 (Mc := mX12_redundancy) ⟨lk1569, lk80, hdX12_redundancy, (Nat.le_of_ble_eq_true rfl), (Nat.le_of_ble_eq_true rfl)⟩ lk1566 lk1567 lk1568 mm_cl12 rfl dL_law_450 (c2) rfl tm1 (Nat.le_of_ble_eq_true rfl) rfl rfl ?_
    refine ev_icmp_eq 456 1823 dL_law_453 (by decide) rfl (fun hbr => ?_) (fun hx => absurd ((rfl)) hx)
    exact k
  · have _ := z
    obtain ⟨r, B1, I1, J1, P1, I2, J2, P2, c1, c2, rs, ex, nx, sl, lo⟩ := (show JO g mX11_redundancy mX12_redundancy [.int (I b (i + 1)), .int (nI 1)] from jo_redundancy (by omega)) K x m B I J P hK hS
    have tb1 : mm_T B1 b = 1 := (ex.1 b (by omega)).1.trans tb
    have nb1 : mm_N B1 b = L := (ex.1 b (by omega)).2.trans nb
    have tm1 : mm_T B1 m = 112 := (ex.1 m (by omega)).1.trans tm
    refine ⟨B1, I2, J2, P2, rs, ex, nx, sl, lo, fun Z k => ?_⟩
    refine ev_aload_n 410 dL_law_409 rfl rfl ?_
    refine ev_aload_n 411 dL_law_410 rfl rfl ?_
    refine ev_iload_n 412 dL_law_411 rfl rfl ?_
    refine ev_iconstN 413 1 dL_law_412 rfl ?_
    refine ev_iaddN 414 dL_law_413 rfl ?_
    refine ev_ialdR 415 _ dL_law_414 tb rfl (by have hNN := nb; omega) rfl ?_
    refine ev_aload_n 416 dL_law_415 rfl rfl ?_
    refine ev_iload_n 417 dL_law_416 rfl rfl ?_
    refine ev_iconstN 418 2 dL_law_417 rfl ?_
    refine ev_iaddN 419 dL_law_418 rfl ?_
    refine ev_ialdR 420 _ dL_law_419 tb rfl (by have hNN := nb; omega) rfl ?_
    refine ev_if_eq 423 427 dL_law_420 (by decide) rfl (fun hx => absurd hx ((z))) (fun hbr => ?_)
    refine ev_iconstN 424 1 dL_law_423 rfl ?_
    refine ev_goto 428 dL_law_424 (by decide) ?_
    refine ev_invVF 431 (Mc := mX11_redundancy) ⟨lk590, lk75, hdX11_redundancy, (Nat.le_of_ble_eq_true rfl), (Nat.le_of_ble_eq_true rfl)⟩ lk587 lk588 lk589 mm_cl11 rfl dL_law_428 (c1) rfl tx (Nat.le_of_ble_eq_true rfl) rfl rfl (hb) (tb) (tb1) (k.1) (fun hf => ?_)
    have e1 : I1 b (i + 1) = I b (i + 1) := hf _ (by omega) (by omega)
    have e2 : I1 b (i + 2) = I b (i + 2) := hf _ (by omega) (by omega)
    rw [← e1] at c2
    rw [← e2] at z
    refine ev_aload_n 432 dL_law_431 rfl rfl ?_
    refine ev_aload_n 433 dL_law_432 rfl rfl ?_
    refine ev_iload_n 434 dL_law_433 rfl rfl ?_
    refine ev_iconstN 435 1 dL_law_434 rfl ?_
    refine ev_iaddN 436 dL_law_435 rfl ?_
    refine ev_ialdR 437 _ dL_law_436 tb1 rfl (by have hNN := nb1; omega) rfl ?_
    refine ev_aload_n 438 dL_law_437 rfl rfl ?_
    refine ev_iload_n 439 dL_law_438 rfl rfl ?_
    refine ev_iconstN 440 2 dL_law_439 rfl ?_
    refine ev_iaddN 441 dL_law_440 rfl ?_
    refine ev_ialdR 442 _ dL_law_441 tb1 rfl (by have hNN := nb1; omega) rfl ?_
    refine ev_if_eq 445 449 dL_law_442 (by decide) rfl (fun hx => absurd hx ((z))) (fun hbr => ?_)
    refine ev_iconstN 446 1 dL_law_445 rfl ?_
    refine ev_goto 450 dL_law_446 (by decide) ?_
    refine ev_invV 453 (Mc := mX12_redundancy) ⟨lk1569, lk80, hdX12_redundancy, (Nat.le_of_ble_eq_true rfl), (Nat.le_of_ble_eq_true rfl)⟩ lk1566 lk1567 lk1568 mm_cl12 rfl dL_law_450 (c2) rfl tm1 (Nat.le_of_ble_eq_true rfl) rfl rfl ?_
    refine ev_icmp_eq 456 1823 dL_law_453 (by decide) rfl (fun hbr => ?_) (fun hx => absurd ((rfl)) hx)
    exact k
theorem law_c6 (h : LHy g b L K x m i B I J P) : LSt g b K x m i 458 B I J P := by
  obtain ⟨hK, hS, tb, nb, hi, hL, hb, tx, tm⟩ := h
  obtain ⟨r, B1, I1, J1, P1, I2, J2, P2, c1, c2, rs, ex, nx, sl, lo⟩ := (show JO g mX11_start mX12_start [.int (I b (i + 1)), .int (I b (i + 2))] from jo_start) K x m B I J P hK hS
  have tb1 : mm_T B1 b = 1 := (ex.1 b (by omega)).1.trans tb
  have nb1 : mm_N B1 b = L := (ex.1 b (by omega)).2.trans nb
  have tm1 : mm_T B1 m = 112 := (ex.1 m (by omega)).1.trans tm
  refine ⟨B1, I2, J2, P2, rs, ex, nx, sl, lo, fun Z k => ?_⟩
  refine ev_aload_n 459 dL_law_458 rfl rfl ?_
  refine ev_aload_n 460 dL_law_459 rfl rfl ?_
  refine ev_iload_n 461 dL_law_460 rfl rfl ?_
  refine ev_iconstN 462 1 dL_law_461 rfl ?_
  refine ev_iaddN 463 dL_law_462 rfl ?_
  refine ev_ialdR 464 _ dL_law_463 tb rfl (by have hNN := nb; omega) rfl ?_
  refine ev_aload_n 465 dL_law_464 rfl rfl ?_
  refine ev_iload_n 466 dL_law_465 rfl rfl ?_
  refine ev_iconstN 467 2 dL_law_466 rfl ?_
  refine ev_iaddN 468 dL_law_467 rfl ?_
  refine ev_ialdR 469 _ dL_law_468 tb rfl (by have hNN := nb; omega) rfl ?_
  refine ev_invVF 472 (Mc := mX11_start) ⟨lk594, lk75, hdX11_start, (Nat.le_of_ble_eq_true rfl), (Nat.le_of_ble_eq_true rfl)⟩ lk591 lk592 lk593 mm_cl11 rfl dL_law_469 (c1) rfl tx (Nat.le_of_ble_eq_true rfl) rfl rfl (hb) (tb) (tb1) (k.1) (fun hf => ?_)
  have e1 : I1 b (i + 1) = I b (i + 1) := hf _ (by omega) (by omega)
  have e2 : I1 b (i + 2) = I b (i + 2) := hf _ (by omega) (by omega)
  rw [← e1, ← e2] at c2
  refine ev_aload_n 473 dL_law_472 rfl rfl ?_
  refine ev_aload_n 474 dL_law_473 rfl rfl ?_
  refine ev_iload_n 475 dL_law_474 rfl rfl ?_
  refine ev_iconstN 476 1 dL_law_475 rfl ?_
  refine ev_iaddN 477 dL_law_476 rfl ?_
  refine ev_ialdR 478 _ dL_law_477 tb1 rfl (by have hNN := nb1; omega) rfl ?_
  refine ev_aload_n 479 dL_law_478 rfl rfl ?_
  refine ev_iload_n 480 dL_law_479 rfl rfl ?_
  refine ev_iconstN 481 2 dL_law_480 rfl ?_
  refine ev_iaddN 482 dL_law_481 rfl ?_
  refine ev_ialdR 483 _ dL_law_482 tb1 rfl (by have hNN := nb1; omega) rfl ?_
  refine ev_invV 486 (Mc := mX12_start) ⟨lk1573, lk80, hdX12_start, (Nat.le_of_ble_eq_true rfl), (Nat.le_of_ble_eq_true rfl)⟩ lk1570 lk1571 lk1572 mm_cl12 rfl dL_law_483 (c2) rfl tm1 (Nat.le_of_ble_eq_true rfl) rfl rfl ?_
  refine ev_icmp_eq 489 1823 dL_law_486 (by decide) rfl (fun hbr => ?_) (fun hx => absurd ((rfl)) hx)
  exact k
theorem law_c7 (h : LHy g b L K x m i B I J P) : LSt g b K x m i 491 B I J P := by
  obtain ⟨hK, hS, tb, nb, hi, hL, hb, tx, tm⟩ := h
  obtain ⟨r, B1, I1, J1, P1, I2, J2, P2, c1, c2, rs, ex, nx, sl, lo⟩ := (show JO g mX11_sample mX12_sample [.int (I b (i + 1)), .int (I b (i + 2))] from jo_sample) K x m B I J P hK hS
  have tb1 : mm_T B1 b = 1 := (ex.1 b (by omega)).1.trans tb
  have nb1 : mm_N B1 b = L := (ex.1 b (by omega)).2.trans nb
  have tm1 : mm_T B1 m = 112 := (ex.1 m (by omega)).1.trans tm
  refine ⟨B1, I2, J2, P2, rs, ex, nx, sl, lo, fun Z k => ?_⟩
  refine ev_aload_n 492 dL_law_491 rfl rfl ?_
  refine ev_aload_n 493 dL_law_492 rfl rfl ?_
  refine ev_iload_n 494 dL_law_493 rfl rfl ?_
  refine ev_iconstN 495 1 dL_law_494 rfl ?_
  refine ev_iaddN 496 dL_law_495 rfl ?_
  refine ev_ialdR 497 _ dL_law_496 tb rfl (by have hNN := nb; omega) rfl ?_
  refine ev_aload_n 498 dL_law_497 rfl rfl ?_
  refine ev_iload_n 499 dL_law_498 rfl rfl ?_
  refine ev_iconstN 500 2 dL_law_499 rfl ?_
  refine ev_iaddN 501 dL_law_500 rfl ?_
  refine ev_ialdR 502 _ dL_law_501 tb rfl (by have hNN := nb; omega) rfl ?_
  refine ev_invVF 505 (Mc := mX11_sample) ⟨lk602, lk75, hdX11_sample, (Nat.le_of_ble_eq_true rfl), (Nat.le_of_ble_eq_true rfl)⟩ lk599 lk600 lk601 mm_cl11 rfl dL_law_502 (c1) rfl tx (Nat.le_of_ble_eq_true rfl) rfl rfl (hb) (tb) (tb1) (k.1) (fun hf => ?_)
  have e1 : I1 b (i + 1) = I b (i + 1) := hf _ (by omega) (by omega)
  have e2 : I1 b (i + 2) = I b (i + 2) := hf _ (by omega) (by omega)
  rw [← e1, ← e2] at c2
  refine ev_aload_n 506 dL_law_505 rfl rfl ?_
  refine ev_aload_n 507 dL_law_506 rfl rfl ?_
  refine ev_iload_n 508 dL_law_507 rfl rfl ?_
  refine ev_iconstN 509 1 dL_law_508 rfl ?_
  refine ev_iaddN 510 dL_law_509 rfl ?_
  refine ev_ialdR 511 _ dL_law_510 tb1 rfl (by have hNN := nb1; omega) rfl ?_
  refine ev_aload_n 512 dL_law_511 rfl rfl ?_
  refine ev_iload_n 513 dL_law_512 rfl rfl ?_
  refine ev_iconstN 514 2 dL_law_513 rfl ?_
  refine ev_iaddN 515 dL_law_514 rfl ?_
  refine ev_ialdR 516 _ dL_law_515 tb1 rfl (by have hNN := nb1; omega) rfl ?_
  refine ev_invV 519 (Mc := mX12_sample) ⟨lk1578, lk80, hdX12_sample, (Nat.le_of_ble_eq_true rfl), (Nat.le_of_ble_eq_true rfl)⟩ lk1575 lk1576 lk1577 mm_cl12 rfl dL_law_516 (c2) rfl tm1 (Nat.le_of_ble_eq_true rfl) rfl rfl ?_
  refine ev_icmp_eq 522 1823 dL_law_519 (by decide) rfl (fun hbr => ?_) (fun hx => absurd ((rfl)) hx)
  exact k
theorem law_c8 (h : LHy g b L K x m i B I J P) : LSt g b K x m i 524 B I J P := by
  obtain ⟨hK, hS, tb, nb, hi, hL, hb, tx, tm⟩ := h
  obtain ⟨r, B1, I1, J1, P1, I2, J2, P2, c1, c2, rs, ex, nx, sl, lo⟩ := (show JO g mX11_wave mX12_wave [.int (I b (i + 1)), .int (I b (i + 2)), .int (I b (i + 3)), .int (I b (i + 4)), .int (I b (i + 5))] from jo_wave) K x m B I J P hK hS
  have tb1 : mm_T B1 b = 1 := (ex.1 b (by omega)).1.trans tb
  have nb1 : mm_N B1 b = L := (ex.1 b (by omega)).2.trans nb
  have tm1 : mm_T B1 m = 112 := (ex.1 m (by omega)).1.trans tm
  refine ⟨B1, I2, J2, P2, rs, ex, nx, sl, lo, fun Z k => ?_⟩
  refine ev_aload_n 525 dL_law_524 rfl rfl ?_
  refine ev_aload_n 526 dL_law_525 rfl rfl ?_
  refine ev_iload_n 527 dL_law_526 rfl rfl ?_
  refine ev_iconstN 528 1 dL_law_527 rfl ?_
  refine ev_iaddN 529 dL_law_528 rfl ?_
  refine ev_ialdR 530 _ dL_law_529 tb rfl (by have hNN := nb; omega) rfl ?_
  refine ev_aload_n 531 dL_law_530 rfl rfl ?_
  refine ev_iload_n 532 dL_law_531 rfl rfl ?_
  refine ev_iconstN 533 2 dL_law_532 rfl ?_
  refine ev_iaddN 534 dL_law_533 rfl ?_
  refine ev_ialdR 535 _ dL_law_534 tb rfl (by have hNN := nb; omega) rfl ?_
  refine ev_aload_n 536 dL_law_535 rfl rfl ?_
  refine ev_iload_n 537 dL_law_536 rfl rfl ?_
  refine ev_iconstN 538 3 dL_law_537 rfl ?_
  refine ev_iaddN 539 dL_law_538 rfl ?_
  refine ev_ialdR 540 _ dL_law_539 tb rfl (by have hNN := nb; omega) rfl ?_
  refine ev_aload_n 541 dL_law_540 rfl rfl ?_
  refine ev_iload_n 542 dL_law_541 rfl rfl ?_
  refine ev_iconstN 543 4 dL_law_542 rfl ?_
  refine ev_iaddN 544 dL_law_543 rfl ?_
  refine ev_ialdR 545 _ dL_law_544 tb rfl (by have hNN := nb; omega) rfl ?_
  refine ev_aload_n 546 dL_law_545 rfl rfl ?_
  refine ev_iload_n 547 dL_law_546 rfl rfl ?_
  refine ev_iconstN 548 5 dL_law_547 rfl ?_
  refine ev_iaddN 549 dL_law_548 rfl ?_
  refine ev_ialdR 550 _ dL_law_549 tb rfl (by have hNN := nb; omega) rfl ?_
  refine ev_invVF 553 (Mc := mX11_wave) ⟨lk613, lk75, hdX11_wave, (Nat.le_of_ble_eq_true rfl), (Nat.le_of_ble_eq_true rfl)⟩ lk610 lk611 lk612 mm_cl11 rfl dL_law_550 (c1) rfl tx (Nat.le_of_ble_eq_true rfl) rfl rfl (hb) (tb) (tb1) (k.1) (fun hf => ?_)
  have e1 : I1 b (i + 1) = I b (i + 1) := hf _ (by omega) (by omega)
  have e2 : I1 b (i + 2) = I b (i + 2) := hf _ (by omega) (by omega)
  have e3 : I1 b (i + 3) = I b (i + 3) := hf _ (by omega) (by omega)
  have e4 : I1 b (i + 4) = I b (i + 4) := hf _ (by omega) (by omega)
  have e5 : I1 b (i + 5) = I b (i + 5) := hf _ (by omega) (by omega)
  rw [← e1, ← e2, ← e3, ← e4, ← e5] at c2
  refine ev_aload_n 554 dL_law_553 rfl rfl ?_
  refine ev_aload_n 555 dL_law_554 rfl rfl ?_
  refine ev_iload_n 556 dL_law_555 rfl rfl ?_
  refine ev_iconstN 557 1 dL_law_556 rfl ?_
  refine ev_iaddN 558 dL_law_557 rfl ?_
  refine ev_ialdR 559 _ dL_law_558 tb1 rfl (by have hNN := nb1; omega) rfl ?_
  refine ev_aload_n 560 dL_law_559 rfl rfl ?_
  refine ev_iload_n 561 dL_law_560 rfl rfl ?_
  refine ev_iconstN 562 2 dL_law_561 rfl ?_
  refine ev_iaddN 563 dL_law_562 rfl ?_
  refine ev_ialdR 564 _ dL_law_563 tb1 rfl (by have hNN := nb1; omega) rfl ?_
  refine ev_aload_n 565 dL_law_564 rfl rfl ?_
  refine ev_iload_n 566 dL_law_565 rfl rfl ?_
  refine ev_iconstN 567 3 dL_law_566 rfl ?_
  refine ev_iaddN 568 dL_law_567 rfl ?_
  refine ev_ialdR 569 _ dL_law_568 tb1 rfl (by have hNN := nb1; omega) rfl ?_
  refine ev_aload_n 570 dL_law_569 rfl rfl ?_
  refine ev_iload_n 571 dL_law_570 rfl rfl ?_
  refine ev_iconstN 572 4 dL_law_571 rfl ?_
  refine ev_iaddN 573 dL_law_572 rfl ?_
  refine ev_ialdR 574 _ dL_law_573 tb1 rfl (by have hNN := nb1; omega) rfl ?_
  refine ev_aload_n 575 dL_law_574 rfl rfl ?_
  refine ev_iload_n 576 dL_law_575 rfl rfl ?_
  refine ev_iconstN 577 5 dL_law_576 rfl ?_
  refine ev_iaddN 578 dL_law_577 rfl ?_
  refine ev_ialdR 579 _ dL_law_578 tb1 rfl (by have hNN := nb1; omega) rfl ?_
  refine ev_invV 582 (Mc := mX12_wave) ⟨lk1582, lk80, hdX12_wave, (Nat.le_of_ble_eq_true rfl), (Nat.le_of_ble_eq_true rfl)⟩ lk1579 lk1580 lk1581 mm_cl12 rfl dL_law_579 (c2) rfl tm1 (Nat.le_of_ble_eq_true rfl) rfl rfl ?_
  refine ev_icmp_eq 585 1823 dL_law_582 (by decide) rfl (fun hbr => ?_) (fun hx => absurd ((rfl)) hx)
  exact k
theorem law_c9 (h : LHy g b L K x m i B I J P) : LSt g b K x m i 587 B I J P := by
  obtain ⟨hK, hS, tb, nb, hi, hL, hb, tx, tm⟩ := h
  obtain ⟨r, B1, I1, J1, P1, I2, J2, P2, c1, c2, rs, ex, nx, sl, lo⟩ := (show JO g mX11_encode mX12_encode [.int (I b (i + 1))] from jo_encode) K x m B I J P hK hS
  have tb1 : mm_T B1 b = 1 := (ex.1 b (by omega)).1.trans tb
  have nb1 : mm_N B1 b = L := (ex.1 b (by omega)).2.trans nb
  have tm1 : mm_T B1 m = 112 := (ex.1 m (by omega)).1.trans tm
  refine ⟨B1, I2, J2, P2, rs, ex, nx, sl, lo, fun Z k => ?_⟩
  refine ev_aload_n 588 dL_law_587 rfl rfl ?_
  refine ev_aload_n 589 dL_law_588 rfl rfl ?_
  refine ev_iload_n 590 dL_law_589 rfl rfl ?_
  refine ev_iconstN 591 1 dL_law_590 rfl ?_
  refine ev_iaddN 592 dL_law_591 rfl ?_
  refine ev_ialdR 593 _ dL_law_592 tb rfl (by have hNN := nb; omega) rfl ?_
  refine ev_invVF 596 (Mc := mX11_encode) ⟨lk636, lk75, hdX11_encode, (Nat.le_of_ble_eq_true rfl), (Nat.le_of_ble_eq_true rfl)⟩ lk633 lk634 lk635 mm_cl11 rfl dL_law_593 (c1) rfl tx (Nat.le_of_ble_eq_true rfl) rfl rfl (hb) (tb) (tb1) (k.1) (fun hf => ?_)
  have e1 : I1 b (i + 1) = I b (i + 1) := hf _ (by omega) (by omega)
  rw [← e1] at c2
  refine ev_aload_n 597 dL_law_596 rfl rfl ?_
  refine ev_aload_n 598 dL_law_597 rfl rfl ?_
  refine ev_iload_n 599 dL_law_598 rfl rfl ?_
  refine ev_iconstN 600 1 dL_law_599 rfl ?_
  refine ev_iaddN 601 dL_law_600 rfl ?_
  refine ev_ialdR 602 _ dL_law_601 tb1 rfl (by have hNN := nb1; omega) rfl ?_
  refine ev_invV 605 (Mc := mX12_encode) ⟨lk1595, lk80, hdX12_encode, (Nat.le_of_ble_eq_true rfl), (Nat.le_of_ble_eq_true rfl)⟩ lk1592 lk1593 lk1594 mm_cl12 rfl dL_law_602 (c2) rfl tm1 (Nat.le_of_ble_eq_true rfl) rfl rfl ?_
  refine ev_icmp_eq 608 1823 dL_law_605 (by decide) rfl (fun hbr => ?_) (fun hx => absurd ((rfl)) hx)
  exact k
theorem law_c10 (h : LHy g b L K x m i B I J P) : LSt g b K x m i 610 B I J P := by
  obtain ⟨hK, hS, tb, nb, hi, hL, hb, tx, tm⟩ := h
  obtain ⟨r, B1, I1, J1, P1, I2, J2, P2, c1, c2, rs, ex, nx, sl, lo⟩ := (show JO g mX11_pick mX12_pick [.int (I b (i + 1)), .int (I b (i + 2)), .int (I b (i + 3))] from jo_pick) K x m B I J P hK hS
  have tb1 : mm_T B1 b = 1 := (ex.1 b (by omega)).1.trans tb
  have nb1 : mm_N B1 b = L := (ex.1 b (by omega)).2.trans nb
  have tm1 : mm_T B1 m = 112 := (ex.1 m (by omega)).1.trans tm
  refine ⟨B1, I2, J2, P2, rs, ex, nx, sl, lo, fun Z k => ?_⟩
  refine ev_aload_n 611 dL_law_610 rfl rfl ?_
  refine ev_aload_n 612 dL_law_611 rfl rfl ?_
  refine ev_iload_n 613 dL_law_612 rfl rfl ?_
  refine ev_iconstN 614 1 dL_law_613 rfl ?_
  refine ev_iaddN 615 dL_law_614 rfl ?_
  refine ev_ialdR 616 _ dL_law_615 tb rfl (by have hNN := nb; omega) rfl ?_
  refine ev_aload_n 617 dL_law_616 rfl rfl ?_
  refine ev_iload_n 618 dL_law_617 rfl rfl ?_
  refine ev_iconstN 619 2 dL_law_618 rfl ?_
  refine ev_iaddN 620 dL_law_619 rfl ?_
  refine ev_ialdR 621 _ dL_law_620 tb rfl (by have hNN := nb; omega) rfl ?_
  refine ev_aload_n 622 dL_law_621 rfl rfl ?_
  refine ev_iload_n 623 dL_law_622 rfl rfl ?_
  refine ev_iconstN 624 3 dL_law_623 rfl ?_
  refine ev_iaddN 625 dL_law_624 rfl ?_
  refine ev_ialdR 626 _ dL_law_625 tb rfl (by have hNN := nb; omega) rfl ?_
  refine ev_invVF 629 (Mc := mX11_pick) ⟨lk882, lk75, hdX11_pick, (Nat.le_of_ble_eq_true rfl), (Nat.le_of_ble_eq_true rfl)⟩ lk879 lk880 lk881 mm_cl11 rfl dL_law_626 (c1) rfl tx (Nat.le_of_ble_eq_true rfl) rfl rfl (hb) (tb) (tb1) (k.1) (fun hf => ?_)
  have e1 : I1 b (i + 1) = I b (i + 1) := hf _ (by omega) (by omega)
  have e2 : I1 b (i + 2) = I b (i + 2) := hf _ (by omega) (by omega)
  have e3 : I1 b (i + 3) = I b (i + 3) := hf _ (by omega) (by omega)
  rw [← e1, ← e2, ← e3] at c2
  refine ev_aload_n 630 dL_law_629 rfl rfl ?_
  refine ev_aload_n 631 dL_law_630 rfl rfl ?_
  refine ev_iload_n 632 dL_law_631 rfl rfl ?_
  refine ev_iconstN 633 1 dL_law_632 rfl ?_
  refine ev_iaddN 634 dL_law_633 rfl ?_
  refine ev_ialdR 635 _ dL_law_634 tb1 rfl (by have hNN := nb1; omega) rfl ?_
  refine ev_aload_n 636 dL_law_635 rfl rfl ?_
  refine ev_iload_n 637 dL_law_636 rfl rfl ?_
  refine ev_iconstN 638 2 dL_law_637 rfl ?_
  refine ev_iaddN 639 dL_law_638 rfl ?_
  refine ev_ialdR 640 _ dL_law_639 tb1 rfl (by have hNN := nb1; omega) rfl ?_
  refine ev_aload_n 641 dL_law_640 rfl rfl ?_
  refine ev_iload_n 642 dL_law_641 rfl rfl ?_
  refine ev_iconstN 643 3 dL_law_642 rfl ?_
  refine ev_iaddN 644 dL_law_643 rfl ?_
  refine ev_ialdR 645 _ dL_law_644 tb1 rfl (by have hNN := nb1; omega) rfl ?_
  refine ev_invV 648 (Mc := mX12_pick) ⟨lk1706, lk80, hdX12_pick, (Nat.le_of_ble_eq_true rfl), (Nat.le_of_ble_eq_true rfl)⟩ lk1703 lk1704 lk1705 mm_cl12 rfl dL_law_645 (c2) rfl tm1 (Nat.le_of_ble_eq_true rfl) rfl rfl ?_
  refine ev_icmp_eq 651 1823 dL_law_648 (by decide) rfl (fun hbr => ?_) (fun hx => absurd ((rfl)) hx)
  exact k
theorem law_c11 (h : LHy g b L K x m i B I J P) : LSt g b K x m i 653 B I J P := by
  obtain ⟨hK, hS, tb, nb, hi, hL, hb, tx, tm⟩ := h
  obtain ⟨r, B1, I1, J1, P1, I2, J2, P2, c1, c2, rs, ex, nx, sl, lo⟩ := (show JO g mX11_index mX12_index [.int (I b (i + 1)), .int (I b (i + 2))] from jo_index) K x m B I J P hK hS
  have tb1 : mm_T B1 b = 1 := (ex.1 b (by omega)).1.trans tb
  have nb1 : mm_N B1 b = L := (ex.1 b (by omega)).2.trans nb
  have tm1 : mm_T B1 m = 112 := (ex.1 m (by omega)).1.trans tm
  refine ⟨B1, I2, J2, P2, rs, ex, nx, sl, lo, fun Z k => ?_⟩
  refine ev_aload_n 654 dL_law_653 rfl rfl ?_
  refine ev_aload_n 655 dL_law_654 rfl rfl ?_
  refine ev_iload_n 656 dL_law_655 rfl rfl ?_
  refine ev_iconstN 657 1 dL_law_656 rfl ?_
  refine ev_iaddN 658 dL_law_657 rfl ?_
  refine ev_ialdR 659 _ dL_law_658 tb rfl (by have hNN := nb; omega) rfl ?_
  refine ev_aload_n 660 dL_law_659 rfl rfl ?_
  refine ev_iload_n 661 dL_law_660 rfl rfl ?_
  refine ev_iconstN 662 2 dL_law_661 rfl ?_
  refine ev_iaddN 663 dL_law_662 rfl ?_
  refine ev_ialdR 664 _ dL_law_663 tb rfl (by have hNN := nb; omega) rfl ?_
  refine ev_invVF 667 (Mc := mX11_index) ⟨lk897, lk75, hdX11_index, (Nat.le_of_ble_eq_true rfl), (Nat.le_of_ble_eq_true rfl)⟩ lk894 lk895 lk896 mm_cl11 rfl dL_law_664 (c1) rfl tx (Nat.le_of_ble_eq_true rfl) rfl rfl (hb) (tb) (tb1) (k.1) (fun hf => ?_)
  have e1 : I1 b (i + 1) = I b (i + 1) := hf _ (by omega) (by omega)
  have e2 : I1 b (i + 2) = I b (i + 2) := hf _ (by omega) (by omega)
  rw [← e1, ← e2] at c2
  refine ev_aload_n 668 dL_law_667 rfl rfl ?_
  refine ev_aload_n 669 dL_law_668 rfl rfl ?_
  refine ev_iload_n 670 dL_law_669 rfl rfl ?_
  refine ev_iconstN 671 1 dL_law_670 rfl ?_
  refine ev_iaddN 672 dL_law_671 rfl ?_
  refine ev_ialdR 673 _ dL_law_672 tb1 rfl (by have hNN := nb1; omega) rfl ?_
  refine ev_aload_n 674 dL_law_673 rfl rfl ?_
  refine ev_iload_n 675 dL_law_674 rfl rfl ?_
  refine ev_iconstN 676 2 dL_law_675 rfl ?_
  refine ev_iaddN 677 dL_law_676 rfl ?_
  refine ev_ialdR 678 _ dL_law_677 tb1 rfl (by have hNN := nb1; omega) rfl ?_
  refine ev_invV 681 (Mc := mX12_index) ⟨lk1710, lk80, hdX12_index, (Nat.le_of_ble_eq_true rfl), (Nat.le_of_ble_eq_true rfl)⟩ lk1707 lk1708 lk1709 mm_cl12 rfl dL_law_678 (c2) rfl tm1 (Nat.le_of_ble_eq_true rfl) rfl rfl ?_
  refine ev_icmp_eq 684 1823 dL_law_681 (by decide) rfl (fun hbr => ?_) (fun hx => absurd ((rfl)) hx)
  exact k
theorem law_c12 (h : LHy g b L K x m i B I J P) : LSt g b K x m i 686 B I J P := by
  obtain ⟨hK, hS, tb, nb, hi, hL, hb, tx, tm⟩ := h
  by_cases z : I b (i + 4) = 0
  · have _ := z
    obtain ⟨r, B1, I1, J1, P1, I2, J2, P2, c1, c2, rs, ex, nx, sl, lo⟩ := (show JOL g mX11_cost mX12_cost [.int (I b (i + 1)), .int (I b (i + 2)), .int (I b (i + 3)), .int (nI 0)] from jo_cost (by omega)) K x m B I J P hK hS
    have tb1 : mm_T B1 b = 1 := (ex.1 b (by omega)).1.trans tb
    have nb1 : mm_N B1 b = L := (ex.1 b (by omega)).2.trans nb
    have tm1 : mm_T B1 m = 112 := (ex.1 m (by omega)).1.trans tm
    refine ⟨B1, I2, J2, P2, rs, ex, nx, sl, lo, fun Z k => ?_⟩
    refine ev_aload_n 687 dL_law_686 rfl rfl ?_
    refine ev_aload_n 688 dL_law_687 rfl rfl ?_
    refine ev_iload_n 689 dL_law_688 rfl rfl ?_
    refine ev_iconstN 690 1 dL_law_689 rfl ?_
    refine ev_iaddN 691 dL_law_690 rfl ?_
    refine ev_ialdR 692 _ dL_law_691 tb rfl (by have hNN := nb; omega) rfl ?_
    refine ev_aload_n 693 dL_law_692 rfl rfl ?_
    refine ev_iload_n 694 dL_law_693 rfl rfl ?_
    refine ev_iconstN 695 2 dL_law_694 rfl ?_
    refine ev_iaddN 696 dL_law_695 rfl ?_
    refine ev_ialdR 697 _ dL_law_696 tb rfl (by have hNN := nb; omega) rfl ?_
    refine ev_aload_n 698 dL_law_697 rfl rfl ?_
    refine ev_iload_n 699 dL_law_698 rfl rfl ?_
    refine ev_iconstN 700 3 dL_law_699 rfl ?_
    refine ev_iaddN 701 dL_law_700 rfl ?_
    refine ev_ialdR 702 _ dL_law_701 tb rfl (by have hNN := nb; omega) rfl ?_
    refine ev_aload_n 703 dL_law_702 rfl rfl ?_
    refine ev_iload_n 704 dL_law_703 rfl rfl ?_
    refine ev_iconstN 705 4 dL_law_704 rfl ?_
    refine ev_iaddN 706 dL_law_705 rfl ?_
    refine ev_ialdR 707 _ dL_law_706 tb rfl (by have hNN := nb; omega) rfl ?_
    refine ev_if_eq 710 714 dL_law_707 (by decide) rfl (fun hbr => ?_) (fun hx => absurd ((z)) hx)
    refine ev_iconstN 715 0 dL_law_714 rfl ?_
    refine ev_invVF 718 (Mc := mX11_cost) ⟨lk902, lk75, hdX11_cost, (Nat.le_of_ble_eq_true rfl), (Nat.le_of_ble_eq_true rfl)⟩ lk899 lk900 lk901 mm_cl11 rfl dL_law_715 (c1) rfl tx (Nat.le_of_ble_eq_true rfl) rfl rfl (hb) (tb) (tb1) (k.1) (fun hf => ?_)
    have e1 : I1 b (i + 1) = I b (i + 1) := hf _ (by omega) (by omega)
    have e2 : I1 b (i + 2) = I b (i + 2) := hf _ (by omega) (by omega)
    have e3 : I1 b (i + 3) = I b (i + 3) := hf _ (by omega) (by omega)
    have e4 : I1 b (i + 4) = I b (i + 4) := hf _ (by omega) (by omega)
    rw [← e1, ← e2, ← e3] at c2
    rw [← e4] at z
    refine ev_aload_n 719 dL_law_718 rfl rfl ?_
    refine ev_aload_n 720 dL_law_719 rfl rfl ?_
    refine ev_iload_n 721 dL_law_720 rfl rfl ?_
    refine ev_iconstN 722 1 dL_law_721 rfl ?_
    refine ev_iaddN 723 dL_law_722 rfl ?_
    refine ev_ialdR 724 _ dL_law_723 tb1 rfl (by have hNN := nb1; omega) rfl ?_
    refine ev_aload_n 725 dL_law_724 rfl rfl ?_
    refine ev_iload_n 726 dL_law_725 rfl rfl ?_
    refine ev_iconstN 727 2 dL_law_726 rfl ?_
    refine ev_iaddN 728 dL_law_727 rfl ?_
    refine ev_ialdR 729 _ dL_law_728 tb1 rfl (by have hNN := nb1; omega) rfl ?_
    refine ev_aload_n 730 dL_law_729 rfl rfl ?_
    refine ev_iload_n 731 dL_law_730 rfl rfl ?_
    refine ev_iconstN 732 3 dL_law_731 rfl ?_
    refine ev_iaddN 733 dL_law_732 rfl ?_
    refine ev_ialdR 734 _ dL_law_733 tb1 rfl (by have hNN := nb1; omega) rfl ?_
    refine ev_aload_n 735 dL_law_734 rfl rfl ?_
    refine ev_iload_n 736 dL_law_735 rfl rfl ?_
    refine ev_iconstN 737 4 dL_law_736 rfl ?_
    refine ev_iaddN 738 dL_law_737 rfl ?_
    refine ev_ialdR 739 _ dL_law_738 tb1 rfl (by have hNN := nb1; omega) rfl ?_
    refine ev_if_eq 742 746 dL_law_739 (by decide) rfl (fun hbr => ?_) (fun hx => absurd ((z)) hx)
    refine ev_iconstN 747 0 dL_law_746 rfl ?_
    refine ev_invV 750 (Mc := mX12_cost) ⟨lk1719, lk80, hdX12_cost, (Nat.le_of_ble_eq_true rfl), (Nat.le_of_ble_eq_true rfl)⟩ lk1716 lk1717 lk1718 mm_cl12 rfl dL_law_747 (c2) rfl tm1 (Nat.le_of_ble_eq_true rfl) rfl rfl ?_
    refine ev_lcmp 751 dL_law_750 rfl ?_
    refine ev_lc_eq 754 1823 dL_law_751 (by decide) rfl (fun hbr => ?_) (fun hx => absurd ((rfl)) hx)
    exact k
  · have _ := z
    obtain ⟨r, B1, I1, J1, P1, I2, J2, P2, c1, c2, rs, ex, nx, sl, lo⟩ := (show JOL g mX11_cost mX12_cost [.int (I b (i + 1)), .int (I b (i + 2)), .int (I b (i + 3)), .int (nI 1)] from jo_cost (by omega)) K x m B I J P hK hS
    have tb1 : mm_T B1 b = 1 := (ex.1 b (by omega)).1.trans tb
    have nb1 : mm_N B1 b = L := (ex.1 b (by omega)).2.trans nb
    have tm1 : mm_T B1 m = 112 := (ex.1 m (by omega)).1.trans tm
    refine ⟨B1, I2, J2, P2, rs, ex, nx, sl, lo, fun Z k => ?_⟩
    refine ev_aload_n 687 dL_law_686 rfl rfl ?_
    refine ev_aload_n 688 dL_law_687 rfl rfl ?_
    refine ev_iload_n 689 dL_law_688 rfl rfl ?_
    refine ev_iconstN 690 1 dL_law_689 rfl ?_
    refine ev_iaddN 691 dL_law_690 rfl ?_
    refine ev_ialdR 692 _ dL_law_691 tb rfl (by have hNN := nb; omega) rfl ?_
    refine ev_aload_n 693 dL_law_692 rfl rfl ?_
    refine ev_iload_n 694 dL_law_693 rfl rfl ?_
    refine ev_iconstN 695 2 dL_law_694 rfl ?_
    refine ev_iaddN 696 dL_law_695 rfl ?_
    refine ev_ialdR 697 _ dL_law_696 tb rfl (by have hNN := nb; omega) rfl ?_
    refine ev_aload_n 698 dL_law_697 rfl rfl ?_
    refine ev_iload_n 699 dL_law_698 rfl rfl ?_
    refine ev_iconstN 700 3 dL_law_699 rfl ?_
    refine ev_iaddN 701 dL_law_700 rfl ?_
    refine ev_ialdR 702 _ dL_law_701 tb rfl (by have hNN := nb; omega) rfl ?_
    refine ev_aload_n 703 dL_law_702 rfl rfl ?_
    refine ev_iload_n 704 dL_law_703 rfl rfl ?_
    refine ev_iconstN 705 4 dL_law_704 rfl ?_
    refine ev_iaddN 706 dL_law_705 rfl ?_
    refine ev_ialdR 707 _ dL_law_706 tb rfl (by have hNN := nb; omega) rfl ?_
    refine ev_if_eq 710 714 dL_law_707 (by decide) rfl (fun hx => absurd hx ((z))) (fun hbr => ?_)
    refine ev_iconstN 711 1 dL_law_710 rfl ?_
    refine ev_goto 715 dL_law_711 (by decide) ?_
    refine ev_invVF 718 (Mc := mX11_cost) ⟨lk902, lk75, hdX11_cost, (Nat.le_of_ble_eq_true rfl), (Nat.le_of_ble_eq_true rfl)⟩ lk899 lk900 lk901 mm_cl11 rfl dL_law_715 (c1) rfl tx (Nat.le_of_ble_eq_true rfl) rfl rfl (hb) (tb) (tb1) (k.1) (fun hf => ?_)
    have e1 : I1 b (i + 1) = I b (i + 1) := hf _ (by omega) (by omega)
    have e2 : I1 b (i + 2) = I b (i + 2) := hf _ (by omega) (by omega)
    have e3 : I1 b (i + 3) = I b (i + 3) := hf _ (by omega) (by omega)
    have e4 : I1 b (i + 4) = I b (i + 4) := hf _ (by omega) (by omega)
    rw [← e1, ← e2, ← e3] at c2
    rw [← e4] at z
    refine ev_aload_n 719 dL_law_718 rfl rfl ?_
    refine ev_aload_n 720 dL_law_719 rfl rfl ?_
    refine ev_iload_n 721 dL_law_720 rfl rfl ?_
    refine ev_iconstN 722 1 dL_law_721 rfl ?_
    refine ev_iaddN 723 dL_law_722 rfl ?_
    refine ev_ialdR 724 _ dL_law_723 tb1 rfl (by have hNN := nb1; omega) rfl ?_
    refine ev_aload_n 725 dL_law_724 rfl rfl ?_
    refine ev_iload_n 726 dL_law_725 rfl rfl ?_
    refine ev_iconstN 727 2 dL_law_726 rfl ?_
    refine ev_iaddN 728 dL_law_727 rfl ?_
    refine ev_ialdR 729 _ dL_law_728 tb1 rfl (by have hNN := nb1; omega) rfl ?_
    refine ev_aload_n 730 dL_law_729 rfl rfl ?_
    refine ev_iload_n 731 dL_law_730 rfl rfl ?_
    refine ev_iconstN 732 3 dL_law_731 rfl ?_
    refine ev_iaddN 733 dL_law_732 rfl ?_
    refine ev_ialdR 734 _ dL_law_733 tb1 rfl (by have hNN := nb1; omega) rfl ?_
    refine ev_aload_n 735 dL_law_734 rfl rfl ?_
    refine ev_iload_n 736 dL_law_735 rfl rfl ?_
    refine ev_iconstN 737 4 dL_law_736 rfl ?_
    refine ev_iaddN 738 dL_law_737 rfl ?_
    refine ev_ialdR 739 _ dL_law_738 tb1 rfl (by have hNN := nb1; omega) rfl ?_
    refine ev_if_eq 742 746 dL_law_739 (by decide) rfl (fun hx => absurd hx ((z))) (fun hbr => ?_)
    refine ev_iconstN 743 1 dL_law_742 rfl ?_
    refine ev_goto 747 dL_law_743 (by decide) ?_
    refine ev_invV 750 (Mc := mX12_cost) ⟨lk1719, lk80, hdX12_cost, (Nat.le_of_ble_eq_true rfl), (Nat.le_of_ble_eq_true rfl)⟩ lk1716 lk1717 lk1718 mm_cl12 rfl dL_law_747 (c2) rfl tm1 (Nat.le_of_ble_eq_true rfl) rfl rfl ?_
    refine ev_lcmp 751 dL_law_750 rfl ?_
    refine ev_lc_eq 754 1823 dL_law_751 (by decide) rfl (fun hbr => ?_) (fun hx => absurd ((rfl)) hx)
    exact k
theorem law_c13 (h : LHy g b L K x m i B I J P) : LSt g b K x m i 756 B I J P := by
  obtain ⟨hK, hS, tb, nb, hi, hL, hb, tx, tm⟩ := h
  obtain ⟨r, B1, I1, J1, P1, I2, J2, P2, c1, c2, rs, ex, nx, sl, lo⟩ := (show JO g mX11_length mX12_length [.int (I b (i + 1)), .int (I b (i + 2))] from jo_length) K x m B I J P hK hS
  have tb1 : mm_T B1 b = 1 := (ex.1 b (by omega)).1.trans tb
  have nb1 : mm_N B1 b = L := (ex.1 b (by omega)).2.trans nb
  have tm1 : mm_T B1 m = 112 := (ex.1 m (by omega)).1.trans tm
  refine ⟨B1, I2, J2, P2, rs, ex, nx, sl, lo, fun Z k => ?_⟩
  refine ev_aload_n 757 dL_law_756 rfl rfl ?_
  refine ev_aload_n 758 dL_law_757 rfl rfl ?_
  refine ev_iload_n 759 dL_law_758 rfl rfl ?_
  refine ev_iconstN 760 1 dL_law_759 rfl ?_
  refine ev_iaddN 761 dL_law_760 rfl ?_
  refine ev_ialdR 762 _ dL_law_761 tb rfl (by have hNN := nb; omega) rfl ?_
  refine ev_aload_n 763 dL_law_762 rfl rfl ?_
  refine ev_iload_n 764 dL_law_763 rfl rfl ?_
  refine ev_iconstN 765 2 dL_law_764 rfl ?_
  refine ev_iaddN 766 dL_law_765 rfl ?_
  refine ev_ialdR 767 _ dL_law_766 tb rfl (by have hNN := nb; omega) rfl ?_
  refine ev_invVF 770 (Mc := mX11_length) ⟨lk919, lk75, hdX11_length, (Nat.le_of_ble_eq_true rfl), (Nat.le_of_ble_eq_true rfl)⟩ lk916 lk917 lk918 mm_cl11 rfl dL_law_767 (c1) rfl tx (Nat.le_of_ble_eq_true rfl) rfl rfl (hb) (tb) (tb1) (k.1) (fun hf => ?_)
  have e1 : I1 b (i + 1) = I b (i + 1) := hf _ (by omega) (by omega)
  have e2 : I1 b (i + 2) = I b (i + 2) := hf _ (by omega) (by omega)
  rw [← e1, ← e2] at c2
  refine ev_aload_n 771 dL_law_770 rfl rfl ?_
  refine ev_aload_n 772 dL_law_771 rfl rfl ?_
  refine ev_iload_n 773 dL_law_772 rfl rfl ?_
  refine ev_iconstN 774 1 dL_law_773 rfl ?_
  refine ev_iaddN 775 dL_law_774 rfl ?_
  refine ev_ialdR 776 _ dL_law_775 tb1 rfl (by have hNN := nb1; omega) rfl ?_
  refine ev_aload_n 777 dL_law_776 rfl rfl ?_
  refine ev_iload_n 778 dL_law_777 rfl rfl ?_
  refine ev_iconstN 779 2 dL_law_778 rfl ?_
  refine ev_iaddN 780 dL_law_779 rfl ?_
  refine ev_ialdR 781 _ dL_law_780 tb1 rfl (by have hNN := nb1; omega) rfl ?_
  refine ev_invV 784 (Mc := mX12_length) ⟨lk1724, lk80, hdX12_length, (Nat.le_of_ble_eq_true rfl), (Nat.le_of_ble_eq_true rfl)⟩ lk1721 lk1722 lk1723 mm_cl12 rfl dL_law_781 (c2) rfl tm1 (Nat.le_of_ble_eq_true rfl) rfl rfl ?_
  refine ev_icmp_eq 787 1823 dL_law_784 (by decide) rfl (fun hbr => ?_) (fun hx => absurd ((rfl)) hx)
  exact k
theorem law_c14 (h : LHy g b L K x m i B I J P) : LSt g b K x m i 789 B I J P := by
  obtain ⟨hK, hS, tb, nb, hi, hL, hb, tx, tm⟩ := h
  obtain ⟨r, B1, I1, J1, P1, I2, J2, P2, c1, c2, rs, ex, nx, sl, lo⟩ := (show JO g mX11_byteOf mX12_byteOf [.int (I b (i + 1)), .int (I b (i + 2)), .int (I b (i + 3))] from jo_byteOf) K x m B I J P hK hS
  have tb1 : mm_T B1 b = 1 := (ex.1 b (by omega)).1.trans tb
  have nb1 : mm_N B1 b = L := (ex.1 b (by omega)).2.trans nb
  have tm1 : mm_T B1 m = 112 := (ex.1 m (by omega)).1.trans tm
  refine ⟨B1, I2, J2, P2, rs, ex, nx, sl, lo, fun Z k => ?_⟩
  refine ev_aload_n 790 dL_law_789 rfl rfl ?_
  refine ev_aload_n 791 dL_law_790 rfl rfl ?_
  refine ev_iload_n 792 dL_law_791 rfl rfl ?_
  refine ev_iconstN 793 1 dL_law_792 rfl ?_
  refine ev_iaddN 794 dL_law_793 rfl ?_
  refine ev_ialdR 795 _ dL_law_794 tb rfl (by have hNN := nb; omega) rfl ?_
  refine ev_aload_n 796 dL_law_795 rfl rfl ?_
  refine ev_iload_n 797 dL_law_796 rfl rfl ?_
  refine ev_iconstN 798 2 dL_law_797 rfl ?_
  refine ev_iaddN 799 dL_law_798 rfl ?_
  refine ev_ialdR 800 _ dL_law_799 tb rfl (by have hNN := nb; omega) rfl ?_
  refine ev_aload_n 801 dL_law_800 rfl rfl ?_
  refine ev_iload_n 802 dL_law_801 rfl rfl ?_
  refine ev_iconstN 803 3 dL_law_802 rfl ?_
  refine ev_iaddN 804 dL_law_803 rfl ?_
  refine ev_ialdR 805 _ dL_law_804 tb rfl (by have hNN := nb; omega) rfl ?_
  refine ev_invVF 808 (Mc := mX11_byteOf) ⟨lk935, lk75, hdX11_byteOf, (Nat.le_of_ble_eq_true rfl), (Nat.le_of_ble_eq_true rfl)⟩ lk932 lk933 lk934 mm_cl11 rfl dL_law_805 (c1) rfl tx (Nat.le_of_ble_eq_true rfl) rfl rfl (hb) (tb) (tb1) (k.1) (fun hf => ?_)
  have e1 : I1 b (i + 1) = I b (i + 1) := hf _ (by omega) (by omega)
  have e2 : I1 b (i + 2) = I b (i + 2) := hf _ (by omega) (by omega)
  have e3 : I1 b (i + 3) = I b (i + 3) := hf _ (by omega) (by omega)
  rw [← e1, ← e2, ← e3] at c2
  refine ev_aload_n 809 dL_law_808 rfl rfl ?_
  refine ev_aload_n 810 dL_law_809 rfl rfl ?_
  refine ev_iload_n 811 dL_law_810 rfl rfl ?_
  refine ev_iconstN 812 1 dL_law_811 rfl ?_
  refine ev_iaddN 813 dL_law_812 rfl ?_
  refine ev_ialdR 814 _ dL_law_813 tb1 rfl (by have hNN := nb1; omega) rfl ?_
  refine ev_aload_n 815 dL_law_814 rfl rfl ?_
  refine ev_iload_n 816 dL_law_815 rfl rfl ?_
  refine ev_iconstN 817 2 dL_law_816 rfl ?_
  refine ev_iaddN 818 dL_law_817 rfl ?_
  refine ev_ialdR 819 _ dL_law_818 tb1 rfl (by have hNN := nb1; omega) rfl ?_
  refine ev_aload_n 820 dL_law_819 rfl rfl ?_
  refine ev_iload_n 821 dL_law_820 rfl rfl ?_
  refine ev_iconstN 822 3 dL_law_821 rfl ?_
  refine ev_iaddN 823 dL_law_822 rfl ?_
  refine ev_ialdR 824 _ dL_law_823 tb1 rfl (by have hNN := nb1; omega) rfl ?_
  refine ev_invV 827 (Mc := mX12_byteOf) ⟨lk1732, lk80, hdX12_byteOf, (Nat.le_of_ble_eq_true rfl), (Nat.le_of_ble_eq_true rfl)⟩ lk1729 lk1730 lk1731 mm_cl12 rfl dL_law_824 (c2) rfl tm1 (Nat.le_of_ble_eq_true rfl) rfl rfl ?_
  refine ev_icmp_eq 830 1823 dL_law_827 (by decide) rfl (fun hbr => ?_) (fun hx => absurd ((rfl)) hx)
  exact k
theorem law_c15 (h : LHy g b L K x m i B I J P) : LSt g b K x m i 832 B I J P := by
  obtain ⟨hK, hS, tb, nb, hi, hL, hb, tx, tm⟩ := h
  obtain ⟨r, B1, I1, J1, P1, I2, J2, P2, c1, c2, rs, ex, nx, sl, lo⟩ := (show JO g mX11_label mX12_label [.int (I b (i + 1)), .int (I b (i + 2))] from jo_label) K x m B I J P hK hS
  have tb1 : mm_T B1 b = 1 := (ex.1 b (by omega)).1.trans tb
  have nb1 : mm_N B1 b = L := (ex.1 b (by omega)).2.trans nb
  have tm1 : mm_T B1 m = 112 := (ex.1 m (by omega)).1.trans tm
  refine ⟨B1, I2, J2, P2, rs, ex, nx, sl, lo, fun Z k => ?_⟩
  refine ev_aload_n 833 dL_law_832 rfl rfl ?_
  refine ev_aload_n 834 dL_law_833 rfl rfl ?_
  refine ev_iload_n 835 dL_law_834 rfl rfl ?_
  refine ev_iconstN 836 1 dL_law_835 rfl ?_
  refine ev_iaddN 837 dL_law_836 rfl ?_
  refine ev_ialdR 838 _ dL_law_837 tb rfl (by have hNN := nb; omega) rfl ?_
  refine ev_aload_n 839 dL_law_838 rfl rfl ?_
  refine ev_iload_n 840 dL_law_839 rfl rfl ?_
  refine ev_iconstN 841 2 dL_law_840 rfl ?_
  refine ev_iaddN 842 dL_law_841 rfl ?_
  refine ev_ialdR 843 _ dL_law_842 tb rfl (by have hNN := nb; omega) rfl ?_
  refine ev_invVF 846 (Mc := mX11_label) ⟨lk949, lk75, hdX11_label, (Nat.le_of_ble_eq_true rfl), (Nat.le_of_ble_eq_true rfl)⟩ lk946 lk947 lk948 mm_cl11 rfl dL_law_843 (c1) rfl tx (Nat.le_of_ble_eq_true rfl) rfl rfl (hb) (tb) (tb1) (k.1) (fun hf => ?_)
  have e1 : I1 b (i + 1) = I b (i + 1) := hf _ (by omega) (by omega)
  have e2 : I1 b (i + 2) = I b (i + 2) := hf _ (by omega) (by omega)
  rw [← e1, ← e2] at c2
  refine ev_aload_n 847 dL_law_846 rfl rfl ?_
  refine ev_aload_n 848 dL_law_847 rfl rfl ?_
  refine ev_iload_n 849 dL_law_848 rfl rfl ?_
  refine ev_iconstN 850 1 dL_law_849 rfl ?_
  refine ev_iaddN 851 dL_law_850 rfl ?_
  refine ev_ialdR 852 _ dL_law_851 tb1 rfl (by have hNN := nb1; omega) rfl ?_
  refine ev_aload_n 853 dL_law_852 rfl rfl ?_
  refine ev_iload_n 854 dL_law_853 rfl rfl ?_
  refine ev_iconstN 855 2 dL_law_854 rfl ?_
  refine ev_iaddN 856 dL_law_855 rfl ?_
  refine ev_ialdR 857 _ dL_law_856 tb1 rfl (by have hNN := nb1; omega) rfl ?_
  refine ev_invV 860 (Mc := mX12_label) ⟨lk1736, lk80, hdX12_label, (Nat.le_of_ble_eq_true rfl), (Nat.le_of_ble_eq_true rfl)⟩ lk1733 lk1734 lk1735 mm_cl12 rfl dL_law_857 (c2) rfl tm1 (Nat.le_of_ble_eq_true rfl) rfl rfl ?_
  refine ev_icmp_eq 863 1823 dL_law_860 (by decide) rfl (fun hbr => ?_) (fun hx => absurd ((rfl)) hx)
  exact k
theorem law_c16 (h : LHy g b L K x m i B I J P) : LSt g b K x m i 865 B I J P := by
  obtain ⟨hK, hS, tb, nb, hi, hL, hb, tx, tm⟩ := h
  obtain ⟨r, B1, I1, J1, P1, I2, J2, P2, c1, c2, rs, ex, nx, sl, lo⟩ := (show JO g mX11_lose mX12_lose [.int (I b (i + 1)), .int (I b (i + 2))] from jo_lose) K x m B I J P hK hS
  have tb1 : mm_T B1 b = 1 := (ex.1 b (by omega)).1.trans tb
  have nb1 : mm_N B1 b = L := (ex.1 b (by omega)).2.trans nb
  have tm1 : mm_T B1 m = 112 := (ex.1 m (by omega)).1.trans tm
  refine ⟨B1, I2, J2, P2, rs, ex, nx, sl, lo, fun Z k => ?_⟩
  refine ev_aload_n 866 dL_law_865 rfl rfl ?_
  refine ev_aload_n 867 dL_law_866 rfl rfl ?_
  refine ev_iload_n 868 dL_law_867 rfl rfl ?_
  refine ev_iconstN 869 1 dL_law_868 rfl ?_
  refine ev_iaddN 870 dL_law_869 rfl ?_
  refine ev_ialdR 871 _ dL_law_870 tb rfl (by have hNN := nb; omega) rfl ?_
  refine ev_aload_n 872 dL_law_871 rfl rfl ?_
  refine ev_iload_n 873 dL_law_872 rfl rfl ?_
  refine ev_iconstN 874 2 dL_law_873 rfl ?_
  refine ev_iaddN 875 dL_law_874 rfl ?_
  refine ev_ialdR 876 _ dL_law_875 tb rfl (by have hNN := nb; omega) rfl ?_
  refine ev_invVF 879 (Mc := mX11_lose) ⟨lk953, lk75, hdX11_lose, (Nat.le_of_ble_eq_true rfl), (Nat.le_of_ble_eq_true rfl)⟩ lk950 lk951 lk952 mm_cl11 rfl dL_law_876 (c1) rfl tx (Nat.le_of_ble_eq_true rfl) rfl rfl (hb) (tb) (tb1) (k.1) (fun hf => ?_)
  have e1 : I1 b (i + 1) = I b (i + 1) := hf _ (by omega) (by omega)
  have e2 : I1 b (i + 2) = I b (i + 2) := hf _ (by omega) (by omega)
  rw [← e1, ← e2] at c2
  refine ev_aload_n 880 dL_law_879 rfl rfl ?_
  refine ev_aload_n 881 dL_law_880 rfl rfl ?_
  refine ev_iload_n 882 dL_law_881 rfl rfl ?_
  refine ev_iconstN 883 1 dL_law_882 rfl ?_
  refine ev_iaddN 884 dL_law_883 rfl ?_
  refine ev_ialdR 885 _ dL_law_884 tb1 rfl (by have hNN := nb1; omega) rfl ?_
  refine ev_aload_n 886 dL_law_885 rfl rfl ?_
  refine ev_iload_n 887 dL_law_886 rfl rfl ?_
  refine ev_iconstN 888 2 dL_law_887 rfl ?_
  refine ev_iaddN 889 dL_law_888 rfl ?_
  refine ev_ialdR 890 _ dL_law_889 tb1 rfl (by have hNN := nb1; omega) rfl ?_
  refine ev_invV 893 (Mc := mX12_lose) ⟨lk1740, lk80, hdX12_lose, (Nat.le_of_ble_eq_true rfl), (Nat.le_of_ble_eq_true rfl)⟩ lk1737 lk1738 lk1739 mm_cl12 rfl dL_law_890 (c2) rfl tm1 (Nat.le_of_ble_eq_true rfl) rfl rfl ?_
  refine ev_icmp_eq 896 1823 dL_law_893 (by decide) rfl (fun hbr => ?_) (fun hx => absurd ((rfl)) hx)
  exact k
theorem law_c17 (h : LHy g b L K x m i B I J P) : LSt g b K x m i 898 B I J P := by
  obtain ⟨hK, hS, tb, nb, hi, hL, hb, tx, tm⟩ := h
  obtain ⟨r, B1, I1, J1, P1, I2, J2, P2, c1, c2, rs, ex, nx, sl, lo⟩ := (show JO g mX11_cut mX12_cut [.int (I b (i + 1)), .int (I b (i + 2)), .int (I b (i + 3))] from jo_cut) K x m B I J P hK hS
  have tb1 : mm_T B1 b = 1 := (ex.1 b (by omega)).1.trans tb
  have nb1 : mm_N B1 b = L := (ex.1 b (by omega)).2.trans nb
  have tm1 : mm_T B1 m = 112 := (ex.1 m (by omega)).1.trans tm
  refine ⟨B1, I2, J2, P2, rs, ex, nx, sl, lo, fun Z k => ?_⟩
  refine ev_aload_n 899 dL_law_898 rfl rfl ?_
  refine ev_aload_n 900 dL_law_899 rfl rfl ?_
  refine ev_iload_n 901 dL_law_900 rfl rfl ?_
  refine ev_iconstN 902 1 dL_law_901 rfl ?_
  refine ev_iaddN 903 dL_law_902 rfl ?_
  refine ev_ialdR 904 _ dL_law_903 tb rfl (by have hNN := nb; omega) rfl ?_
  refine ev_aload_n 905 dL_law_904 rfl rfl ?_
  refine ev_iload_n 906 dL_law_905 rfl rfl ?_
  refine ev_iconstN 907 2 dL_law_906 rfl ?_
  refine ev_iaddN 908 dL_law_907 rfl ?_
  refine ev_ialdR 909 _ dL_law_908 tb rfl (by have hNN := nb; omega) rfl ?_
  refine ev_aload_n 910 dL_law_909 rfl rfl ?_
  refine ev_iload_n 911 dL_law_910 rfl rfl ?_
  refine ev_iconstN 912 3 dL_law_911 rfl ?_
  refine ev_iaddN 913 dL_law_912 rfl ?_
  refine ev_ialdR 914 _ dL_law_913 tb rfl (by have hNN := nb; omega) rfl ?_
  refine ev_invVF 917 (Mc := mX11_cut) ⟨lk957, lk75, hdX11_cut, (Nat.le_of_ble_eq_true rfl), (Nat.le_of_ble_eq_true rfl)⟩ lk954 lk955 lk956 mm_cl11 rfl dL_law_914 (c1) rfl tx (Nat.le_of_ble_eq_true rfl) rfl rfl (hb) (tb) (tb1) (k.1) (fun hf => ?_)
  have e1 : I1 b (i + 1) = I b (i + 1) := hf _ (by omega) (by omega)
  have e2 : I1 b (i + 2) = I b (i + 2) := hf _ (by omega) (by omega)
  have e3 : I1 b (i + 3) = I b (i + 3) := hf _ (by omega) (by omega)
  rw [← e1, ← e2, ← e3] at c2
  refine ev_aload_n 918 dL_law_917 rfl rfl ?_
  refine ev_aload_n 919 dL_law_918 rfl rfl ?_
  refine ev_iload_n 920 dL_law_919 rfl rfl ?_
  refine ev_iconstN 921 1 dL_law_920 rfl ?_
  refine ev_iaddN 922 dL_law_921 rfl ?_
  refine ev_ialdR 923 _ dL_law_922 tb1 rfl (by have hNN := nb1; omega) rfl ?_
  refine ev_aload_n 924 dL_law_923 rfl rfl ?_
  refine ev_iload_n 925 dL_law_924 rfl rfl ?_
  refine ev_iconstN 926 2 dL_law_925 rfl ?_
  refine ev_iaddN 927 dL_law_926 rfl ?_
  refine ev_ialdR 928 _ dL_law_927 tb1 rfl (by have hNN := nb1; omega) rfl ?_
  refine ev_aload_n 929 dL_law_928 rfl rfl ?_
  refine ev_iload_n 930 dL_law_929 rfl rfl ?_
  refine ev_iconstN 931 3 dL_law_930 rfl ?_
  refine ev_iaddN 932 dL_law_931 rfl ?_
  refine ev_ialdR 933 _ dL_law_932 tb1 rfl (by have hNN := nb1; omega) rfl ?_
  refine ev_invV 936 (Mc := mX12_cut) ⟨lk1744, lk80, hdX12_cut, (Nat.le_of_ble_eq_true rfl), (Nat.le_of_ble_eq_true rfl)⟩ lk1741 lk1742 lk1743 mm_cl12 rfl dL_law_933 (c2) rfl tm1 (Nat.le_of_ble_eq_true rfl) rfl rfl ?_
  refine ev_icmp_eq 939 1823 dL_law_936 (by decide) rfl (fun hbr => ?_) (fun hx => absurd ((rfl)) hx)
  exact k
theorem law_c18 (h : LHy g b L K x m i B I J P) : LSt g b K x m i 941 B I J P := by
  obtain ⟨hK, hS, tb, nb, hi, hL, hb, tx, tm⟩ := h
  obtain ⟨r, B1, I1, J1, P1, I2, J2, P2, c1, c2, rs, ex, nx, sl, lo⟩ := (show JO g mX11_damage mX12_damage [.int (I b (i + 1)), .int (I b (i + 2)), .int (I b (i + 3)), .int (I b (i + 4))] from jo_damage) K x m B I J P hK hS
  have tb1 : mm_T B1 b = 1 := (ex.1 b (by omega)).1.trans tb
  have nb1 : mm_N B1 b = L := (ex.1 b (by omega)).2.trans nb
  have tm1 : mm_T B1 m = 112 := (ex.1 m (by omega)).1.trans tm
  refine ⟨B1, I2, J2, P2, rs, ex, nx, sl, lo, fun Z k => ?_⟩
  refine ev_aload_n 942 dL_law_941 rfl rfl ?_
  refine ev_aload_n 943 dL_law_942 rfl rfl ?_
  refine ev_iload_n 944 dL_law_943 rfl rfl ?_
  refine ev_iconstN 945 1 dL_law_944 rfl ?_
  refine ev_iaddN 946 dL_law_945 rfl ?_
  refine ev_ialdR 947 _ dL_law_946 tb rfl (by have hNN := nb; omega) rfl ?_
  refine ev_aload_n 948 dL_law_947 rfl rfl ?_
  refine ev_iload_n 949 dL_law_948 rfl rfl ?_
  refine ev_iconstN 950 2 dL_law_949 rfl ?_
  refine ev_iaddN 951 dL_law_950 rfl ?_
  refine ev_ialdR 952 _ dL_law_951 tb rfl (by have hNN := nb; omega) rfl ?_
  refine ev_aload_n 953 dL_law_952 rfl rfl ?_
  refine ev_iload_n 954 dL_law_953 rfl rfl ?_
  refine ev_iconstN 955 3 dL_law_954 rfl ?_
  refine ev_iaddN 956 dL_law_955 rfl ?_
  refine ev_ialdR 957 _ dL_law_956 tb rfl (by have hNN := nb; omega) rfl ?_
  refine ev_aload_n 958 dL_law_957 rfl rfl ?_
  refine ev_iload_n 959 dL_law_958 rfl rfl ?_
  refine ev_iconstN 960 4 dL_law_959 rfl ?_
  refine ev_iaddN 961 dL_law_960 rfl ?_
  refine ev_ialdR 962 _ dL_law_961 tb rfl (by have hNN := nb; omega) rfl ?_
  refine ev_invVF 965 (Mc := mX11_damage) ⟨lk986, lk75, hdX11_damage, (Nat.le_of_ble_eq_true rfl), (Nat.le_of_ble_eq_true rfl)⟩ lk983 lk984 lk985 mm_cl11 rfl dL_law_962 (c1) rfl tx (Nat.le_of_ble_eq_true rfl) rfl rfl (hb) (tb) (tb1) (k.1) (fun hf => ?_)
  have e1 : I1 b (i + 1) = I b (i + 1) := hf _ (by omega) (by omega)
  have e2 : I1 b (i + 2) = I b (i + 2) := hf _ (by omega) (by omega)
  have e3 : I1 b (i + 3) = I b (i + 3) := hf _ (by omega) (by omega)
  have e4 : I1 b (i + 4) = I b (i + 4) := hf _ (by omega) (by omega)
  rw [← e1, ← e2, ← e3, ← e4] at c2
  refine ev_aload_n 966 dL_law_965 rfl rfl ?_
  refine ev_aload_n 967 dL_law_966 rfl rfl ?_
  refine ev_iload_n 968 dL_law_967 rfl rfl ?_
  refine ev_iconstN 969 1 dL_law_968 rfl ?_
  refine ev_iaddN 970 dL_law_969 rfl ?_
  refine ev_ialdR 971 _ dL_law_970 tb1 rfl (by have hNN := nb1; omega) rfl ?_
  refine ev_aload_n 972 dL_law_971 rfl rfl ?_
  refine ev_iload_n 973 dL_law_972 rfl rfl ?_
  refine ev_iconstN 974 2 dL_law_973 rfl ?_
  refine ev_iaddN 975 dL_law_974 rfl ?_
  refine ev_ialdR 976 _ dL_law_975 tb1 rfl (by have hNN := nb1; omega) rfl ?_
  refine ev_aload_n 977 dL_law_976 rfl rfl ?_
  refine ev_iload_n 978 dL_law_977 rfl rfl ?_
  refine ev_iconstN 979 3 dL_law_978 rfl ?_
  refine ev_iaddN 980 dL_law_979 rfl ?_
  refine ev_ialdR 981 _ dL_law_980 tb1 rfl (by have hNN := nb1; omega) rfl ?_
  refine ev_aload_n 982 dL_law_981 rfl rfl ?_
  refine ev_iload_n 983 dL_law_982 rfl rfl ?_
  refine ev_iconstN 984 4 dL_law_983 rfl ?_
  refine ev_iaddN 985 dL_law_984 rfl ?_
  refine ev_ialdR 986 _ dL_law_985 tb1 rfl (by have hNN := nb1; omega) rfl ?_
  refine ev_invV 989 (Mc := mX12_damage) ⟨lk1748, lk80, hdX12_damage, (Nat.le_of_ble_eq_true rfl), (Nat.le_of_ble_eq_true rfl)⟩ lk1745 lk1746 lk1747 mm_cl12 rfl dL_law_986 (c2) rfl tm1 (Nat.le_of_ble_eq_true rfl) rfl rfl ?_
  refine ev_icmp_eq 992 1823 dL_law_989 (by decide) rfl (fun hbr => ?_) (fun hx => absurd ((rfl)) hx)
  exact k
theorem law_c19 (h : LHy g b L K x m i B I J P) : LSt g b K x m i 994 B I J P := by
  obtain ⟨hK, hS, tb, nb, hi, hL, hb, tx, tm⟩ := h
  obtain ⟨r, B1, I1, J1, P1, I2, J2, P2, c1, c2, rs, ex, nx, sl, lo⟩ := (show JO g mX11_resum mX12_resum [.int (I b (i + 1)), .int (I b (i + 2))] from jo_resum) K x m B I J P hK hS
  have tb1 : mm_T B1 b = 1 := (ex.1 b (by omega)).1.trans tb
  have nb1 : mm_N B1 b = L := (ex.1 b (by omega)).2.trans nb
  have tm1 : mm_T B1 m = 112 := (ex.1 m (by omega)).1.trans tm
  refine ⟨B1, I2, J2, P2, rs, ex, nx, sl, lo, fun Z k => ?_⟩
  refine ev_aload_n 995 dL_law_994 rfl rfl ?_
  refine ev_aload_n 996 dL_law_995 rfl rfl ?_
  refine ev_iload_n 997 dL_law_996 rfl rfl ?_
  refine ev_iconstN 998 1 dL_law_997 rfl ?_
  refine ev_iaddN 999 dL_law_998 rfl ?_
  refine ev_ialdR 1000 _ dL_law_999 tb rfl (by have hNN := nb; omega) rfl ?_
  refine ev_aload_n 1001 dL_law_1000 rfl rfl ?_
  refine ev_iload_n 1002 dL_law_1001 rfl rfl ?_
  refine ev_iconstN 1003 2 dL_law_1002 rfl ?_
  refine ev_iaddN 1004 dL_law_1003 rfl ?_
  refine ev_ialdR 1005 _ dL_law_1004 tb rfl (by have hNN := nb; omega) rfl ?_
  refine ev_invVF 1008 (Mc := mX11_resum) ⟨lk994, lk75, hdX11_resum, (Nat.le_of_ble_eq_true rfl), (Nat.le_of_ble_eq_true rfl)⟩ lk991 lk992 lk993 mm_cl11 rfl dL_law_1005 (c1) rfl tx (Nat.le_of_ble_eq_true rfl) rfl rfl (hb) (tb) (tb1) (k.1) (fun hf => ?_)
  have e1 : I1 b (i + 1) = I b (i + 1) := hf _ (by omega) (by omega)
  have e2 : I1 b (i + 2) = I b (i + 2) := hf _ (by omega) (by omega)
  rw [← e1, ← e2] at c2
  refine ev_aload_n 1009 dL_law_1008 rfl rfl ?_
  refine ev_aload_n 1010 dL_law_1009 rfl rfl ?_
  refine ev_iload_n 1011 dL_law_1010 rfl rfl ?_
  refine ev_iconstN 1012 1 dL_law_1011 rfl ?_
  refine ev_iaddN 1013 dL_law_1012 rfl ?_
  refine ev_ialdR 1014 _ dL_law_1013 tb1 rfl (by have hNN := nb1; omega) rfl ?_
  refine ev_aload_n 1015 dL_law_1014 rfl rfl ?_
  refine ev_iload_n 1016 dL_law_1015 rfl rfl ?_
  refine ev_iconstN 1017 2 dL_law_1016 rfl ?_
  refine ev_iaddN 1018 dL_law_1017 rfl ?_
  refine ev_ialdR 1019 _ dL_law_1018 tb1 rfl (by have hNN := nb1; omega) rfl ?_
  refine ev_invV 1022 (Mc := mX12_resum) ⟨lk1752, lk80, hdX12_resum, (Nat.le_of_ble_eq_true rfl), (Nat.le_of_ble_eq_true rfl)⟩ lk1749 lk1750 lk1751 mm_cl12 rfl dL_law_1019 (c2) rfl tm1 (Nat.le_of_ble_eq_true rfl) rfl rfl ?_
  refine ev_icmp_eq 1025 1823 dL_law_1022 (by decide) rfl (fun hbr => ?_) (fun hx => absurd ((rfl)) hx)
  exact k
theorem law_c20 (h : LHy g b L K x m i B I J P) : LSt g b K x m i 1027 B I J P := by
  obtain ⟨hK, hS, tb, nb, hi, hL, hb, tx, tm⟩ := h
  obtain ⟨r, B1, I1, J1, P1, I2, J2, P2, c1, c2, rs, ex, nx, sl, lo⟩ := (show JO g mX11_shorts mX12_shorts [.int (I b (i + 1)), .int (I b (i + 2))] from jo_shorts) K x m B I J P hK hS
  have tb1 : mm_T B1 b = 1 := (ex.1 b (by omega)).1.trans tb
  have nb1 : mm_N B1 b = L := (ex.1 b (by omega)).2.trans nb
  have tm1 : mm_T B1 m = 112 := (ex.1 m (by omega)).1.trans tm
  refine ⟨B1, I2, J2, P2, rs, ex, nx, sl, lo, fun Z k => ?_⟩
  refine ev_aload_n 1028 dL_law_1027 rfl rfl ?_
  refine ev_aload_n 1029 dL_law_1028 rfl rfl ?_
  refine ev_iload_n 1030 dL_law_1029 rfl rfl ?_
  refine ev_iconstN 1031 1 dL_law_1030 rfl ?_
  refine ev_iaddN 1032 dL_law_1031 rfl ?_
  refine ev_ialdR 1033 _ dL_law_1032 tb rfl (by have hNN := nb; omega) rfl ?_
  refine ev_aload_n 1034 dL_law_1033 rfl rfl ?_
  refine ev_iload_n 1035 dL_law_1034 rfl rfl ?_
  refine ev_iconstN 1036 2 dL_law_1035 rfl ?_
  refine ev_iaddN 1037 dL_law_1036 rfl ?_
  refine ev_ialdR 1038 _ dL_law_1037 tb rfl (by have hNN := nb; omega) rfl ?_
  refine ev_invVF 1041 (Mc := mX11_shorts) ⟨lk999, lk75, hdX11_shorts, (Nat.le_of_ble_eq_true rfl), (Nat.le_of_ble_eq_true rfl)⟩ lk996 lk997 lk998 mm_cl11 rfl dL_law_1038 (c1) rfl tx (Nat.le_of_ble_eq_true rfl) rfl rfl (hb) (tb) (tb1) (k.1) (fun hf => ?_)
  have e1 : I1 b (i + 1) = I b (i + 1) := hf _ (by omega) (by omega)
  have e2 : I1 b (i + 2) = I b (i + 2) := hf _ (by omega) (by omega)
  rw [← e1, ← e2] at c2
  refine ev_aload_n 1042 dL_law_1041 rfl rfl ?_
  refine ev_aload_n 1043 dL_law_1042 rfl rfl ?_
  refine ev_iload_n 1044 dL_law_1043 rfl rfl ?_
  refine ev_iconstN 1045 1 dL_law_1044 rfl ?_
  refine ev_iaddN 1046 dL_law_1045 rfl ?_
  refine ev_ialdR 1047 _ dL_law_1046 tb1 rfl (by have hNN := nb1; omega) rfl ?_
  refine ev_aload_n 1048 dL_law_1047 rfl rfl ?_
  refine ev_iload_n 1049 dL_law_1048 rfl rfl ?_
  refine ev_iconstN 1050 2 dL_law_1049 rfl ?_
  refine ev_iaddN 1051 dL_law_1050 rfl ?_
  refine ev_ialdR 1052 _ dL_law_1051 tb1 rfl (by have hNN := nb1; omega) rfl ?_
  refine ev_invV 1055 (Mc := mX12_shorts) ⟨lk1756, lk80, hdX12_shorts, (Nat.le_of_ble_eq_true rfl), (Nat.le_of_ble_eq_true rfl)⟩ lk1753 lk1754 lk1755 mm_cl12 rfl dL_law_1052 (c2) rfl tm1 (Nat.le_of_ble_eq_true rfl) rfl rfl ?_
  refine ev_icmp_eq 1058 1823 dL_law_1055 (by decide) rfl (fun hbr => ?_) (fun hx => absurd ((rfl)) hx)
  exact k
theorem law_c21 (h : LHy g b L K x m i B I J P) : LSt g b K x m i 1060 B I J P := by
  obtain ⟨hK, hS, tb, nb, hi, hL, hb, tx, tm⟩ := h
  obtain ⟨r, B1, I1, J1, P1, I2, J2, P2, c1, c2, rs, ex, nx, sl, lo⟩ := (show JO g mX11_order mX12_order [.int (I b (i + 1)), .int (I b (i + 2)), .int (I b (i + 3))] from jo_order) K x m B I J P hK hS
  have tb1 : mm_T B1 b = 1 := (ex.1 b (by omega)).1.trans tb
  have nb1 : mm_N B1 b = L := (ex.1 b (by omega)).2.trans nb
  have tm1 : mm_T B1 m = 112 := (ex.1 m (by omega)).1.trans tm
  refine ⟨B1, I2, J2, P2, rs, ex, nx, sl, lo, fun Z k => ?_⟩
  refine ev_aload_n 1061 dL_law_1060 rfl rfl ?_
  refine ev_aload_n 1062 dL_law_1061 rfl rfl ?_
  refine ev_iload_n 1063 dL_law_1062 rfl rfl ?_
  refine ev_iconstN 1064 1 dL_law_1063 rfl ?_
  refine ev_iaddN 1065 dL_law_1064 rfl ?_
  refine ev_ialdR 1066 _ dL_law_1065 tb rfl (by have hNN := nb; omega) rfl ?_
  refine ev_aload_n 1067 dL_law_1066 rfl rfl ?_
  refine ev_iload_n 1068 dL_law_1067 rfl rfl ?_
  refine ev_iconstN 1069 2 dL_law_1068 rfl ?_
  refine ev_iaddN 1070 dL_law_1069 rfl ?_
  refine ev_ialdR 1071 _ dL_law_1070 tb rfl (by have hNN := nb; omega) rfl ?_
  refine ev_aload_n 1072 dL_law_1071 rfl rfl ?_
  refine ev_iload_n 1073 dL_law_1072 rfl rfl ?_
  refine ev_iconstN 1074 3 dL_law_1073 rfl ?_
  refine ev_iaddN 1075 dL_law_1074 rfl ?_
  refine ev_ialdR 1076 _ dL_law_1075 tb rfl (by have hNN := nb; omega) rfl ?_
  refine ev_invVF 1079 (Mc := mX11_order) ⟨lk1007, lk75, hdX11_order, (Nat.le_of_ble_eq_true rfl), (Nat.le_of_ble_eq_true rfl)⟩ lk1004 lk1005 lk1006 mm_cl11 rfl dL_law_1076 (c1) rfl tx (Nat.le_of_ble_eq_true rfl) rfl rfl (hb) (tb) (tb1) (k.1) (fun hf => ?_)
  have e1 : I1 b (i + 1) = I b (i + 1) := hf _ (by omega) (by omega)
  have e2 : I1 b (i + 2) = I b (i + 2) := hf _ (by omega) (by omega)
  have e3 : I1 b (i + 3) = I b (i + 3) := hf _ (by omega) (by omega)
  rw [← e1, ← e2, ← e3] at c2
  refine ev_aload_n 1080 dL_law_1079 rfl rfl ?_
  refine ev_aload_n 1081 dL_law_1080 rfl rfl ?_
  refine ev_iload_n 1082 dL_law_1081 rfl rfl ?_
  refine ev_iconstN 1083 1 dL_law_1082 rfl ?_
  refine ev_iaddN 1084 dL_law_1083 rfl ?_
  refine ev_ialdR 1085 _ dL_law_1084 tb1 rfl (by have hNN := nb1; omega) rfl ?_
  refine ev_aload_n 1086 dL_law_1085 rfl rfl ?_
  refine ev_iload_n 1087 dL_law_1086 rfl rfl ?_
  refine ev_iconstN 1088 2 dL_law_1087 rfl ?_
  refine ev_iaddN 1089 dL_law_1088 rfl ?_
  refine ev_ialdR 1090 _ dL_law_1089 tb1 rfl (by have hNN := nb1; omega) rfl ?_
  refine ev_aload_n 1091 dL_law_1090 rfl rfl ?_
  refine ev_iload_n 1092 dL_law_1091 rfl rfl ?_
  refine ev_iconstN 1093 3 dL_law_1092 rfl ?_
  refine ev_iaddN 1094 dL_law_1093 rfl ?_
  refine ev_ialdR 1095 _ dL_law_1094 tb1 rfl (by have hNN := nb1; omega) rfl ?_
  refine ev_invV 1098 (Mc := mX12_order) ⟨lk1760, lk80, hdX12_order, (Nat.le_of_ble_eq_true rfl), (Nat.le_of_ble_eq_true rfl)⟩ lk1757 lk1758 lk1759 mm_cl12 rfl dL_law_1095 (c2) rfl tm1 (Nat.le_of_ble_eq_true rfl) rfl rfl ?_
  refine ev_icmp_eq 1101 1823 dL_law_1098 (by decide) rfl (fun hbr => ?_) (fun hx => absurd ((rfl)) hx)
  exact k
theorem law_c22 (h : LHy g b L K x m i B I J P) : LSt g b K x m i 1103 B I J P := by
  obtain ⟨hK, hS, tb, nb, hi, hL, hb, tx, tm⟩ := h
  obtain ⟨r, B1, I1, J1, P1, I2, J2, P2, c1, c2, rs, ex, nx, sl, lo⟩ := (show JO g mX11_drop mX12_drop [.int (I b (i + 1)), .int (I b (i + 2))] from jo_drop) K x m B I J P hK hS
  have tb1 : mm_T B1 b = 1 := (ex.1 b (by omega)).1.trans tb
  have nb1 : mm_N B1 b = L := (ex.1 b (by omega)).2.trans nb
  have tm1 : mm_T B1 m = 112 := (ex.1 m (by omega)).1.trans tm
  refine ⟨B1, I2, J2, P2, rs, ex, nx, sl, lo, fun Z k => ?_⟩
  refine ev_aload_n 1104 dL_law_1103 rfl rfl ?_
  refine ev_aload_n 1105 dL_law_1104 rfl rfl ?_
  refine ev_iload_n 1106 dL_law_1105 rfl rfl ?_
  refine ev_iconstN 1107 1 dL_law_1106 rfl ?_
  refine ev_iaddN 1108 dL_law_1107 rfl ?_
  refine ev_ialdR 1109 _ dL_law_1108 tb rfl (by have hNN := nb; omega) rfl ?_
  refine ev_aload_n 1110 dL_law_1109 rfl rfl ?_
  refine ev_iload_n 1111 dL_law_1110 rfl rfl ?_
  refine ev_iconstN 1112 2 dL_law_1111 rfl ?_
  refine ev_iaddN 1113 dL_law_1112 rfl ?_
  refine ev_ialdR 1114 _ dL_law_1113 tb rfl (by have hNN := nb; omega) rfl ?_
  refine ev_invVF 1117 (Mc := mX11_drop) ⟨lk1015, lk75, hdX11_drop, (Nat.le_of_ble_eq_true rfl), (Nat.le_of_ble_eq_true rfl)⟩ lk1012 lk1013 lk1014 mm_cl11 rfl dL_law_1114 (c1) rfl tx (Nat.le_of_ble_eq_true rfl) rfl rfl (hb) (tb) (tb1) (k.1) (fun hf => ?_)
  have e1 : I1 b (i + 1) = I b (i + 1) := hf _ (by omega) (by omega)
  have e2 : I1 b (i + 2) = I b (i + 2) := hf _ (by omega) (by omega)
  rw [← e1, ← e2] at c2
  refine ev_aload_n 1118 dL_law_1117 rfl rfl ?_
  refine ev_aload_n 1119 dL_law_1118 rfl rfl ?_
  refine ev_iload_n 1120 dL_law_1119 rfl rfl ?_
  refine ev_iconstN 1121 1 dL_law_1120 rfl ?_
  refine ev_iaddN 1122 dL_law_1121 rfl ?_
  refine ev_ialdR 1123 _ dL_law_1122 tb1 rfl (by have hNN := nb1; omega) rfl ?_
  refine ev_aload_n 1124 dL_law_1123 rfl rfl ?_
  refine ev_iload_n 1125 dL_law_1124 rfl rfl ?_
  refine ev_iconstN 1126 2 dL_law_1125 rfl ?_
  refine ev_iaddN 1127 dL_law_1126 rfl ?_
  refine ev_ialdR 1128 _ dL_law_1127 tb1 rfl (by have hNN := nb1; omega) rfl ?_
  refine ev_invV 1131 (Mc := mX12_drop) ⟨lk1768, lk80, hdX12_drop, (Nat.le_of_ble_eq_true rfl), (Nat.le_of_ble_eq_true rfl)⟩ lk1765 lk1766 lk1767 mm_cl12 rfl dL_law_1128 (c2) rfl tm1 (Nat.le_of_ble_eq_true rfl) rfl rfl ?_
  refine ev_icmp_eq 1134 1823 dL_law_1131 (by decide) rfl (fun hbr => ?_) (fun hx => absurd ((rfl)) hx)
  exact k
theorem law_c23 (h : LHy g b L K x m i B I J P) : LSt g b K x m i 1136 B I J P := by
  obtain ⟨hK, hS, tb, nb, hi, hL, hb, tx, tm⟩ := h
  obtain ⟨r, B1, I1, J1, P1, I2, J2, P2, c1, c2, rs, ex, nx, sl, lo⟩ := (show JO g mX11_again mX12_again [.int (I b (i + 1)), .int (I b (i + 2))] from jo_again) K x m B I J P hK hS
  have tb1 : mm_T B1 b = 1 := (ex.1 b (by omega)).1.trans tb
  have nb1 : mm_N B1 b = L := (ex.1 b (by omega)).2.trans nb
  have tm1 : mm_T B1 m = 112 := (ex.1 m (by omega)).1.trans tm
  refine ⟨B1, I2, J2, P2, rs, ex, nx, sl, lo, fun Z k => ?_⟩
  refine ev_aload_n 1137 dL_law_1136 rfl rfl ?_
  refine ev_aload_n 1138 dL_law_1137 rfl rfl ?_
  refine ev_iload_n 1139 dL_law_1138 rfl rfl ?_
  refine ev_iconstN 1140 1 dL_law_1139 rfl ?_
  refine ev_iaddN 1141 dL_law_1140 rfl ?_
  refine ev_ialdR 1142 _ dL_law_1141 tb rfl (by have hNN := nb; omega) rfl ?_
  refine ev_aload_n 1143 dL_law_1142 rfl rfl ?_
  refine ev_iload_n 1144 dL_law_1143 rfl rfl ?_
  refine ev_iconstN 1145 2 dL_law_1144 rfl ?_
  refine ev_iaddN 1146 dL_law_1145 rfl ?_
  refine ev_ialdR 1147 _ dL_law_1146 tb rfl (by have hNN := nb; omega) rfl ?_
  refine ev_invVF 1150 (Mc := mX11_again) ⟨lk1019, lk75, hdX11_again, (Nat.le_of_ble_eq_true rfl), (Nat.le_of_ble_eq_true rfl)⟩ lk1016 lk1017 lk1018 mm_cl11 rfl dL_law_1147 (c1) rfl tx (Nat.le_of_ble_eq_true rfl) rfl rfl (hb) (tb) (tb1) (k.1) (fun hf => ?_)
  have e1 : I1 b (i + 1) = I b (i + 1) := hf _ (by omega) (by omega)
  have e2 : I1 b (i + 2) = I b (i + 2) := hf _ (by omega) (by omega)
  rw [← e1, ← e2] at c2
  refine ev_aload_n 1151 dL_law_1150 rfl rfl ?_
  refine ev_aload_n 1152 dL_law_1151 rfl rfl ?_
  refine ev_iload_n 1153 dL_law_1152 rfl rfl ?_
  refine ev_iconstN 1154 1 dL_law_1153 rfl ?_
  refine ev_iaddN 1155 dL_law_1154 rfl ?_
  refine ev_ialdR 1156 _ dL_law_1155 tb1 rfl (by have hNN := nb1; omega) rfl ?_
  refine ev_aload_n 1157 dL_law_1156 rfl rfl ?_
  refine ev_iload_n 1158 dL_law_1157 rfl rfl ?_
  refine ev_iconstN 1159 2 dL_law_1158 rfl ?_
  refine ev_iaddN 1160 dL_law_1159 rfl ?_
  refine ev_ialdR 1161 _ dL_law_1160 tb1 rfl (by have hNN := nb1; omega) rfl ?_
  refine ev_invV 1164 (Mc := mX12_again) ⟨lk1772, lk80, hdX12_again, (Nat.le_of_ble_eq_true rfl), (Nat.le_of_ble_eq_true rfl)⟩ lk1769 lk1770 lk1771 mm_cl12 rfl dL_law_1161 (c2) rfl tm1 (Nat.le_of_ble_eq_true rfl) rfl rfl ?_
  refine ev_icmp_eq 1167 1823 dL_law_1164 (by decide) rfl (fun hbr => ?_) (fun hx => absurd ((rfl)) hx)
  exact k
theorem law_c24 (h : LHy g b L K x m i B I J P) : LSt g b K x m i 1169 B I J P := by
  obtain ⟨hK, hS, tb, nb, hi, hL, hb, tx, tm⟩ := h
  obtain ⟨r, B1, I1, J1, P1, I2, J2, P2, c1, c2, rs, ex, nx, sl, lo⟩ := (show JO g mX11_type mX12_type [.long ((I b (i + 1)).toInt64 <<< ((nI 32).toInt64 &&& 63) ||| (I b (i + 2)).toInt64 &&& 4294967295), .int (I b (i + 3))] from jo_type) K x m B I J P hK hS
  have tb1 : mm_T B1 b = 1 := (ex.1 b (by omega)).1.trans tb
  have nb1 : mm_N B1 b = L := (ex.1 b (by omega)).2.trans nb
  have tm1 : mm_T B1 m = 112 := (ex.1 m (by omega)).1.trans tm
  refine ⟨B1, I2, J2, P2, rs, ex, nx, sl, lo, fun Z k => ?_⟩
  refine ev_aload_n 1170 dL_law_1169 rfl rfl ?_
  refine ev_aload_n 1171 dL_law_1170 rfl rfl ?_
  refine ev_iload_n 1172 dL_law_1171 rfl rfl ?_
  refine ev_iconstN 1173 1 dL_law_1172 rfl ?_
  refine ev_iaddN 1174 dL_law_1173 rfl ?_
  refine ev_ialdR 1175 _ dL_law_1174 tb rfl (by have hNN := nb; omega) rfl ?_
  refine ev_i2l 1176 dL_law_1175 rfl ?_
  refine ev_bipushN 1178 32 dL_law_1176 (by decide +kernel) rfl ?_
  refine ev_lshl 1179 dL_law_1178 rfl ?_
  refine ev_aload_n 1180 dL_law_1179 rfl rfl ?_
  refine ev_iload_n 1181 dL_law_1180 rfl rfl ?_
  refine ev_iconstN 1182 2 dL_law_1181 rfl ?_
  refine ev_iaddN 1183 dL_law_1182 rfl ?_
  refine ev_ialdR 1184 _ dL_law_1183 tb rfl (by have hNN := nb; omega) rfl ?_
  refine ev_i2l 1185 dL_law_1184 rfl ?_
  refine ev_ldc2 1188 dL_law_1185 lk1900 rfl ?_
  refine ev_land 1189 dL_law_1188 rfl ?_
  refine ev_lor 1190 dL_law_1189 rfl ?_
  refine ev_aload_n 1191 dL_law_1190 rfl rfl ?_
  refine ev_iload_n 1192 dL_law_1191 rfl rfl ?_
  refine ev_iconstN 1193 3 dL_law_1192 rfl ?_
  refine ev_iaddN 1194 dL_law_1193 rfl ?_
  refine ev_ialdR 1195 _ dL_law_1194 tb rfl (by have hNN := nb; omega) rfl ?_
  refine ev_invVF 1198 (Mc := mX11_type) ⟨lk1023, lk75, hdX11_type, (Nat.le_of_ble_eq_true rfl), (Nat.le_of_ble_eq_true rfl)⟩ lk1020 lk1021 lk1022 mm_cl11 rfl dL_law_1195 (c1) rfl tx (Nat.le_of_ble_eq_true rfl) rfl rfl (hb) (tb) (tb1) (k.1) (fun hf => ?_)
  have e1 : I1 b (i + 1) = I b (i + 1) := hf _ (by omega) (by omega)
  have e2 : I1 b (i + 2) = I b (i + 2) := hf _ (by omega) (by omega)
  have e3 : I1 b (i + 3) = I b (i + 3) := hf _ (by omega) (by omega)
  rw [← e1, ← e2, ← e3] at c2
  refine ev_aload_n 1199 dL_law_1198 rfl rfl ?_
  refine ev_aload_n 1200 dL_law_1199 rfl rfl ?_
  refine ev_iload_n 1201 dL_law_1200 rfl rfl ?_
  refine ev_iconstN 1202 1 dL_law_1201 rfl ?_
  refine ev_iaddN 1203 dL_law_1202 rfl ?_
  refine ev_ialdR 1204 _ dL_law_1203 tb1 rfl (by have hNN := nb1; omega) rfl ?_
  refine ev_i2l 1205 dL_law_1204 rfl ?_
  refine ev_bipushN 1207 32 dL_law_1205 (by decide +kernel) rfl ?_
  refine ev_lshl 1208 dL_law_1207 rfl ?_
  refine ev_aload_n 1209 dL_law_1208 rfl rfl ?_
  refine ev_iload_n 1210 dL_law_1209 rfl rfl ?_
  refine ev_iconstN 1211 2 dL_law_1210 rfl ?_
  refine ev_iaddN 1212 dL_law_1211 rfl ?_
  refine ev_ialdR 1213 _ dL_law_1212 tb1 rfl (by have hNN := nb1; omega) rfl ?_
  refine ev_i2l 1214 dL_law_1213 rfl ?_
  refine ev_ldc2 1217 dL_law_1214 lk1900 rfl ?_
  refine ev_land 1218 dL_law_1217 rfl ?_
  refine ev_lor 1219 dL_law_1218 rfl ?_
  refine ev_aload_n 1220 dL_law_1219 rfl rfl ?_
  refine ev_iload_n 1221 dL_law_1220 rfl rfl ?_
  refine ev_iconstN 1222 3 dL_law_1221 rfl ?_
  refine ev_iaddN 1223 dL_law_1222 rfl ?_
  refine ev_ialdR 1224 _ dL_law_1223 tb1 rfl (by have hNN := nb1; omega) rfl ?_
  refine ev_invV 1227 (Mc := mX12_type) ⟨lk1776, lk80, hdX12_type, (Nat.le_of_ble_eq_true rfl), (Nat.le_of_ble_eq_true rfl)⟩ lk1773 lk1774 lk1775 mm_cl12 rfl dL_law_1224 (c2) rfl tm1 (Nat.le_of_ble_eq_true rfl) rfl rfl ?_
  refine ev_icmp_eq 1230 1823 dL_law_1227 (by decide) rfl (fun hbr => ?_) (fun hx => absurd ((rfl)) hx)
  exact k
theorem law_c25 (h : LHy g b L K x m i B I J P) : LSt g b K x m i 1232 B I J P := by
  obtain ⟨hK, hS, tb, nb, hi, hL, hb, tx, tm⟩ := h
  obtain ⟨r, B1, I1, J1, P1, I2, J2, P2, c1, c2, rs, ex, nx, sl, lo⟩ := (show JO g mX11_feed mX12_feed [.int (I b (i + 1)), .int (I b (i + 2))] from jo_feed) K x m B I J P hK hS
  have tb1 : mm_T B1 b = 1 := (ex.1 b (by omega)).1.trans tb
  have nb1 : mm_N B1 b = L := (ex.1 b (by omega)).2.trans nb
  have tm1 : mm_T B1 m = 112 := (ex.1 m (by omega)).1.trans tm
  refine ⟨B1, I2, J2, P2, rs, ex, nx, sl, lo, fun Z k => ?_⟩
  refine ev_aload_n 1233 dL_law_1232 rfl rfl ?_
  refine ev_aload_n 1234 dL_law_1233 rfl rfl ?_
  refine ev_iload_n 1235 dL_law_1234 rfl rfl ?_
  refine ev_iconstN 1236 1 dL_law_1235 rfl ?_
  refine ev_iaddN 1237 dL_law_1236 rfl ?_
  refine ev_ialdR 1238 _ dL_law_1237 tb rfl (by have hNN := nb; omega) rfl ?_
  refine ev_aload_n 1239 dL_law_1238 rfl rfl ?_
  refine ev_iload_n 1240 dL_law_1239 rfl rfl ?_
  refine ev_iconstN 1241 2 dL_law_1240 rfl ?_
  refine ev_iaddN 1242 dL_law_1241 rfl ?_
  refine ev_ialdR 1243 _ dL_law_1242 tb rfl (by have hNN := nb; omega) rfl ?_
  refine ev_invVF 1246 (Mc := mX11_feed) ⟨lk1027, lk75, hdX11_feed, (Nat.le_of_ble_eq_true rfl), (Nat.le_of_ble_eq_true rfl)⟩ lk1024 lk1025 lk1026 mm_cl11 rfl dL_law_1243 (c1) rfl tx (Nat.le_of_ble_eq_true rfl) rfl rfl (hb) (tb) (tb1) (k.1) (fun hf => ?_)
  have e1 : I1 b (i + 1) = I b (i + 1) := hf _ (by omega) (by omega)
  have e2 : I1 b (i + 2) = I b (i + 2) := hf _ (by omega) (by omega)
  rw [← e1, ← e2] at c2
  refine ev_aload_n 1247 dL_law_1246 rfl rfl ?_
  refine ev_aload_n 1248 dL_law_1247 rfl rfl ?_
  refine ev_iload_n 1249 dL_law_1248 rfl rfl ?_
  refine ev_iconstN 1250 1 dL_law_1249 rfl ?_
  refine ev_iaddN 1251 dL_law_1250 rfl ?_
  refine ev_ialdR 1252 _ dL_law_1251 tb1 rfl (by have hNN := nb1; omega) rfl ?_
  refine ev_aload_n 1253 dL_law_1252 rfl rfl ?_
  refine ev_iload_n 1254 dL_law_1253 rfl rfl ?_
  refine ev_iconstN 1255 2 dL_law_1254 rfl ?_
  refine ev_iaddN 1256 dL_law_1255 rfl ?_
  refine ev_ialdR 1257 _ dL_law_1256 tb1 rfl (by have hNN := nb1; omega) rfl ?_
  refine ev_invV 1260 (Mc := mX12_feed) ⟨lk1780, lk80, hdX12_feed, (Nat.le_of_ble_eq_true rfl), (Nat.le_of_ble_eq_true rfl)⟩ lk1777 lk1778 lk1779 mm_cl12 rfl dL_law_1257 (c2) rfl tm1 (Nat.le_of_ble_eq_true rfl) rfl rfl ?_
  refine ev_icmp_eq 1263 1823 dL_law_1260 (by decide) rfl (fun hbr => ?_) (fun hx => absurd ((rfl)) hx)
  exact k
theorem law_c26 (h : LHy g b L K x m i B I J P) : LSt g b K x m i 1265 B I J P := by
  obtain ⟨hK, hS, tb, nb, hi, hL, hb, tx, tm⟩ := h
  obtain ⟨r, B1, I1, J1, P1, I2, J2, P2, c1, c2, rs, ex, nx, sl, lo⟩ := (show JO g mX11_decode mX12_decode [.int (I b (i + 1))] from jo_decode) K x m B I J P hK hS
  have tb1 : mm_T B1 b = 1 := (ex.1 b (by omega)).1.trans tb
  have nb1 : mm_N B1 b = L := (ex.1 b (by omega)).2.trans nb
  have tm1 : mm_T B1 m = 112 := (ex.1 m (by omega)).1.trans tm
  refine ⟨B1, I2, J2, P2, rs, ex, nx, sl, lo, fun Z k => ?_⟩
  refine ev_aload_n 1266 dL_law_1265 rfl rfl ?_
  refine ev_aload_n 1267 dL_law_1266 rfl rfl ?_
  refine ev_iload_n 1268 dL_law_1267 rfl rfl ?_
  refine ev_iconstN 1269 1 dL_law_1268 rfl ?_
  refine ev_iaddN 1270 dL_law_1269 rfl ?_
  refine ev_ialdR 1271 _ dL_law_1270 tb rfl (by have hNN := nb; omega) rfl ?_
  refine ev_invVF 1274 (Mc := mX11_decode) ⟨lk1032, lk75, hdX11_decode, (Nat.le_of_ble_eq_true rfl), (Nat.le_of_ble_eq_true rfl)⟩ lk1029 lk1030 lk1031 mm_cl11 rfl dL_law_1271 (c1) rfl tx (Nat.le_of_ble_eq_true rfl) rfl rfl (hb) (tb) (tb1) (k.1) (fun hf => ?_)
  have e1 : I1 b (i + 1) = I b (i + 1) := hf _ (by omega) (by omega)
  rw [← e1] at c2
  refine ev_aload_n 1275 dL_law_1274 rfl rfl ?_
  refine ev_aload_n 1276 dL_law_1275 rfl rfl ?_
  refine ev_iload_n 1277 dL_law_1276 rfl rfl ?_
  refine ev_iconstN 1278 1 dL_law_1277 rfl ?_
  refine ev_iaddN 1279 dL_law_1278 rfl ?_
  refine ev_ialdR 1280 _ dL_law_1279 tb1 rfl (by have hNN := nb1; omega) rfl ?_
  refine ev_invV 1283 (Mc := mX12_decode) ⟨lk1784, lk80, hdX12_decode, (Nat.le_of_ble_eq_true rfl), (Nat.le_of_ble_eq_true rfl)⟩ lk1781 lk1782 lk1783 mm_cl12 rfl dL_law_1280 (c2) rfl tm1 (Nat.le_of_ble_eq_true rfl) rfl rfl ?_
  refine ev_icmp_eq 1286 1823 dL_law_1283 (by decide) rfl (fun hbr => ?_) (fun hx => absurd ((rfl)) hx)
  exact k
theorem law_c27 (h : LHy g b L K x m i B I J P) : LSt g b K x m i 1288 B I J P := by
  obtain ⟨hK, hS, tb, nb, hi, hL, hb, tx, tm⟩ := h
  obtain ⟨r, B1, I1, J1, P1, I2, J2, P2, c1, c2, rs, ex, nx, sl, lo⟩ := (show JO g mX11_out mX12_out [.int (I b (i + 1)), .int (I b (i + 2))] from jo_out) K x m B I J P hK hS
  have tb1 : mm_T B1 b = 1 := (ex.1 b (by omega)).1.trans tb
  have nb1 : mm_N B1 b = L := (ex.1 b (by omega)).2.trans nb
  have tm1 : mm_T B1 m = 112 := (ex.1 m (by omega)).1.trans tm
  refine ⟨B1, I2, J2, P2, rs, ex, nx, sl, lo, fun Z k => ?_⟩
  refine ev_aload_n 1289 dL_law_1288 rfl rfl ?_
  refine ev_aload_n 1290 dL_law_1289 rfl rfl ?_
  refine ev_iload_n 1291 dL_law_1290 rfl rfl ?_
  refine ev_iconstN 1292 1 dL_law_1291 rfl ?_
  refine ev_iaddN 1293 dL_law_1292 rfl ?_
  refine ev_ialdR 1294 _ dL_law_1293 tb rfl (by have hNN := nb; omega) rfl ?_
  refine ev_aload_n 1295 dL_law_1294 rfl rfl ?_
  refine ev_iload_n 1296 dL_law_1295 rfl rfl ?_
  refine ev_iconstN 1297 2 dL_law_1296 rfl ?_
  refine ev_iaddN 1298 dL_law_1297 rfl ?_
  refine ev_ialdR 1299 _ dL_law_1298 tb rfl (by have hNN := nb; omega) rfl ?_
  refine ev_invVF 1302 (Mc := mX11_out) ⟨lk1173, lk75, hdX11_out, (Nat.le_of_ble_eq_true rfl), (Nat.le_of_ble_eq_true rfl)⟩ lk1170 lk1171 lk1172 mm_cl11 rfl dL_law_1299 (c1) rfl tx (Nat.le_of_ble_eq_true rfl) rfl rfl (hb) (tb) (tb1) (k.1) (fun hf => ?_)
  have e1 : I1 b (i + 1) = I b (i + 1) := hf _ (by omega) (by omega)
  have e2 : I1 b (i + 2) = I b (i + 2) := hf _ (by omega) (by omega)
  rw [← e1, ← e2] at c2
  refine ev_aload_n 1303 dL_law_1302 rfl rfl ?_
  refine ev_aload_n 1304 dL_law_1303 rfl rfl ?_
  refine ev_iload_n 1305 dL_law_1304 rfl rfl ?_
  refine ev_iconstN 1306 1 dL_law_1305 rfl ?_
  refine ev_iaddN 1307 dL_law_1306 rfl ?_
  refine ev_ialdR 1308 _ dL_law_1307 tb1 rfl (by have hNN := nb1; omega) rfl ?_
  refine ev_aload_n 1309 dL_law_1308 rfl rfl ?_
  refine ev_iload_n 1310 dL_law_1309 rfl rfl ?_
  refine ev_iconstN 1311 2 dL_law_1310 rfl ?_
  refine ev_iaddN 1312 dL_law_1311 rfl ?_
  refine ev_ialdR 1313 _ dL_law_1312 tb1 rfl (by have hNN := nb1; omega) rfl ?_
  refine ev_invV 1316 (Mc := mX12_out) ⟨lk1831, lk80, hdX12_out, (Nat.le_of_ble_eq_true rfl), (Nat.le_of_ble_eq_true rfl)⟩ lk1828 lk1829 lk1830 mm_cl12 rfl dL_law_1313 (c2) rfl tm1 (Nat.le_of_ble_eq_true rfl) rfl rfl ?_
  refine ev_icmp_eq 1319 1823 dL_law_1316 (by decide) rfl (fun hbr => ?_) (fun hx => absurd ((rfl)) hx)
  exact k
theorem law_c28 (h : LHy g b L K x m i B I J P) : LSt g b K x m i 1321 B I J P := by
  obtain ⟨hK, hS, tb, nb, hi, hL, hb, tx, tm⟩ := h
  obtain ⟨r, B1, I1, J1, P1, I2, J2, P2, c1, c2, rs, ex, nx, sl, lo⟩ := (show JO g mX11_state mX12_state [.int (I b (i + 1)), .int (I b (i + 2)), .int (I b (i + 3)), .int (I b (i + 4))] from jo_state) K x m B I J P hK hS
  have tb1 : mm_T B1 b = 1 := (ex.1 b (by omega)).1.trans tb
  have nb1 : mm_N B1 b = L := (ex.1 b (by omega)).2.trans nb
  have tm1 : mm_T B1 m = 112 := (ex.1 m (by omega)).1.trans tm
  refine ⟨B1, I2, J2, P2, rs, ex, nx, sl, lo, fun Z k => ?_⟩
  refine ev_aload_n 1322 dL_law_1321 rfl rfl ?_
  refine ev_aload_n 1323 dL_law_1322 rfl rfl ?_
  refine ev_iload_n 1324 dL_law_1323 rfl rfl ?_
  refine ev_iconstN 1325 1 dL_law_1324 rfl ?_
  refine ev_iaddN 1326 dL_law_1325 rfl ?_
  refine ev_ialdR 1327 _ dL_law_1326 tb rfl (by have hNN := nb; omega) rfl ?_
  refine ev_aload_n 1328 dL_law_1327 rfl rfl ?_
  refine ev_iload_n 1329 dL_law_1328 rfl rfl ?_
  refine ev_iconstN 1330 2 dL_law_1329 rfl ?_
  refine ev_iaddN 1331 dL_law_1330 rfl ?_
  refine ev_ialdR 1332 _ dL_law_1331 tb rfl (by have hNN := nb; omega) rfl ?_
  refine ev_aload_n 1333 dL_law_1332 rfl rfl ?_
  refine ev_iload_n 1334 dL_law_1333 rfl rfl ?_
  refine ev_iconstN 1335 3 dL_law_1334 rfl ?_
  refine ev_iaddN 1336 dL_law_1335 rfl ?_
  refine ev_ialdR 1337 _ dL_law_1336 tb rfl (by have hNN := nb; omega) rfl ?_
  refine ev_aload_n 1338 dL_law_1337 rfl rfl ?_
  refine ev_iload_n 1339 dL_law_1338 rfl rfl ?_
  refine ev_iconstN 1340 4 dL_law_1339 rfl ?_
  refine ev_iaddN 1341 dL_law_1340 rfl ?_
  refine ev_ialdR 1342 _ dL_law_1341 tb rfl (by have hNN := nb; omega) rfl ?_
  refine ev_invVF 1345 (Mc := mX11_state) ⟨lk1185, lk75, hdX11_state, (Nat.le_of_ble_eq_true rfl), (Nat.le_of_ble_eq_true rfl)⟩ lk1182 lk1183 lk1184 mm_cl11 rfl dL_law_1342 (c1) rfl tx (Nat.le_of_ble_eq_true rfl) rfl rfl (hb) (tb) (tb1) (k.1) (fun hf => ?_)
  have e1 : I1 b (i + 1) = I b (i + 1) := hf _ (by omega) (by omega)
  have e2 : I1 b (i + 2) = I b (i + 2) := hf _ (by omega) (by omega)
  have e3 : I1 b (i + 3) = I b (i + 3) := hf _ (by omega) (by omega)
  have e4 : I1 b (i + 4) = I b (i + 4) := hf _ (by omega) (by omega)
  rw [← e1, ← e2, ← e3, ← e4] at c2
  refine ev_aload_n 1346 dL_law_1345 rfl rfl ?_
  refine ev_aload_n 1347 dL_law_1346 rfl rfl ?_
  refine ev_iload_n 1348 dL_law_1347 rfl rfl ?_
  refine ev_iconstN 1349 1 dL_law_1348 rfl ?_
  refine ev_iaddN 1350 dL_law_1349 rfl ?_
  refine ev_ialdR 1351 _ dL_law_1350 tb1 rfl (by have hNN := nb1; omega) rfl ?_
  refine ev_aload_n 1352 dL_law_1351 rfl rfl ?_
  refine ev_iload_n 1353 dL_law_1352 rfl rfl ?_
  refine ev_iconstN 1354 2 dL_law_1353 rfl ?_
  refine ev_iaddN 1355 dL_law_1354 rfl ?_
  refine ev_ialdR 1356 _ dL_law_1355 tb1 rfl (by have hNN := nb1; omega) rfl ?_
  refine ev_aload_n 1357 dL_law_1356 rfl rfl ?_
  refine ev_iload_n 1358 dL_law_1357 rfl rfl ?_
  refine ev_iconstN 1359 3 dL_law_1358 rfl ?_
  refine ev_iaddN 1360 dL_law_1359 rfl ?_
  refine ev_ialdR 1361 _ dL_law_1360 tb1 rfl (by have hNN := nb1; omega) rfl ?_
  refine ev_aload_n 1362 dL_law_1361 rfl rfl ?_
  refine ev_iload_n 1363 dL_law_1362 rfl rfl ?_
  refine ev_iconstN 1364 4 dL_law_1363 rfl ?_
  refine ev_iaddN 1365 dL_law_1364 rfl ?_
  refine ev_ialdR 1366 _ dL_law_1365 tb1 rfl (by have hNN := nb1; omega) rfl ?_
  refine ev_invV 1369 (Mc := mX12_state) ⟨lk1835, lk80, hdX12_state, (Nat.le_of_ble_eq_true rfl), (Nat.le_of_ble_eq_true rfl)⟩ lk1832 lk1833 lk1834 mm_cl12 rfl dL_law_1366 (c2) rfl tm1 (Nat.le_of_ble_eq_true rfl) rfl rfl ?_
  refine ev_icmp_eq 1372 1823 dL_law_1369 (by decide) rfl (fun hbr => ?_) (fun hx => absurd ((rfl)) hx)
  exact k
theorem law_c29 (h : LHy g b L K x m i B I J P) : LSt g b K x m i 1374 B I J P := by
  obtain ⟨hK, hS, tb, nb, hi, hL, hb, tx, tm⟩ := h
  obtain ⟨r, B1, I1, J1, P1, I2, J2, P2, c1, c2, rs, ex, nx, sl, lo⟩ := (show JO g mX11_finding mX12_finding [.int (I b (i + 1))] from jo_finding) K x m B I J P hK hS
  have tb1 : mm_T B1 b = 1 := (ex.1 b (by omega)).1.trans tb
  have nb1 : mm_N B1 b = L := (ex.1 b (by omega)).2.trans nb
  have tm1 : mm_T B1 m = 112 := (ex.1 m (by omega)).1.trans tm
  refine ⟨B1, I2, J2, P2, rs, ex, nx, sl, lo, fun Z k => ?_⟩
  refine ev_aload_n 1375 dL_law_1374 rfl rfl ?_
  refine ev_aload_n 1376 dL_law_1375 rfl rfl ?_
  refine ev_iload_n 1377 dL_law_1376 rfl rfl ?_
  refine ev_iconstN 1378 1 dL_law_1377 rfl ?_
  refine ev_iaddN 1379 dL_law_1378 rfl ?_
  refine ev_ialdR 1380 _ dL_law_1379 tb rfl (by have hNN := nb; omega) rfl ?_
  refine ev_invVF 1383 (Mc := mX11_finding) ⟨lk1193, lk75, hdX11_finding, (Nat.le_of_ble_eq_true rfl), (Nat.le_of_ble_eq_true rfl)⟩ lk1190 lk1191 lk1192 mm_cl11 rfl dL_law_1380 (c1) rfl tx (Nat.le_of_ble_eq_true rfl) rfl rfl (hb) (tb) (tb1) (k.1) (fun hf => ?_)
  have e1 : I1 b (i + 1) = I b (i + 1) := hf _ (by omega) (by omega)
  rw [← e1] at c2
  refine ev_aload_n 1384 dL_law_1383 rfl rfl ?_
  refine ev_aload_n 1385 dL_law_1384 rfl rfl ?_
  refine ev_iload_n 1386 dL_law_1385 rfl rfl ?_
  refine ev_iconstN 1387 1 dL_law_1386 rfl ?_
  refine ev_iaddN 1388 dL_law_1387 rfl ?_
  refine ev_ialdR 1389 _ dL_law_1388 tb1 rfl (by have hNN := nb1; omega) rfl ?_
  refine ev_invV 1392 (Mc := mX12_finding) ⟨lk1839, lk80, hdX12_finding, (Nat.le_of_ble_eq_true rfl), (Nat.le_of_ble_eq_true rfl)⟩ lk1836 lk1837 lk1838 mm_cl12 rfl dL_law_1389 (c2) rfl tm1 (Nat.le_of_ble_eq_true rfl) rfl rfl ?_
  refine ev_icmp_eq 1395 1823 dL_law_1392 (by decide) rfl (fun hbr => ?_) (fun hx => absurd ((rfl)) hx)
  exact k
theorem law_c30 (h : LHy g b L K x m i B I J P) : LSt g b K x m i 1397 B I J P := by
  obtain ⟨hK, hS, tb, nb, hi, hL, hb, tx, tm⟩ := h
  obtain ⟨r, B1, I1, J1, P1, I2, J2, P2, c1, c2, rs, ex, nx, sl, lo⟩ := (show JO g mX11_repair mX12_repair [.int (I b (i + 1))] from jo_repair) K x m B I J P hK hS
  have tb1 : mm_T B1 b = 1 := (ex.1 b (by omega)).1.trans tb
  have nb1 : mm_N B1 b = L := (ex.1 b (by omega)).2.trans nb
  have tm1 : mm_T B1 m = 112 := (ex.1 m (by omega)).1.trans tm
  refine ⟨B1, I2, J2, P2, rs, ex, nx, sl, lo, fun Z k => ?_⟩
  refine ev_aload_n 1398 dL_law_1397 rfl rfl ?_
  refine ev_aload_n 1399 dL_law_1398 rfl rfl ?_
  refine ev_iload_n 1400 dL_law_1399 rfl rfl ?_
  refine ev_iconstN 1401 1 dL_law_1400 rfl ?_
  refine ev_iaddN 1402 dL_law_1401 rfl ?_
  refine ev_ialdR 1403 _ dL_law_1402 tb rfl (by have hNN := nb; omega) rfl ?_
  refine ev_invVF 1406 (Mc := mX11_repair) ⟨lk1197, lk75, hdX11_repair, (Nat.le_of_ble_eq_true rfl), (Nat.le_of_ble_eq_true rfl)⟩ lk1194 lk1195 lk1196 mm_cl11 rfl dL_law_1403 (c1) rfl tx (Nat.le_of_ble_eq_true rfl) rfl rfl (hb) (tb) (tb1) (k.1) (fun hf => ?_)
  have e1 : I1 b (i + 1) = I b (i + 1) := hf _ (by omega) (by omega)
  rw [← e1] at c2
  refine ev_aload_n 1407 dL_law_1406 rfl rfl ?_
  refine ev_aload_n 1408 dL_law_1407 rfl rfl ?_
  refine ev_iload_n 1409 dL_law_1408 rfl rfl ?_
  refine ev_iconstN 1410 1 dL_law_1409 rfl ?_
  refine ev_iaddN 1411 dL_law_1410 rfl ?_
  refine ev_ialdR 1412 _ dL_law_1411 tb1 rfl (by have hNN := nb1; omega) rfl ?_
  refine ev_invV 1415 (Mc := mX12_repair) ⟨lk1843, lk80, hdX12_repair, (Nat.le_of_ble_eq_true rfl), (Nat.le_of_ble_eq_true rfl)⟩ lk1840 lk1841 lk1842 mm_cl12 rfl dL_law_1412 (c2) rfl tm1 (Nat.le_of_ble_eq_true rfl) rfl rfl ?_
  refine ev_icmp_eq 1418 1823 dL_law_1415 (by decide) rfl (fun hbr => ?_) (fun hx => absurd ((rfl)) hx)
  exact k
theorem law_c31 (h : LHy g b L K x m i B I J P) : LSt g b K x m i 1420 B I J P := by
  obtain ⟨hK, hS, tb, nb, hi, hL, hb, tx, tm⟩ := h
  obtain ⟨r, B1, I1, J1, P1, I2, J2, P2, c1, c2, rs, ex, nx, sl, lo⟩ := (show JO g mX11_stage mX12_stage [.int (I b (i + 1)), .int (I b (i + 2)), .int (I b (i + 3))] from jo_stage) K x m B I J P hK hS
  have tb1 : mm_T B1 b = 1 := (ex.1 b (by omega)).1.trans tb
  have nb1 : mm_N B1 b = L := (ex.1 b (by omega)).2.trans nb
  have tm1 : mm_T B1 m = 112 := (ex.1 m (by omega)).1.trans tm
  refine ⟨B1, I2, J2, P2, rs, ex, nx, sl, lo, fun Z k => ?_⟩
  refine ev_aload_n 1421 dL_law_1420 rfl rfl ?_
  refine ev_aload_n 1422 dL_law_1421 rfl rfl ?_
  refine ev_iload_n 1423 dL_law_1422 rfl rfl ?_
  refine ev_iconstN 1424 1 dL_law_1423 rfl ?_
  refine ev_iaddN 1425 dL_law_1424 rfl ?_
  refine ev_ialdR 1426 _ dL_law_1425 tb rfl (by have hNN := nb; omega) rfl ?_
  refine ev_aload_n 1427 dL_law_1426 rfl rfl ?_
  refine ev_iload_n 1428 dL_law_1427 rfl rfl ?_
  refine ev_iconstN 1429 2 dL_law_1428 rfl ?_
  refine ev_iaddN 1430 dL_law_1429 rfl ?_
  refine ev_ialdR 1431 _ dL_law_1430 tb rfl (by have hNN := nb; omega) rfl ?_
  refine ev_aload_n 1432 dL_law_1431 rfl rfl ?_
  refine ev_iload_n 1433 dL_law_1432 rfl rfl ?_
  refine ev_iconstN 1434 3 dL_law_1433 rfl ?_
  refine ev_iaddN 1435 dL_law_1434 rfl ?_
  refine ev_ialdR 1436 _ dL_law_1435 tb rfl (by have hNN := nb; omega) rfl ?_
  refine ev_invVF 1439 (Mc := mX11_stage) ⟨lk1201, lk75, hdX11_stage, (Nat.le_of_ble_eq_true rfl), (Nat.le_of_ble_eq_true rfl)⟩ lk1198 lk1199 lk1200 mm_cl11 rfl dL_law_1436 (c1) rfl tx (Nat.le_of_ble_eq_true rfl) rfl rfl (hb) (tb) (tb1) (k.1) (fun hf => ?_)
  have e1 : I1 b (i + 1) = I b (i + 1) := hf _ (by omega) (by omega)
  have e2 : I1 b (i + 2) = I b (i + 2) := hf _ (by omega) (by omega)
  have e3 : I1 b (i + 3) = I b (i + 3) := hf _ (by omega) (by omega)
  rw [← e1, ← e2, ← e3] at c2
  refine ev_aload_n 1440 dL_law_1439 rfl rfl ?_
  refine ev_aload_n 1441 dL_law_1440 rfl rfl ?_
  refine ev_iload_n 1442 dL_law_1441 rfl rfl ?_
  refine ev_iconstN 1443 1 dL_law_1442 rfl ?_
  refine ev_iaddN 1444 dL_law_1443 rfl ?_
  refine ev_ialdR 1445 _ dL_law_1444 tb1 rfl (by have hNN := nb1; omega) rfl ?_
  refine ev_aload_n 1446 dL_law_1445 rfl rfl ?_
  refine ev_iload_n 1447 dL_law_1446 rfl rfl ?_
  refine ev_iconstN 1448 2 dL_law_1447 rfl ?_
  refine ev_iaddN 1449 dL_law_1448 rfl ?_
  refine ev_ialdR 1450 _ dL_law_1449 tb1 rfl (by have hNN := nb1; omega) rfl ?_
  refine ev_aload_n 1451 dL_law_1450 rfl rfl ?_
  refine ev_iload_n 1452 dL_law_1451 rfl rfl ?_
  refine ev_iconstN 1453 3 dL_law_1452 rfl ?_
  refine ev_iaddN 1454 dL_law_1453 rfl ?_
  refine ev_ialdR 1455 _ dL_law_1454 tb1 rfl (by have hNN := nb1; omega) rfl ?_
  refine ev_invV 1458 (Mc := mX12_stage) ⟨lk1847, lk80, hdX12_stage, (Nat.le_of_ble_eq_true rfl), (Nat.le_of_ble_eq_true rfl)⟩ lk1844 lk1845 lk1846 mm_cl12 rfl dL_law_1455 (c2) rfl tm1 (Nat.le_of_ble_eq_true rfl) rfl rfl ?_
  refine ev_icmp_eq 1461 1823 dL_law_1458 (by decide) rfl (fun hbr => ?_) (fun hx => absurd ((rfl)) hx)
  exact k
theorem law_c32 (h : LHy g b L K x m i B I J P) : LSt g b K x m i 1463 B I J P := by
  obtain ⟨hK, hS, tb, nb, hi, hL, hb, tx, tm⟩ := h
  obtain ⟨r, B1, I1, J1, P1, I2, J2, P2, c1, c2, rs, ex, nx, sl, lo⟩ := (show JO g mX11_join mX12_join [.int (I b (i + 1)), .int (I b (i + 2))] from jo_join) K x m B I J P hK hS
  have tb1 : mm_T B1 b = 1 := (ex.1 b (by omega)).1.trans tb
  have nb1 : mm_N B1 b = L := (ex.1 b (by omega)).2.trans nb
  have tm1 : mm_T B1 m = 112 := (ex.1 m (by omega)).1.trans tm
  refine ⟨B1, I2, J2, P2, rs, ex, nx, sl, lo, fun Z k => ?_⟩
  refine ev_aload_n 1464 dL_law_1463 rfl rfl ?_
  refine ev_aload_n 1465 dL_law_1464 rfl rfl ?_
  refine ev_iload_n 1466 dL_law_1465 rfl rfl ?_
  refine ev_iconstN 1467 1 dL_law_1466 rfl ?_
  refine ev_iaddN 1468 dL_law_1467 rfl ?_
  refine ev_ialdR 1469 _ dL_law_1468 tb rfl (by have hNN := nb; omega) rfl ?_
  refine ev_aload_n 1470 dL_law_1469 rfl rfl ?_
  refine ev_iload_n 1471 dL_law_1470 rfl rfl ?_
  refine ev_iconstN 1472 2 dL_law_1471 rfl ?_
  refine ev_iaddN 1473 dL_law_1472 rfl ?_
  refine ev_ialdR 1474 _ dL_law_1473 tb rfl (by have hNN := nb; omega) rfl ?_
  refine ev_invVF 1477 (Mc := mX11_join) ⟨lk1207, lk75, hdX11_join, (Nat.le_of_ble_eq_true rfl), (Nat.le_of_ble_eq_true rfl)⟩ lk1204 lk1205 lk1206 mm_cl11 rfl dL_law_1474 (c1) rfl tx (Nat.le_of_ble_eq_true rfl) rfl rfl (hb) (tb) (tb1) (k.1) (fun hf => ?_)
  have e1 : I1 b (i + 1) = I b (i + 1) := hf _ (by omega) (by omega)
  have e2 : I1 b (i + 2) = I b (i + 2) := hf _ (by omega) (by omega)
  rw [← e1, ← e2] at c2
  refine ev_aload_n 1478 dL_law_1477 rfl rfl ?_
  refine ev_aload_n 1479 dL_law_1478 rfl rfl ?_
  refine ev_iload_n 1480 dL_law_1479 rfl rfl ?_
  refine ev_iconstN 1481 1 dL_law_1480 rfl ?_
  refine ev_iaddN 1482 dL_law_1481 rfl ?_
  refine ev_ialdR 1483 _ dL_law_1482 tb1 rfl (by have hNN := nb1; omega) rfl ?_
  refine ev_aload_n 1484 dL_law_1483 rfl rfl ?_
  refine ev_iload_n 1485 dL_law_1484 rfl rfl ?_
  refine ev_iconstN 1486 2 dL_law_1485 rfl ?_
  refine ev_iaddN 1487 dL_law_1486 rfl ?_
  refine ev_ialdR 1488 _ dL_law_1487 tb1 rfl (by have hNN := nb1; omega) rfl ?_
  refine ev_invV 1491 (Mc := mX12_join) ⟨lk1851, lk80, hdX12_join, (Nat.le_of_ble_eq_true rfl), (Nat.le_of_ble_eq_true rfl)⟩ lk1848 lk1849 lk1850 mm_cl12 rfl dL_law_1488 (c2) rfl tm1 (Nat.le_of_ble_eq_true rfl) rfl rfl ?_
  refine ev_icmp_eq 1494 1823 dL_law_1491 (by decide) rfl (fun hbr => ?_) (fun hx => absurd ((rfl)) hx)
  exact k
theorem law_c33 (h : LHy g b L K x m i B I J P) : LSt g b K x m i 1496 B I J P := by
  obtain ⟨hK, hS, tb, nb, hi, hL, hb, tx, tm⟩ := h
  obtain ⟨r, B1, I1, J1, P1, I2, J2, P2, c1, c2, rs, ex, nx, sl, lo⟩ := (show JO g mX11_drift mX12_drift [.int (I b (i + 1)), .int (I b (i + 2))] from jo_drift) K x m B I J P hK hS
  have tb1 : mm_T B1 b = 1 := (ex.1 b (by omega)).1.trans tb
  have nb1 : mm_N B1 b = L := (ex.1 b (by omega)).2.trans nb
  have tm1 : mm_T B1 m = 112 := (ex.1 m (by omega)).1.trans tm
  refine ⟨B1, I2, J2, P2, rs, ex, nx, sl, lo, fun Z k => ?_⟩
  refine ev_aload_n 1497 dL_law_1496 rfl rfl ?_
  refine ev_aload_n 1498 dL_law_1497 rfl rfl ?_
  refine ev_iload_n 1499 dL_law_1498 rfl rfl ?_
  refine ev_iconstN 1500 1 dL_law_1499 rfl ?_
  refine ev_iaddN 1501 dL_law_1500 rfl ?_
  refine ev_ialdR 1502 _ dL_law_1501 tb rfl (by have hNN := nb; omega) rfl ?_
  refine ev_aload_n 1503 dL_law_1502 rfl rfl ?_
  refine ev_iload_n 1504 dL_law_1503 rfl rfl ?_
  refine ev_iconstN 1505 2 dL_law_1504 rfl ?_
  refine ev_iaddN 1506 dL_law_1505 rfl ?_
  refine ev_ialdR 1507 _ dL_law_1506 tb rfl (by have hNN := nb; omega) rfl ?_
  refine ev_invVF 1510 (Mc := mX11_drift) ⟨lk1211, lk75, hdX11_drift, (Nat.le_of_ble_eq_true rfl), (Nat.le_of_ble_eq_true rfl)⟩ lk1208 lk1209 lk1210 mm_cl11 rfl dL_law_1507 (c1) rfl tx (Nat.le_of_ble_eq_true rfl) rfl rfl (hb) (tb) (tb1) (k.1) (fun hf => ?_)
  have e1 : I1 b (i + 1) = I b (i + 1) := hf _ (by omega) (by omega)
  have e2 : I1 b (i + 2) = I b (i + 2) := hf _ (by omega) (by omega)
  rw [← e1, ← e2] at c2
  refine ev_aload_n 1511 dL_law_1510 rfl rfl ?_
  refine ev_aload_n 1512 dL_law_1511 rfl rfl ?_
  refine ev_iload_n 1513 dL_law_1512 rfl rfl ?_
  refine ev_iconstN 1514 1 dL_law_1513 rfl ?_
  refine ev_iaddN 1515 dL_law_1514 rfl ?_
  refine ev_ialdR 1516 _ dL_law_1515 tb1 rfl (by have hNN := nb1; omega) rfl ?_
  refine ev_aload_n 1517 dL_law_1516 rfl rfl ?_
  refine ev_iload_n 1518 dL_law_1517 rfl rfl ?_
  refine ev_iconstN 1519 2 dL_law_1518 rfl ?_
  refine ev_iaddN 1520 dL_law_1519 rfl ?_
  refine ev_ialdR 1521 _ dL_law_1520 tb1 rfl (by have hNN := nb1; omega) rfl ?_
  refine ev_invV 1524 (Mc := mX12_drift) ⟨lk1855, lk80, hdX12_drift, (Nat.le_of_ble_eq_true rfl), (Nat.le_of_ble_eq_true rfl)⟩ lk1852 lk1853 lk1854 mm_cl12 rfl dL_law_1521 (c2) rfl tm1 (Nat.le_of_ble_eq_true rfl) rfl rfl ?_
  refine ev_icmp_eq 1527 1823 dL_law_1524 (by decide) rfl (fun hbr => ?_) (fun hx => absurd ((rfl)) hx)
  exact k
theorem law_c34 (h : LHy g b L K x m i B I J P) : LSt g b K x m i 1529 B I J P := by
  obtain ⟨hK, hS, tb, nb, hi, hL, hb, tx, tm⟩ := h
  obtain ⟨r, B1, I1, J1, P1, I2, J2, P2, c1, c2, rs, ex, nx, sl, lo⟩ := (show JO g mX11_mix mX12_mix [.int (I b (i + 1)), .int (I b (i + 2)), .int (I b (i + 3)), .int (I b (i + 4))] from jo_mix) K x m B I J P hK hS
  have tb1 : mm_T B1 b = 1 := (ex.1 b (by omega)).1.trans tb
  have nb1 : mm_N B1 b = L := (ex.1 b (by omega)).2.trans nb
  have tm1 : mm_T B1 m = 112 := (ex.1 m (by omega)).1.trans tm
  refine ⟨B1, I2, J2, P2, rs, ex, nx, sl, lo, fun Z k => ?_⟩
  refine ev_aload_n 1530 dL_law_1529 rfl rfl ?_
  refine ev_aload_n 1531 dL_law_1530 rfl rfl ?_
  refine ev_iload_n 1532 dL_law_1531 rfl rfl ?_
  refine ev_iconstN 1533 1 dL_law_1532 rfl ?_
  refine ev_iaddN 1534 dL_law_1533 rfl ?_
  refine ev_ialdR 1535 _ dL_law_1534 tb rfl (by have hNN := nb; omega) rfl ?_
  refine ev_aload_n 1536 dL_law_1535 rfl rfl ?_
  refine ev_iload_n 1537 dL_law_1536 rfl rfl ?_
  refine ev_iconstN 1538 2 dL_law_1537 rfl ?_
  refine ev_iaddN 1539 dL_law_1538 rfl ?_
  refine ev_ialdR 1540 _ dL_law_1539 tb rfl (by have hNN := nb; omega) rfl ?_
  refine ev_aload_n 1541 dL_law_1540 rfl rfl ?_
  refine ev_iload_n 1542 dL_law_1541 rfl rfl ?_
  refine ev_iconstN 1543 3 dL_law_1542 rfl ?_
  refine ev_iaddN 1544 dL_law_1543 rfl ?_
  refine ev_ialdR 1545 _ dL_law_1544 tb rfl (by have hNN := nb; omega) rfl ?_
  refine ev_aload_n 1546 dL_law_1545 rfl rfl ?_
  refine ev_iload_n 1547 dL_law_1546 rfl rfl ?_
  refine ev_iconstN 1548 4 dL_law_1547 rfl ?_
  refine ev_iaddN 1549 dL_law_1548 rfl ?_
  refine ev_ialdR 1550 _ dL_law_1549 tb rfl (by have hNN := nb; omega) rfl ?_
  refine ev_invVF 1553 (Mc := mX11_mix) ⟨lk1215, lk75, hdX11_mix, (Nat.le_of_ble_eq_true rfl), (Nat.le_of_ble_eq_true rfl)⟩ lk1212 lk1213 lk1214 mm_cl11 rfl dL_law_1550 (c1) rfl tx (Nat.le_of_ble_eq_true rfl) rfl rfl (hb) (tb) (tb1) (k.1) (fun hf => ?_)
  have e1 : I1 b (i + 1) = I b (i + 1) := hf _ (by omega) (by omega)
  have e2 : I1 b (i + 2) = I b (i + 2) := hf _ (by omega) (by omega)
  have e3 : I1 b (i + 3) = I b (i + 3) := hf _ (by omega) (by omega)
  have e4 : I1 b (i + 4) = I b (i + 4) := hf _ (by omega) (by omega)
  rw [← e1, ← e2, ← e3, ← e4] at c2
  refine ev_aload_n 1554 dL_law_1553 rfl rfl ?_
  refine ev_aload_n 1555 dL_law_1554 rfl rfl ?_
  refine ev_iload_n 1556 dL_law_1555 rfl rfl ?_
  refine ev_iconstN 1557 1 dL_law_1556 rfl ?_
  refine ev_iaddN 1558 dL_law_1557 rfl ?_
  refine ev_ialdR 1559 _ dL_law_1558 tb1 rfl (by have hNN := nb1; omega) rfl ?_
  refine ev_aload_n 1560 dL_law_1559 rfl rfl ?_
  refine ev_iload_n 1561 dL_law_1560 rfl rfl ?_
  refine ev_iconstN 1562 2 dL_law_1561 rfl ?_
  refine ev_iaddN 1563 dL_law_1562 rfl ?_
  refine ev_ialdR 1564 _ dL_law_1563 tb1 rfl (by have hNN := nb1; omega) rfl ?_
  refine ev_aload_n 1565 dL_law_1564 rfl rfl ?_
  refine ev_iload_n 1566 dL_law_1565 rfl rfl ?_
  refine ev_iconstN 1567 3 dL_law_1566 rfl ?_
  refine ev_iaddN 1568 dL_law_1567 rfl ?_
  refine ev_ialdR 1569 _ dL_law_1568 tb1 rfl (by have hNN := nb1; omega) rfl ?_
  refine ev_aload_n 1570 dL_law_1569 rfl rfl ?_
  refine ev_iload_n 1571 dL_law_1570 rfl rfl ?_
  refine ev_iconstN 1572 4 dL_law_1571 rfl ?_
  refine ev_iaddN 1573 dL_law_1572 rfl ?_
  refine ev_ialdR 1574 _ dL_law_1573 tb1 rfl (by have hNN := nb1; omega) rfl ?_
  refine ev_invV 1577 (Mc := mX12_mix) ⟨lk1859, lk80, hdX12_mix, (Nat.le_of_ble_eq_true rfl), (Nat.le_of_ble_eq_true rfl)⟩ lk1856 lk1857 lk1858 mm_cl12 rfl dL_law_1574 (c2) rfl tm1 (Nat.le_of_ble_eq_true rfl) rfl rfl ?_
  refine ev_icmp_eq 1580 1823 dL_law_1577 (by decide) rfl (fun hbr => ?_) (fun hx => absurd ((rfl)) hx)
  exact k
theorem law_c35 (h : LHy g b L K x m i B I J P) : LSt g b K x m i 1582 B I J P := by
  obtain ⟨hK, hS, tb, nb, hi, hL, hb, tx, tm⟩ := h
  obtain ⟨r, B1, I1, J1, P1, I2, J2, P2, c1, c2, rs, ex, nx, sl, lo⟩ := (show JO g mX11_resample mX12_resample [.int (I b (i + 1)), .int (I b (i + 2)), .int (I b (i + 3))] from jo_resample) K x m B I J P hK hS
  have tb1 : mm_T B1 b = 1 := (ex.1 b (by omega)).1.trans tb
  have nb1 : mm_N B1 b = L := (ex.1 b (by omega)).2.trans nb
  have tm1 : mm_T B1 m = 112 := (ex.1 m (by omega)).1.trans tm
  refine ⟨B1, I2, J2, P2, rs, ex, nx, sl, lo, fun Z k => ?_⟩
  refine ev_aload_n 1583 dL_law_1582 rfl rfl ?_
  refine ev_aload_n 1584 dL_law_1583 rfl rfl ?_
  refine ev_iload_n 1585 dL_law_1584 rfl rfl ?_
  refine ev_iconstN 1586 1 dL_law_1585 rfl ?_
  refine ev_iaddN 1587 dL_law_1586 rfl ?_
  refine ev_ialdR 1588 _ dL_law_1587 tb rfl (by have hNN := nb; omega) rfl ?_
  refine ev_aload_n 1589 dL_law_1588 rfl rfl ?_
  refine ev_iload_n 1590 dL_law_1589 rfl rfl ?_
  refine ev_iconstN 1591 2 dL_law_1590 rfl ?_
  refine ev_iaddN 1592 dL_law_1591 rfl ?_
  refine ev_ialdR 1593 _ dL_law_1592 tb rfl (by have hNN := nb; omega) rfl ?_
  refine ev_aload_n 1594 dL_law_1593 rfl rfl ?_
  refine ev_iload_n 1595 dL_law_1594 rfl rfl ?_
  refine ev_iconstN 1596 3 dL_law_1595 rfl ?_
  refine ev_iaddN 1597 dL_law_1596 rfl ?_
  refine ev_ialdR 1598 _ dL_law_1597 tb rfl (by have hNN := nb; omega) rfl ?_
  refine ev_invVF 1601 (Mc := mX11_resample) ⟨lk1224, lk75, hdX11_resample, (Nat.le_of_ble_eq_true rfl), (Nat.le_of_ble_eq_true rfl)⟩ lk1221 lk1222 lk1223 mm_cl11 rfl dL_law_1598 (c1) rfl tx (Nat.le_of_ble_eq_true rfl) rfl rfl (hb) (tb) (tb1) (k.1) (fun hf => ?_)
  have e1 : I1 b (i + 1) = I b (i + 1) := hf _ (by omega) (by omega)
  have e2 : I1 b (i + 2) = I b (i + 2) := hf _ (by omega) (by omega)
  have e3 : I1 b (i + 3) = I b (i + 3) := hf _ (by omega) (by omega)
  rw [← e1, ← e2, ← e3] at c2
  refine ev_aload_n 1602 dL_law_1601 rfl rfl ?_
  refine ev_aload_n 1603 dL_law_1602 rfl rfl ?_
  refine ev_iload_n 1604 dL_law_1603 rfl rfl ?_
  refine ev_iconstN 1605 1 dL_law_1604 rfl ?_
  refine ev_iaddN 1606 dL_law_1605 rfl ?_
  refine ev_ialdR 1607 _ dL_law_1606 tb1 rfl (by have hNN := nb1; omega) rfl ?_
  refine ev_aload_n 1608 dL_law_1607 rfl rfl ?_
  refine ev_iload_n 1609 dL_law_1608 rfl rfl ?_
  refine ev_iconstN 1610 2 dL_law_1609 rfl ?_
  refine ev_iaddN 1611 dL_law_1610 rfl ?_
  refine ev_ialdR 1612 _ dL_law_1611 tb1 rfl (by have hNN := nb1; omega) rfl ?_
  refine ev_aload_n 1613 dL_law_1612 rfl rfl ?_
  refine ev_iload_n 1614 dL_law_1613 rfl rfl ?_
  refine ev_iconstN 1615 3 dL_law_1614 rfl ?_
  refine ev_iaddN 1616 dL_law_1615 rfl ?_
  refine ev_ialdR 1617 _ dL_law_1616 tb1 rfl (by have hNN := nb1; omega) rfl ?_
  refine ev_invV 1620 (Mc := mX12_resample) ⟨lk1863, lk80, hdX12_resample, (Nat.le_of_ble_eq_true rfl), (Nat.le_of_ble_eq_true rfl)⟩ lk1860 lk1861 lk1862 mm_cl12 rfl dL_law_1617 (c2) rfl tm1 (Nat.le_of_ble_eq_true rfl) rfl rfl ?_
  refine ev_icmp_eq 1623 1823 dL_law_1620 (by decide) rfl (fun hbr => ?_) (fun hx => absurd ((rfl)) hx)
  exact k
theorem law_c36 (h : LHy g b L K x m i B I J P) : LSt g b K x m i 1625 B I J P := by
  obtain ⟨hK, hS, tb, nb, hi, hL, hb, tx, tm⟩ := h
  obtain ⟨r, B1, I1, J1, P1, I2, J2, P2, c1, c2, rs, ex, nx, sl, lo⟩ := (show JO g mX11_work mX12_work [.int (I b (i + 1))] from jo_work) K x m B I J P hK hS
  have tb1 : mm_T B1 b = 1 := (ex.1 b (by omega)).1.trans tb
  have nb1 : mm_N B1 b = L := (ex.1 b (by omega)).2.trans nb
  have tm1 : mm_T B1 m = 112 := (ex.1 m (by omega)).1.trans tm
  refine ⟨B1, I2, J2, P2, rs, ex, nx, sl, lo, fun Z k => ?_⟩
  refine ev_aload_n 1626 dL_law_1625 rfl rfl ?_
  refine ev_aload_n 1627 dL_law_1626 rfl rfl ?_
  refine ev_iload_n 1628 dL_law_1627 rfl rfl ?_
  refine ev_iconstN 1629 1 dL_law_1628 rfl ?_
  refine ev_iaddN 1630 dL_law_1629 rfl ?_
  refine ev_ialdR 1631 _ dL_law_1630 tb rfl (by have hNN := nb; omega) rfl ?_
  refine ev_invVF 1634 (Mc := mX11_work) ⟨lk1228, lk75, hdX11_work, (Nat.le_of_ble_eq_true rfl), (Nat.le_of_ble_eq_true rfl)⟩ lk1225 lk1226 lk1227 mm_cl11 rfl dL_law_1631 (c1) rfl tx (Nat.le_of_ble_eq_true rfl) rfl rfl (hb) (tb) (tb1) (k.1) (fun hf => ?_)
  have e1 : I1 b (i + 1) = I b (i + 1) := hf _ (by omega) (by omega)
  rw [← e1] at c2
  refine ev_aload_n 1635 dL_law_1634 rfl rfl ?_
  refine ev_aload_n 1636 dL_law_1635 rfl rfl ?_
  refine ev_iload_n 1637 dL_law_1636 rfl rfl ?_
  refine ev_iconstN 1638 1 dL_law_1637 rfl ?_
  refine ev_iaddN 1639 dL_law_1638 rfl ?_
  refine ev_ialdR 1640 _ dL_law_1639 tb1 rfl (by have hNN := nb1; omega) rfl ?_
  refine ev_invV 1643 (Mc := mX12_work) ⟨lk1867, lk80, hdX12_work, (Nat.le_of_ble_eq_true rfl), (Nat.le_of_ble_eq_true rfl)⟩ lk1864 lk1865 lk1866 mm_cl12 rfl dL_law_1640 (c2) rfl tm1 (Nat.le_of_ble_eq_true rfl) rfl rfl ?_
  refine ev_icmp_eq 1646 1823 dL_law_1643 (by decide) rfl (fun hbr => ?_) (fun hx => absurd ((rfl)) hx)
  exact k
theorem law_c37 (h : LHy g b L K x m i B I J P) : LSt g b K x m i 1648 B I J P := by
  obtain ⟨hK, hS, tb, nb, hi, hL, hb, tx, tm⟩ := h
  obtain ⟨r, B1, I1, J1, P1, I2, J2, P2, c1, c2, rs, ex, nx, sl, lo⟩ := (show JO g mX11_trace mX12_trace [.int (I b (i + 1))] from jo_trace) K x m B I J P hK hS
  have tb1 : mm_T B1 b = 1 := (ex.1 b (by omega)).1.trans tb
  have nb1 : mm_N B1 b = L := (ex.1 b (by omega)).2.trans nb
  have tm1 : mm_T B1 m = 112 := (ex.1 m (by omega)).1.trans tm
  refine ⟨B1, I2, J2, P2, rs, ex, nx, sl, lo, fun Z k => ?_⟩
  refine ev_aload_n 1649 dL_law_1648 rfl rfl ?_
  refine ev_aload_n 1650 dL_law_1649 rfl rfl ?_
  refine ev_iload_n 1651 dL_law_1650 rfl rfl ?_
  refine ev_iconstN 1652 1 dL_law_1651 rfl ?_
  refine ev_iaddN 1653 dL_law_1652 rfl ?_
  refine ev_ialdR 1654 _ dL_law_1653 tb rfl (by have hNN := nb; omega) rfl ?_
  refine ev_invVF 1657 (Mc := mX11_trace) ⟨lk1232, lk75, hdX11_trace, (Nat.le_of_ble_eq_true rfl), (Nat.le_of_ble_eq_true rfl)⟩ lk1229 lk1230 lk1231 mm_cl11 rfl dL_law_1654 (c1) rfl tx (Nat.le_of_ble_eq_true rfl) rfl rfl (hb) (tb) (tb1) (k.1) (fun hf => ?_)
  have e1 : I1 b (i + 1) = I b (i + 1) := hf _ (by omega) (by omega)
  rw [← e1] at c2
  refine ev_aload_n 1658 dL_law_1657 rfl rfl ?_
  refine ev_aload_n 1659 dL_law_1658 rfl rfl ?_
  refine ev_iload_n 1660 dL_law_1659 rfl rfl ?_
  refine ev_iconstN 1661 1 dL_law_1660 rfl ?_
  refine ev_iaddN 1662 dL_law_1661 rfl ?_
  refine ev_ialdR 1663 _ dL_law_1662 tb1 rfl (by have hNN := nb1; omega) rfl ?_
  refine ev_invV 1666 (Mc := mX12_trace) ⟨lk1871, lk80, hdX12_trace, (Nat.le_of_ble_eq_true rfl), (Nat.le_of_ble_eq_true rfl)⟩ lk1868 lk1869 lk1870 mm_cl12 rfl dL_law_1663 (c2) rfl tm1 (Nat.le_of_ble_eq_true rfl) rfl rfl ?_
  refine ev_icmp_eq 1669 1823 dL_law_1666 (by decide) rfl (fun hbr => ?_) (fun hx => absurd ((rfl)) hx)
  exact k
theorem law_c38 (h : LHy g b L K x m i B I J P) : LSt g b K x m i 1671 B I J P := by
  obtain ⟨hK, hS, tb, nb, hi, hL, hb, tx, tm⟩ := h
  obtain ⟨r, B1, I1, J1, P1, I2, J2, P2, c1, c2, rs, ex, nx, sl, lo⟩ := (show JO g mX11_count mX12_count [.int (I b (i + 1)), .int (I b (i + 2))] from jo_count) K x m B I J P hK hS
  have tb1 : mm_T B1 b = 1 := (ex.1 b (by omega)).1.trans tb
  have nb1 : mm_N B1 b = L := (ex.1 b (by omega)).2.trans nb
  have tm1 : mm_T B1 m = 112 := (ex.1 m (by omega)).1.trans tm
  refine ⟨B1, I2, J2, P2, rs, ex, nx, sl, lo, fun Z k => ?_⟩
  refine ev_aload_n 1672 dL_law_1671 rfl rfl ?_
  refine ev_aload_n 1673 dL_law_1672 rfl rfl ?_
  refine ev_iload_n 1674 dL_law_1673 rfl rfl ?_
  refine ev_iconstN 1675 1 dL_law_1674 rfl ?_
  refine ev_iaddN 1676 dL_law_1675 rfl ?_
  refine ev_ialdR 1677 _ dL_law_1676 tb rfl (by have hNN := nb; omega) rfl ?_
  refine ev_aload_n 1678 dL_law_1677 rfl rfl ?_
  refine ev_iload_n 1679 dL_law_1678 rfl rfl ?_
  refine ev_iconstN 1680 2 dL_law_1679 rfl ?_
  refine ev_iaddN 1681 dL_law_1680 rfl ?_
  refine ev_ialdR 1682 _ dL_law_1681 tb rfl (by have hNN := nb; omega) rfl ?_
  refine ev_invVF 1685 (Mc := mX11_count) ⟨lk1236, lk75, hdX11_count, (Nat.le_of_ble_eq_true rfl), (Nat.le_of_ble_eq_true rfl)⟩ lk1233 lk1234 lk1235 mm_cl11 rfl dL_law_1682 (c1) rfl tx (Nat.le_of_ble_eq_true rfl) rfl rfl (hb) (tb) (tb1) (k.1) (fun hf => ?_)
  have e1 : I1 b (i + 1) = I b (i + 1) := hf _ (by omega) (by omega)
  have e2 : I1 b (i + 2) = I b (i + 2) := hf _ (by omega) (by omega)
  rw [← e1, ← e2] at c2
  refine ev_aload_n 1686 dL_law_1685 rfl rfl ?_
  refine ev_aload_n 1687 dL_law_1686 rfl rfl ?_
  refine ev_iload_n 1688 dL_law_1687 rfl rfl ?_
  refine ev_iconstN 1689 1 dL_law_1688 rfl ?_
  refine ev_iaddN 1690 dL_law_1689 rfl ?_
  refine ev_ialdR 1691 _ dL_law_1690 tb1 rfl (by have hNN := nb1; omega) rfl ?_
  refine ev_aload_n 1692 dL_law_1691 rfl rfl ?_
  refine ev_iload_n 1693 dL_law_1692 rfl rfl ?_
  refine ev_iconstN 1694 2 dL_law_1693 rfl ?_
  refine ev_iaddN 1695 dL_law_1694 rfl ?_
  refine ev_ialdR 1696 _ dL_law_1695 tb1 rfl (by have hNN := nb1; omega) rfl ?_
  refine ev_invV 1699 (Mc := mX12_count) ⟨lk1875, lk80, hdX12_count, (Nat.le_of_ble_eq_true rfl), (Nat.le_of_ble_eq_true rfl)⟩ lk1872 lk1873 lk1874 mm_cl12 rfl dL_law_1696 (c2) rfl tm1 (Nat.le_of_ble_eq_true rfl) rfl rfl ?_
  refine ev_icmp_eq 1702 1823 dL_law_1699 (by decide) rfl (fun hbr => ?_) (fun hx => absurd ((rfl)) hx)
  exact k
theorem law_c39 (h : LHy g b L K x m i B I J P) : LSt g b K x m i 1704 B I J P := by
  obtain ⟨hK, hS, tb, nb, hi, hL, hb, tx, tm⟩ := h
  obtain ⟨r, B1, I1, J1, P1, I2, J2, P2, c1, c2, rs, ex, nx, sl, lo⟩ := (show JO g mX11_found mX12_found [.int (I b (i + 1))] from jo_found) K x m B I J P hK hS
  have tb1 : mm_T B1 b = 1 := (ex.1 b (by omega)).1.trans tb
  have nb1 : mm_N B1 b = L := (ex.1 b (by omega)).2.trans nb
  have tm1 : mm_T B1 m = 112 := (ex.1 m (by omega)).1.trans tm
  refine ⟨B1, I2, J2, P2, rs, ex, nx, sl, lo, fun Z k => ?_⟩
  refine ev_aload_n 1705 dL_law_1704 rfl rfl ?_
  refine ev_aload_n 1706 dL_law_1705 rfl rfl ?_
  refine ev_iload_n 1707 dL_law_1706 rfl rfl ?_
  refine ev_iconstN 1708 1 dL_law_1707 rfl ?_
  refine ev_iaddN 1709 dL_law_1708 rfl ?_
  refine ev_ialdR 1710 _ dL_law_1709 tb rfl (by have hNN := nb; omega) rfl ?_
  refine ev_invVF 1713 (Mc := mX11_found) ⟨lk1250, lk75, hdX11_found, (Nat.le_of_ble_eq_true rfl), (Nat.le_of_ble_eq_true rfl)⟩ lk1247 lk1248 lk1249 mm_cl11 rfl dL_law_1710 (c1) rfl tx (Nat.le_of_ble_eq_true rfl) rfl rfl (hb) (tb) (tb1) (k.1) (fun hf => ?_)
  have e1 : I1 b (i + 1) = I b (i + 1) := hf _ (by omega) (by omega)
  rw [← e1] at c2
  refine ev_aload_n 1714 dL_law_1713 rfl rfl ?_
  refine ev_aload_n 1715 dL_law_1714 rfl rfl ?_
  refine ev_iload_n 1716 dL_law_1715 rfl rfl ?_
  refine ev_iconstN 1717 1 dL_law_1716 rfl ?_
  refine ev_iaddN 1718 dL_law_1717 rfl ?_
  refine ev_ialdR 1719 _ dL_law_1718 tb1 rfl (by have hNN := nb1; omega) rfl ?_
  refine ev_invV 1722 (Mc := mX12_found) ⟨lk1879, lk80, hdX12_found, (Nat.le_of_ble_eq_true rfl), (Nat.le_of_ble_eq_true rfl)⟩ lk1876 lk1877 lk1878 mm_cl12 rfl dL_law_1719 (c2) rfl tm1 (Nat.le_of_ble_eq_true rfl) rfl rfl ?_
  refine ev_icmp_eq 1725 1823 dL_law_1722 (by decide) rfl (fun hbr => ?_) (fun hx => absurd ((rfl)) hx)
  exact k
theorem law_c40 (h : LHy g b L K x m i B I J P) : LSt g b K x m i 1727 B I J P := by
  obtain ⟨hK, hS, tb, nb, hi, hL, hb, tx, tm⟩ := h
  obtain ⟨r, B1, I1, J1, P1, I2, J2, P2, c1, c2, rs, ex, nx, sl, lo⟩ := (show JOL g mX11_saturations mX12_saturations [] from jo_saturations) K x m B I J P hK hS
  have tb1 : mm_T B1 b = 1 := (ex.1 b (by omega)).1.trans tb
  have nb1 : mm_N B1 b = L := (ex.1 b (by omega)).2.trans nb
  have tm1 : mm_T B1 m = 112 := (ex.1 m (by omega)).1.trans tm
  refine ⟨B1, I2, J2, P2, rs, ex, nx, sl, lo, fun Z k => ?_⟩
  refine ev_aload_n 1728 dL_law_1727 rfl rfl ?_
  refine ev_invVF 1731 (Mc := mX11_saturations) ⟨lk1254, lk75, hdX11_saturations, (Nat.le_of_ble_eq_true rfl), (Nat.le_of_ble_eq_true rfl)⟩ lk1251 lk1252 lk1253 mm_cl11 rfl dL_law_1728 (c1) rfl tx (Nat.le_of_ble_eq_true rfl) rfl rfl (hb) (tb) (tb1) (k.1) (fun hf => ?_)
  refine ev_aload_n 1732 dL_law_1731 rfl rfl ?_
  refine ev_invV 1735 (Mc := mX12_saturations) ⟨lk1883, lk80, hdX12_saturations, (Nat.le_of_ble_eq_true rfl), (Nat.le_of_ble_eq_true rfl)⟩ lk1880 lk1881 lk1882 mm_cl12 rfl dL_law_1732 (c2) rfl tm1 (Nat.le_of_ble_eq_true rfl) rfl rfl ?_
  refine ev_lcmp 1736 dL_law_1735 rfl ?_
  refine ev_lc_eq 1739 1823 dL_law_1736 (by decide) rfl (fun hbr => ?_) (fun hx => absurd ((rfl)) hx)
  exact k
theorem law_c41 (h : LHy g b L K x m i B I J P) : LSt g b K x m i 1741 B I J P := by
  obtain ⟨hK, hS, tb, nb, hi, hL, hb, tx, tm⟩ := h
  obtain ⟨r, B1, I1, J1, P1, I2, J2, P2, c1, c2, rs, ex, nx, sl, lo⟩ := (show JO g mX11_digest mX12_digest [.int (I b (i + 1)), .int (I b (i + 2))] from jo_digest) K x m B I J P hK hS
  have tb1 : mm_T B1 b = 1 := (ex.1 b (by omega)).1.trans tb
  have nb1 : mm_N B1 b = L := (ex.1 b (by omega)).2.trans nb
  have tm1 : mm_T B1 m = 112 := (ex.1 m (by omega)).1.trans tm
  refine ⟨B1, I2, J2, P2, rs, ex, nx, sl, lo, fun Z k => ?_⟩
  refine ev_aload_n 1742 dL_law_1741 rfl rfl ?_
  refine ev_aload_n 1743 dL_law_1742 rfl rfl ?_
  refine ev_iload_n 1744 dL_law_1743 rfl rfl ?_
  refine ev_iconstN 1745 1 dL_law_1744 rfl ?_
  refine ev_iaddN 1746 dL_law_1745 rfl ?_
  refine ev_ialdR 1747 _ dL_law_1746 tb rfl (by have hNN := nb; omega) rfl ?_
  refine ev_aload_n 1748 dL_law_1747 rfl rfl ?_
  refine ev_iload_n 1749 dL_law_1748 rfl rfl ?_
  refine ev_iconstN 1750 2 dL_law_1749 rfl ?_
  refine ev_iaddN 1751 dL_law_1750 rfl ?_
  refine ev_ialdR 1752 _ dL_law_1751 tb rfl (by have hNN := nb; omega) rfl ?_
  refine ev_invVF 1755 (Mc := mX11_digest) ⟨lk1258, lk75, hdX11_digest, (Nat.le_of_ble_eq_true rfl), (Nat.le_of_ble_eq_true rfl)⟩ lk1255 lk1256 lk1257 mm_cl11 rfl dL_law_1752 (c1) rfl tx (Nat.le_of_ble_eq_true rfl) rfl rfl (hb) (tb) (tb1) (k.1) (fun hf => ?_)
  have e1 : I1 b (i + 1) = I b (i + 1) := hf _ (by omega) (by omega)
  have e2 : I1 b (i + 2) = I b (i + 2) := hf _ (by omega) (by omega)
  rw [← e1, ← e2] at c2
  refine ev_aload_n 1756 dL_law_1755 rfl rfl ?_
  refine ev_aload_n 1757 dL_law_1756 rfl rfl ?_
  refine ev_iload_n 1758 dL_law_1757 rfl rfl ?_
  refine ev_iconstN 1759 1 dL_law_1758 rfl ?_
  refine ev_iaddN 1760 dL_law_1759 rfl ?_
  refine ev_ialdR 1761 _ dL_law_1760 tb1 rfl (by have hNN := nb1; omega) rfl ?_
  refine ev_aload_n 1762 dL_law_1761 rfl rfl ?_
  refine ev_iload_n 1763 dL_law_1762 rfl rfl ?_
  refine ev_iconstN 1764 2 dL_law_1763 rfl ?_
  refine ev_iaddN 1765 dL_law_1764 rfl ?_
  refine ev_ialdR 1766 _ dL_law_1765 tb1 rfl (by have hNN := nb1; omega) rfl ?_
  refine ev_invV 1769 (Mc := mX12_digest) ⟨lk1887, lk80, hdX12_digest, (Nat.le_of_ble_eq_true rfl), (Nat.le_of_ble_eq_true rfl)⟩ lk1884 lk1885 lk1886 mm_cl12 rfl dL_law_1766 (c2) rfl tm1 (Nat.le_of_ble_eq_true rfl) rfl rfl ?_
  refine ev_icmp_eq 1772 1823 dL_law_1769 (by decide) rfl (fun hbr => ?_) (fun hx => absurd ((rfl)) hx)
  exact k
theorem law_c42 (h : LHy g b L K x m i B I J P) : LSt g b K x m i 1774 B I J P := by
  obtain ⟨hK, hS, tb, nb, hi, hL, hb, tx, tm⟩ := h
  obtain ⟨r, B1, I1, J1, P1, I2, J2, P2, c1, c2, rs, ex, nx, sl, lo⟩ := (show JO g mX11_status mX12_status [] from jo_status) K x m B I J P hK hS
  have tb1 : mm_T B1 b = 1 := (ex.1 b (by omega)).1.trans tb
  have nb1 : mm_N B1 b = L := (ex.1 b (by omega)).2.trans nb
  have tm1 : mm_T B1 m = 112 := (ex.1 m (by omega)).1.trans tm
  refine ⟨B1, I2, J2, P2, rs, ex, nx, sl, lo, fun Z k => ?_⟩
  refine ev_aload_n 1775 dL_law_1774 rfl rfl ?_
  refine ev_invVF 1778 (Mc := mX11_status) ⟨lk1269, lk75, hdX11_status, (Nat.le_of_ble_eq_true rfl), (Nat.le_of_ble_eq_true rfl)⟩ lk1266 lk1267 lk1268 mm_cl11 rfl dL_law_1775 (c1) rfl tx (Nat.le_of_ble_eq_true rfl) rfl rfl (hb) (tb) (tb1) (k.1) (fun hf => ?_)
  refine ev_aload_n 1779 dL_law_1778 rfl rfl ?_
  refine ev_invV 1782 (Mc := mX12_status) ⟨lk1891, lk80, hdX12_status, (Nat.le_of_ble_eq_true rfl), (Nat.le_of_ble_eq_true rfl)⟩ lk1888 lk1889 lk1890 mm_cl12 rfl dL_law_1779 (c2) rfl tm1 (Nat.le_of_ble_eq_true rfl) rfl rfl ?_
  refine ev_icmp_eq 1785 1823 dL_law_1782 (by decide) rfl (fun hbr => ?_) (fun hx => absurd ((rfl)) hx)
  exact k
theorem law_c43 (h : LHy g b L K x m i B I J P) : LSt g b K x m i 1787 B I J P := by
  obtain ⟨hK, hS, tb, nb, hi, hL, hb, tx, tm⟩ := h
  obtain ⟨r, B1, I1, J1, P1, I2, J2, P2, c1, c2, rs, ex, nx, sl, lo⟩ := (show JO g mX11_told mX12_told [.int (I b (i + 1))] from jo_told) K x m B I J P hK hS
  have tb1 : mm_T B1 b = 1 := (ex.1 b (by omega)).1.trans tb
  have nb1 : mm_N B1 b = L := (ex.1 b (by omega)).2.trans nb
  have tm1 : mm_T B1 m = 112 := (ex.1 m (by omega)).1.trans tm
  refine ⟨B1, I2, J2, P2, rs, ex, nx, sl, lo, fun Z k => ?_⟩
  refine ev_aload_n 1788 dL_law_1787 rfl rfl ?_
  refine ev_aload_n 1789 dL_law_1788 rfl rfl ?_
  refine ev_iload_n 1790 dL_law_1789 rfl rfl ?_
  refine ev_iconstN 1791 1 dL_law_1790 rfl ?_
  refine ev_iaddN 1792 dL_law_1791 rfl ?_
  refine ev_ialdR 1793 _ dL_law_1792 tb rfl (by have hNN := nb; omega) rfl ?_
  refine ev_invVF 1796 (Mc := mX11_told) ⟨lk1273, lk75, hdX11_told, (Nat.le_of_ble_eq_true rfl), (Nat.le_of_ble_eq_true rfl)⟩ lk1270 lk1271 lk1272 mm_cl11 rfl dL_law_1793 (c1) rfl tx (Nat.le_of_ble_eq_true rfl) rfl rfl (hb) (tb) (tb1) (k.1) (fun hf => ?_)
  have e1 : I1 b (i + 1) = I b (i + 1) := hf _ (by omega) (by omega)
  rw [← e1] at c2
  refine ev_aload_n 1797 dL_law_1796 rfl rfl ?_
  refine ev_aload_n 1798 dL_law_1797 rfl rfl ?_
  refine ev_iload_n 1799 dL_law_1798 rfl rfl ?_
  refine ev_iconstN 1800 1 dL_law_1799 rfl ?_
  refine ev_iaddN 1801 dL_law_1800 rfl ?_
  refine ev_ialdR 1802 _ dL_law_1801 tb1 rfl (by have hNN := nb1; omega) rfl ?_
  refine ev_invV 1805 (Mc := mX12_told) ⟨lk1895, lk80, hdX12_told, (Nat.le_of_ble_eq_true rfl), (Nat.le_of_ble_eq_true rfl)⟩ lk1892 lk1893 lk1894 mm_cl12 rfl dL_law_1802 (c2) rfl tm1 (Nat.le_of_ble_eq_true rfl) rfl rfl ?_
  refine ev_icmp_eq 1808 1823 dL_law_1805 (by decide) rfl (fun hbr => ?_) (fun hx => absurd ((rfl)) hx)
  exact k
theorem law_c44 (h : LHy g b L K x m i B I J P) : LSt g b K x m i 1810 B I J P := by
  obtain ⟨hK, hS, tb, nb, hi, hL, hb, tx, tm⟩ := h
  obtain ⟨r, B1, I1, J1, P1, I2, J2, P2, c1, c2, rs, ex, nx, sl, lo⟩ := (show JO g mX11_clear mX12_clear [] from jo_clear) K x m B I J P hK hS
  have tb1 : mm_T B1 b = 1 := (ex.1 b (by omega)).1.trans tb
  have nb1 : mm_N B1 b = L := (ex.1 b (by omega)).2.trans nb
  have tm1 : mm_T B1 m = 112 := (ex.1 m (by omega)).1.trans tm
  refine ⟨B1, I2, J2, P2, rs, ex, nx, sl, lo, fun Z k => ?_⟩
  refine ev_aload_n 1811 dL_law_1810 rfl rfl ?_
  refine ev_invVF 1814 (Mc := mX11_clear) ⟨lk1277, lk75, hdX11_clear, (Nat.le_of_ble_eq_true rfl), (Nat.le_of_ble_eq_true rfl)⟩ lk1274 lk1275 lk1276 mm_cl11 rfl dL_law_1811 (c1) rfl tx (Nat.le_of_ble_eq_true rfl) rfl rfl (hb) (tb) (tb1) (k.1) (fun hf => ?_)
  refine ev_aload_n 1815 dL_law_1814 rfl rfl ?_
  refine ev_invV 1818 (Mc := mX12_clear) ⟨lk1899, lk80, hdX12_clear, (Nat.le_of_ble_eq_true rfl), (Nat.le_of_ble_eq_true rfl)⟩ lk1896 lk1897 lk1898 mm_cl12 rfl dL_law_1815 (c2) rfl tm1 (Nat.le_of_ble_eq_true rfl) rfl rfl ?_
  refine ev_icmp_eq 1821 1823 dL_law_1818 (by decide) rfl (fun hbr => ?_) (fun hx => absurd ((rfl)) hx)
  exact k
end LW0
