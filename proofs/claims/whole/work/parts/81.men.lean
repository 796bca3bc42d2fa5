/-! the model's encode -/
theorem nI_and {n : Nat} : nI n &&& nI 65535 = nI (n % 65536) := by
  unfold nI
  apply Int32.toBitVec_inj.mp
  rw [Int32.toBitVec_and]
  apply BitVec.eq_of_toNat_eq
  rw [BitVec.toNat_and]
  show (n % 2 ^ 32) &&& (65535 % 2 ^ 32) = n % 65536 % 2 ^ 32
  rw [show 65535 % 2 ^ 32 = 2 ^ 16 - 1 by decide, Nat.and_two_pow_sub_one_eq_mod]
  omega
/-- bytes and their sum -/
def sp_ful (row : Nat → Int32) (L : Nat) : Nat → Int32 := fun k => if k < L then row k else b8 (sp_xs row L)
theorem rwM_0 {I : mm_TI} {m R : Nat} {F : Nat → Int32} (h : I (m + 31) R = nI 0) : rwM I m R 0 F = I := by
  unfold rwM
  rw [sgp_0, ← h, va_up_id, va_up_id, va_up_id]
theorem rwM_up {I : mm_TI} {m R L q : Nat} {F v : Nat → Int32} (h1 : q ≠ m + 31) (h2 : q ≠ m + 33) : va_up (rwM I m R L F) q v = rwM (va_up I q v) m R L F := by
  unfold rwM
  rw [va_up_n I (j := m + 31) _ (fun e => h1 e.symm), va_up_n I (j := m + 33) _ (fun e => h2 e.symm), va_comm _ _ _ (fun e => h2 e.symm), va_comm I _ _ (fun e => h1 e.symm)]
theorem rwM_L {I : mm_TI} {m R L : Nat} {F : Nat → Int32} : rwM I m R L F (m + 31) R = nI L := by
  unfold rwM
  rw [va_up_n _ _ (by omega), va_up_s, va_up_s]
theorem rwM_F {I : mm_TI} {m R L k : Nat} {F : Nat → Int32} (h : k < L) : rwM I m R L F (m + 33) (64 * R + k) = F k := by
  unfold rwM
  rw [va_up_s, sgp_in h]
section MEN
variable {g : mm_G} {B : mm_B} {I : mm_TI} {J : mm_TJ} {P : mm_TP} {m : Nat}
theorem lp_X12_shf {c N sb wt : Nat} {pk : Int32} {F0 : Nat → Int32} {Z : mm_Z} (hM : lyM B P m) (hc8 : c < 8) (hw : wt ≤ 640) (hwt : I (m + 11) c = nI wt)
    (K : Ev g mX12_encode 299 [some (.ref m), some (.int (nI c)), some (.int (nI N)), some (.int (nI sb)), some (.int pk), none, none, none, none, none, none, none] [] B (va_up I (m + 12) (sgp F0 (640 * c) (wt - N) (fun k => F0 (640 * c + N + k)))) J P Z) : ∀ (d i : Nat), N + i + d = wt →
    Ev g mX12_encode 254 [some (.ref m), some (.int (nI c)), some (.int (nI N)), some (.int (nI sb)), some (.int pk), some (.int (nI (N + i))), none, none, none, none, none, none] [] B (va_up I (m + 12) (sgp F0 (640 * c) i (fun k => F0 (640 * c + N + k)))) J P Z := by
  intro d
  induction d with
  | zero =>
    intro i hi
    obtain rfl : wt = N + i := by omega
    rw [show N + i - N = i by omega] at K
    refine ev_iload 256 dX12_encode_254 rfl rfl ?_
    refine ev_aload_n 257 dX12_encode_256 rfl rfl ?_
    refine ev_getP 260 mm_cl12 (j := 16) (Nat.le_of_ble_eq_true rfl) dX12_encode_257 lk1301 (fun _ _ _ => rfl) (hM.1 0 _ rfl) (a := (m + 11)) (hM.2.2 10 _ _ _ rfl) rfl ?_
    refine ev_iload_n 261 dX12_encode_260 rfl rfl ?_
    refine ev_iald 262 _ dX12_encode_261 (hM.1 11 _ rfl) rfl (by have hNN := hM.2.1 11 _ rfl; omega) rfl ?_
    refine ev_eqI (y := nI ((N+i))) ((by rw [va_up_n _ _ (by omega)]; exact hwt)) ?_
    refine ev_icmp_geN 265 299 dX12_encode_262 (by decide) (by omega) (by omega) rfl (fun hbr => ?_) (fun hx => absurd ((by omega)) hx)
    refine ev_le (mle_s (mle_s (mle_s (mle_s (mle_s (mle_n (mle_n (mle_n (mle_n (mle_n (mle_n (mle_n (mle_0))))))))))))) ?_
    exact K
  | succ d ih =>
    intro i hi
    have e := ih (i + 1) (by omega)
    rw [← sgp_grow (f := F0) (off := 640 * c) (n := i) (v := fun k => F0 (640 * c + N + k)) (x := F0 (640 * c + N + i)) rfl] at e
    refine ev_iload 256 dX12_encode_254 rfl rfl ?_
    refine ev_aload_n 257 dX12_encode_256 rfl rfl ?_
    refine ev_getP 260 mm_cl12 (j := 16) (Nat.le_of_ble_eq_true rfl) dX12_encode_257 lk1301 (fun _ _ _ => rfl) (hM.1 0 _ rfl) (a := (m + 11)) (hM.2.2 10 _ _ _ rfl) rfl ?_
    refine ev_iload_n 261 dX12_encode_260 rfl rfl ?_
    refine ev_iald 262 _ dX12_encode_261 (hM.1 11 _ rfl) rfl (by have hNN := hM.2.1 11 _ rfl; omega) rfl ?_
    refine ev_eqI (y := nI (wt)) ((by rw [va_up_n _ _ (by omega)]; exact hwt)) ?_
    refine ev_icmp_geN 265 299 dX12_encode_262 (by decide) (by omega) (by omega) rfl (fun hx => absurd hx ((by omega))) (fun hbr => ?_)
    refine ev_aload_n 266 dX12_encode_265 rfl rfl ?_
    refine ev_getP 269 mm_cl12 (j := 17) (Nat.le_of_ble_eq_true rfl) dX12_encode_266 lk1302 (fun _ _ _ => rfl) (hM.1 0 _ rfl) (a := (m + 12)) (hM.2.2 11 _ _ _ rfl) rfl ?_
    refine ev_sipushN 272 640 dX12_encode_269 (by decide +kernel) rfl ?_
    refine ev_iload_n 273 dX12_encode_272 rfl rfl ?_
    refine ev_imulN 274 dX12_encode_273 rfl ?_
    refine ev_iload 276 dX12_encode_274 rfl rfl ?_
    refine ev_iaddN 277 dX12_encode_276 rfl ?_
    refine ev_iload_n 278 dX12_encode_277 rfl rfl ?_
    refine ev_isubN 279 dX12_encode_278 (by omega) rfl ?_
    refine ev_aload_n 280 dX12_encode_279 rfl rfl ?_
    refine ev_getP 283 mm_cl12 (j := 17) (Nat.le_of_ble_eq_true rfl) dX12_encode_280 lk1302 (fun _ _ _ => rfl) (hM.1 0 _ rfl) (a := (m + 12)) (hM.2.2 11 _ _ _ rfl) rfl ?_
    refine ev_sipushN 286 640 dX12_encode_283 (by decide +kernel) rfl ?_
    refine ev_iload_n 287 dX12_encode_286 rfl rfl ?_
    refine ev_imulN 288 dX12_encode_287 rfl ?_
    refine ev_iload 290 dX12_encode_288 rfl rfl ?_
    refine ev_iaddN 291 dX12_encode_290 rfl ?_
    refine ev_iald 292 _ dX12_encode_291 (hM.1 12 _ rfl) rfl (by have hNN := hM.2.1 12 _ rfl; omega) rfl ?_
    refine ev_eqI (y := (F0 (640 * c + N + i))) ((by rw [va_up_s, sgp_out (by omega), Nat.add_assoc])) ?_
    refine ev_iast 293 _ dX12_encode_292 (hM.1 12 _ rfl) rfl (by have hNN := hM.2.1 12 _ rfl; omega) rfl ?_
    refine ev_iincN 296 (lv' := [_, _, _, _, some (.int _), _, _, _, _, _, _, _]) 1 dX12_encode_293 rfl (Nat.le_of_ble_eq_true rfl) rfl rfl ?_
    refine ev_goto 254 dX12_encode_296 (by decide) ?_
    rw [va_up_s, bx_uu, show 640 * c + (N + i) - N = 640 * c + i by omega]
    exact e
theorem lx_X12_en0 {c rt em wt ln R nu rd so td n N : Nat} {W : Nat → Int32} {raw : Int32} (hM : lyM B P m) (hcn : I m 0 = nI n) (hc : c < n) (hn8 : n ≤ 8) (hrt : rt ≤ 1) (r1 : I (m + 5) c = nI rt) (hN : N = 160 * (rt + 1)) (hem : I (m + 6) c = nI em) (hem1 : em ≤ 1) (hw : wt ≤ 640) (hwt : I (m + 11) c = nI wt) (hwN : N ≤ wt) (hln : I (m + 28) c = nI ln) (hl250 : ln < 250) (hr : I (m + 13) c = raw) (hW : ∀ k, k < N → I (m + 12) (640 * c + k) = W k)
    (hR : I m 36 = nI R) (h43 : R < 4300) (hnu : I (m + 10) c = nI nu) (hrd : I (m + 9) c = nI rd) (hrd1 : rd ≤ 1) (hso : I (m + 20) c = nI so) (hso2 : so ≤ 2) (htd : td = if rd = 1 ∧ so = 1 then 1 else 0) :
    ∃ I1 : mm_TI, I1 (m + 53) = sgp (I (m + 53)) 0 N (sp_fX em W raw) ∧ I1 (m + 12) = sgp (I (m + 12)) (640 * c) (wt - N) (fun k => I (m + 12) (640 * c + N + k)) ∧ I1 (m + 13) = va_up (I (m + 13)) c (W (N - 1)) ∧ I1 (m + 11) = va_up (I (m + 11)) c (nI (wt - N)) ∧ I1 (m + 2) = va_up (I (m + 2)) 0 (nI 1) ∧
      I1 m = va_up (va_up (I m) 5 (nI 1)) 36 (nI (R + 1)) ∧ I1 (m + 31) = va_up (I (m + 31)) R (nI 0) ∧ I1 (m + 32) = va_up (I (m + 32)) R (nI 0) ∧
      (∀ q, q ≠ m + 53 → q ≠ m + 12 → q ≠ m + 13 → q ≠ m + 11 → q ≠ m + 2 → q ≠ m → q ≠ m + 31 → q ≠ m + 32 → I1 q = I q) ∧
      ∀ Z : mm_Z, Ev g mX12_encode 379 [some (.ref m), some (.int (nI c)), some (.int (nI N)), some (.int (nI (40 * (rt + 1)))), some (.int (sp_fP em W raw N)), some (.int (nI nu)), some (.int (nI td)), some (.int (I (m + 22) (28 * c + 21))), some (.int (I (m + 22) (28 * c + 22))), some (.int (nI R)), none, none] [] B I1 (sp_up J m 2 (sp_fT em W raw N)) P Z → Ct g mX12_encode [.ref m, .int (nI c)] B I J P Z := by
  have hc8 : c < 8 := by omega
  have hN' : N = 160 ∨ N = 320 := by omega
  generalize hIa : va_up I m (va_up (I m) 5 (nI 0)) = Ia
  have aa : ∀ q, q ≠ m → Ia q = I q := fun q h => by rw [← hIa, va_up_n _ _ h]
  have m1 := ct_X12_tell (g := g) (I := Ia) (J := J) (P := P) (a := nI 1) (t := 0) hM (by rw [← hIa, va_up_s, va_up_s]) (by omega)
  generalize hIb : va_up (va_up Ia (m + 2) (va_up (Ia (m + 2)) 0 (nI 1))) m (va_up (Ia m) 5 (nI (0 + 1))) = Ib at m1
  have ab : ∀ q, q ≠ m → q ≠ m + 2 → Ib q = I q := fun q h h' => by rw [← hIb, va_up_n _ _ h, va_up_n _ _ h', aa q h]
  have bm : Ib m = va_up (I m) 5 (nI 1) := by rw [← hIb, va_up_s, ← hIa, va_up_s, bx_uu]
  have b2 : Ib (m + 2) = va_up (I (m + 2)) 0 (nI 1) := by rw [← hIb, va_up_n _ _ (by omega), va_up_s, aa _ (by omega)]
  generalize hIc : va_up Ib (m + 53) (sgp (Ib (m + 53)) 0 N (sp_fX em W raw)) = Ic
  have ac : ∀ q, q ≠ m + 53 → Ic q = Ib q := fun q h => by rw [← hIc, va_up_n _ _ h]
  generalize hId : va_up Ic (m + 13) (va_up (Ic (m + 13)) c (W (N - 1))) = Id
  have ad : ∀ q, q ≠ m + 13 → Id q = Ic q := fun q h => by rw [← hId, va_up_n _ _ h]
  have d12 : Id (m + 12) = I (m + 12) := by rw [ad _ (by omega), ac _ (by omega), ab _ (by omega) (by omega)]
  generalize hIe : va_up Id (m + 12) (sgp (I (m + 12)) (640 * c) (wt - N) (fun k => I (m + 12) (640 * c + N + k))) = Ie
  have ae : ∀ q, q ≠ m + 12 → Ie q = Id q := fun q h => by rw [← hIe, va_up_n _ _ h]
  have AE : ∀ q, q ≠ m + 12 → q ≠ m + 13 → q ≠ m + 53 → q ≠ m → q ≠ m + 2 → Ie q = I q := fun q h1 h2 h3 h4 h5 => by rw [ae q h1, ad q h2, ac q h3, ab q h4 h5]
  generalize hIf : va_up Ie (m + 11) (va_up (Ie (m + 11)) c (nI (wt - N))) = If
  have af : ∀ q, q ≠ m + 11 → If q = Ie q := fun q h => by rw [← hIf, va_up_n _ _ h]
  have AF : ∀ q, q ≠ m + 11 → q ≠ m + 12 → q ≠ m + 13 → q ≠ m + 53 → q ≠ m → q ≠ m + 2 → If q = I q := fun q h0 h1 h2 h3 h4 h5 => by rw [af q h0, AE q h1 h2 h3 h4 h5]
  have fm : If m = va_up (I m) 5 (nI 1) := by rw [af _ (by omega), ae _ (by omega), ad _ (by omega), ac _ (by omega), bm]
  have nr := ct_X12_newRow (g := g) (B := B) (I := If) (J := sp_up J m 2 (sp_fT em W raw N)) (P := P) (m := m) (R := R) (n := 0) (s := 0) hM (by rw [fm, va_up_n _ _ (by omega)]; exact hR) h43 (by omega)
  rw [AF (m + 31) (by omega) (by omega) (by omega) (by omega) (by omega) (by omega), AF (m + 32) (by omega) (by omega) (by omega) (by omega) (by omega) (by omega), fm] at nr
  generalize hI1 : va_up (va_up (va_up If (m + 31) (va_up (I (m + 31)) R (nI 0))) (m + 32) (va_up (I (m + 32)) R (nI 0))) m (va_up (va_up (I m) 5 (nI 1)) 36 (nI (R + 1))) = I1 at nr
  have a1 : ∀ q, q ≠ m → q ≠ m + 31 → q ≠ m + 32 → I1 q = If q := fun q h1 h2 h3 => by rw [← hI1, va_up_n _ _ h1, va_up_n _ _ h3, va_up_n _ _ h2]
  refine ⟨I1, ?_, ?_, ?_, ?_, ?_, ?_, ?_, ?_, ?_, fun Z e => ?_⟩
  · rw [a1 _ (by omega) (by omega) (by omega), af _ (by omega), ae _ (by omega), ad _ (by omega), ← hIc, va_up_s, ab _ (by omega) (by omega)]
  · rw [a1 _ (by omega) (by omega) (by omega), af _ (by omega), ← hIe, va_up_s]
  · rw [a1 _ (by omega) (by omega) (by omega), af _ (by omega), ae _ (by omega), ← hId, va_up_s, ac _ (by omega), ab _ (by omega) (by omega)]
  · rw [a1 _ (by omega) (by omega) (by omega), ← hIf, va_up_s, AE _ (by omega) (by omega) (by omega) (by omega) (by omega)]
  · rw [a1 _ (by omega) (by omega) (by omega), af _ (by omega), ae _ (by omega), ad _ (by omega), ac _ (by omega), b2]
  · rw [← hI1, va_up_s]
  · rw [← hI1, va_up_n _ _ (by omega), va_up_n _ _ (by omega), va_up_s]
  · rw [← hI1, va_up_n _ _ (by omega), va_up_s]
  · intro q h1 h2 h3 h4 h5 h6 h7 h8
    rw [a1 q h6 h7 h8, AF q h4 h2 h3 h1 h6 h5]
  · have k341 : Ev g mX12_encode 341 [some (.ref m), some (.int (nI c)), some (.int (nI N)), some (.int (nI (40 * (rt + 1)))), some (.int (sp_fP em W raw N)), some (.int (nI nu)), none, none, none, none, none, none] [.int (nI td)] B If (sp_up J m 2 (sp_fT em W raw N)) P Z := by
      refine ev_istore 343 (lv' := [_, _, _, _, _, some (.int _), _, _, _, _, _, _]) dX12_encode_341 (Nat.le_of_ble_eq_true rfl) rfl rfl ?_
      refine ev_aload_n 344 dX12_encode_343 rfl rfl ?_
      refine ev_getP 347 mm_cl12 (j := 27) (Nat.le_of_ble_eq_true rfl) dX12_encode_344 lk1312 (fun _ _ _ => rfl) (hM.1 0 _ rfl) (a := (m + 22)) (hM.2.2 21 _ _ _ rfl) rfl ?_
      refine ev_bipushN 349 28 dX12_encode_347 (by decide +kernel) rfl ?_
      refine ev_iload_n 350 dX12_encode_349 rfl rfl ?_
      refine ev_imulN 351 dX12_encode_350 rfl ?_
      refine ev_bipushN 353 21 dX12_encode_351 (by decide +kernel) rfl ?_
      refine ev_iaddN 354 dX12_encode_353 rfl ?_
      refine ev_iald 355 _ dX12_encode_354 (hM.1 22 _ rfl) rfl (by have hNN := hM.2.1 22 _ rfl; omega) rfl ?_
      refine ev_eqI (y := (I (m + 22) (28 * c + 21))) ((by rw [AF _ (by omega) (by omega) (by omega) (by omega) (by omega) (by omega)])) ?_
      refine ev_istore 357 (lv' := [_, _, _, _, _, _, some (.int _), _, _, _, _, _]) dX12_encode_355 (Nat.le_of_ble_eq_true rfl) rfl rfl ?_
      refine ev_aload_n 358 dX12_encode_357 rfl rfl ?_
      refine ev_getP 361 mm_cl12 (j := 27) (Nat.le_of_ble_eq_true rfl) dX12_encode_358 lk1312 (fun _ _ _ => rfl) (hM.1 0 _ rfl) (a := (m + 22)) (hM.2.2 21 _ _ _ rfl) rfl ?_
      refine ev_bipushN 363 28 dX12_encode_361 (by decide +kernel) rfl ?_
      refine ev_iload_n 364 dX12_encode_363 rfl rfl ?_
      refine ev_imulN 365 dX12_encode_364 rfl ?_
      refine ev_bipushN 367 22 dX12_encode_365 (by decide +kernel) rfl ?_
      refine ev_iaddN 368 dX12_encode_367 rfl ?_
      refine ev_iald 369 _ dX12_encode_368 (hM.1 22 _ rfl) rfl (by have hNN := hM.2.1 22 _ rfl; omega) rfl ?_
      refine ev_eqI (y := (I (m + 22) (28 * c + 22))) ((by rw [AF _ (by omega) (by omega) (by omega) (by omega) (by omega) (by omega)])) ?_
      refine ev_istore 371 (lv' := [_, _, _, _, _, _, _, some (.int _), _, _, _, _]) dX12_encode_369 (Nat.le_of_ble_eq_true rfl) rfl rfl ?_
      refine ev_aload_n 372 dX12_encode_371 rfl rfl ?_
      refine ev_iconstN 373 0 dX12_encode_372 rfl ?_
      refine ev_iconstN 374 0 dX12_encode_373 rfl ?_
      refine ev_invV 377 (Mc := mX12_newRow) ⟨lk1614, lk80, hdX12_newRow, (Nat.le_of_ble_eq_true rfl), (Nat.le_of_ble_eq_true rfl)⟩ lk1611 lk1613 lk43 mm_cl12 rfl dX12_encode_374 (nr) rfl (hM.1 0 _ rfl) (Nat.le_of_ble_eq_true rfl) rfl rfl ?_
      refine ev_istore 379 (lv' := [_, _, _, _, _, _, _, _, some (.int _), _, _, _]) dX12_encode_377 (Nat.le_of_ble_eq_true rfl) rfl rfl ?_
      exact e
    have k299 : Ev g mX12_encode 299 [some (.ref m), some (.int (nI c)), some (.int (nI N)), some (.int (nI (40 * (rt + 1)))), some (.int (sp_fP em W raw N)), none, none, none, none, none, none, none] [] B Ie (sp_up J m 2 (sp_fT em W raw N)) P Z := by
      refine ev_aload_n 300 dX12_encode_299 rfl rfl ?_
      refine ev_getP 303 mm_cl12 (j := 16) (Nat.le_of_ble_eq_true rfl) dX12_encode_300 lk1301 (fun _ _ _ => rfl) (hM.1 0 _ rfl) (a := (m + 11)) (hM.2.2 10 _ _ _ rfl) rfl ?_
      refine ev_iload_n 304 dX12_encode_303 rfl rfl ?_
      refine ev_dup2_11 305 dX12_encode_304 rfl rfl rfl ?_
      refine ev_iald 306 _ dX12_encode_305 (hM.1 11 _ rfl) rfl (by have hNN := hM.2.1 11 _ rfl; omega) rfl ?_
      refine ev_eqI (y := nI (wt)) ((by rw [AE _ (by omega) (by omega) (by omega) (by omega) (by omega)]; exact hwt)) ?_
      refine ev_iload_n 307 dX12_encode_306 rfl rfl ?_
      refine ev_isubN 308 dX12_encode_307 (by omega) rfl ?_
      refine ev_iast 309 _ dX12_encode_308 (hM.1 11 _ rfl) rfl (by have hNN := hM.2.1 11 _ rfl; omega) rfl ?_
      rw [hIf]
      refine ev_aload_n 310 dX12_encode_309 rfl rfl ?_
      refine ev_getP 313 mm_cl12 (j := 15) (Nat.le_of_ble_eq_true rfl) dX12_encode_310 lk1300 (fun _ _ _ => rfl) (hM.1 0 _ rfl) (a := (m + 10)) (hM.2.2 9 _ _ _ rfl) rfl ?_
      refine ev_iload_n 314 dX12_encode_313 rfl rfl ?_
      refine ev_iald 315 _ dX12_encode_314 (hM.1 10 _ rfl) rfl (by have hNN := hM.2.1 10 _ rfl; omega) rfl ?_
      refine ev_eqI (y := nI (nu)) ((by rw [AF _ (by omega) (by omega) (by omega) (by omega) (by omega) (by omega)]; exact hnu)) ?_
      refine ev_istore 317 (lv' := [_, _, _, _, some (.int _), _, _, _, _, _, _, _]) dX12_encode_315 (Nat.le_of_ble_eq_true rfl) rfl rfl ?_
      refine ev_aload_n 318 dX12_encode_317 rfl rfl ?_
      refine ev_getP 321 mm_cl12 (j := 14) (Nat.le_of_ble_eq_true rfl) dX12_encode_318 lk1299 (fun _ _ _ => rfl) (hM.1 0 _ rfl) (a := (m + 9)) (hM.2.2 8 _ _ _ rfl) rfl ?_
      refine ev_iload_n 322 dX12_encode_321 rfl rfl ?_
      refine ev_zald 323 _ dX12_encode_322 (hM.1 9 _ rfl) rfl (by have hNN := hM.2.1 9 _ rfl; omega) rfl ?_
      refine ev_eqI (y := nI (rd)) ((by rw [AF _ (by omega) (by omega) (by omega) (by omega) (by omega) (by omega)]; exact hrd)) ?_
      refine ev_if_eqN 326 340 dX12_encode_323 (by decide) (by omega) rfl (fun hz => ?_) (fun hz => ?_)
      · rw [show td = 0 by rw [htd, if_neg (by omega)]] at k341
        refine ev_iconstN 341 0 dX12_encode_340 rfl ?_
        refine ev_le (mle_s (mle_s (mle_s (mle_s (mle_s (mle_s (mle_n (mle_n (mle_n (mle_n (mle_n (mle_n (mle_0))))))))))))) ?_
        exact k341
      · refine ev_aload_n 327 dX12_encode_326 rfl rfl ?_
        refine ev_getP 330 mm_cl12 (j := 25) (Nat.le_of_ble_eq_true rfl) dX12_encode_327 lk1310 (fun _ _ _ => rfl) (hM.1 0 _ rfl) (a := (m + 20)) (hM.2.2 19 _ _ _ rfl) rfl ?_
        refine ev_iload_n 331 dX12_encode_330 rfl rfl ?_
        refine ev_iald 332 _ dX12_encode_331 (hM.1 20 _ rfl) rfl (by have hNN := hM.2.1 20 _ rfl; omega) rfl ?_
        refine ev_eqI (y := nI (so)) ((by rw [AF _ (by omega) (by omega) (by omega) (by omega) (by omega) (by omega)]; exact hso)) ?_
        refine ev_iconstN 333 1 dX12_encode_332 rfl ?_
        refine ev_icmp_neN 336 340 dX12_encode_333 (by decide) (by omega) (by omega) rfl (fun hz2 => ?_) (fun hz2 => ?_)
        · rw [show td = 0 by rw [htd, if_neg (by omega)]] at k341
          refine ev_iconstN 341 0 dX12_encode_340 rfl ?_
          refine ev_le (mle_s (mle_s (mle_s (mle_s (mle_s (mle_s (mle_n (mle_n (mle_n (mle_n (mle_n (mle_n (mle_0))))))))))))) ?_
          exact k341
        · rw [show td = 1 by rw [htd, if_pos (by omega)]] at k341
          refine ev_iconstN 337 1 dX12_encode_336 rfl ?_
          refine ev_goto 341 dX12_encode_337 (by decide) ?_
          refine ev_le (mle_s (mle_s (mle_s (mle_s (mle_s (mle_s (mle_n (mle_n (mle_n (mle_n (mle_n (mle_n (mle_0))))))))))))) ?_
          exact k341
    have k231 : Ev g mX12_encode 231 [some (.ref m), some (.int (nI c)), some (.int (nI N)), some (.int (nI (40 * (rt + 1)))), some (.int (sp_fP em W raw N)), none, none, none, none, none, none, none] [] B Ic (sp_up J m 2 (sp_fT em W raw N)) P Z := by
      have e1 := lp_X12_shf (g := g) (I := Id) (J := sp_up J m 2 (sp_fT em W raw N)) (P := P) (c := c) (N := N) (sb := 40 * (rt + 1)) (wt := wt) (pk := sp_fP em W raw N) (F0 := I (m + 12)) (Z := Z) hM hc8 hw (by rw [ad _ (by omega), ac _ (by omega), ab _ (by omega) (by omega)]; exact hwt) (by rw [hIe]; exact k299) (wt - N) 0 (by omega)
      rw [sgp_0, Nat.add_zero, ← d12, va_up_id] at e1
      refine ev_aload_n 232 dX12_encode_231 rfl rfl ?_
      refine ev_getP 235 mm_cl12 (j := 18) (Nat.le_of_ble_eq_true rfl) dX12_encode_232 lk1303 (fun _ _ _ => rfl) (hM.1 0 _ rfl) (a := (m + 13)) (hM.2.2 12 _ _ _ rfl) rfl ?_
      refine ev_iload_n 236 dX12_encode_235 rfl rfl ?_
      refine ev_aload_n 237 dX12_encode_236 rfl rfl ?_
      refine ev_getP 240 mm_cl12 (j := 17) (Nat.le_of_ble_eq_true rfl) dX12_encode_237 lk1302 (fun _ _ _ => rfl) (hM.1 0 _ rfl) (a := (m + 12)) (hM.2.2 11 _ _ _ rfl) rfl ?_
      refine ev_sipushN 243 640 dX12_encode_240 (by decide +kernel) rfl ?_
      refine ev_iload_n 244 dX12_encode_243 rfl rfl ?_
      refine ev_imulN 245 dX12_encode_244 rfl ?_
      refine ev_iload_n 246 dX12_encode_245 rfl rfl ?_
      refine ev_iaddN 247 dX12_encode_246 rfl ?_
      refine ev_iconstN 248 1 dX12_encode_247 rfl ?_
      refine ev_isubN 249 dX12_encode_248 (by omega) rfl ?_
      refine ev_iald 250 _ dX12_encode_249 (hM.1 12 _ rfl) rfl (by have hNN := hM.2.1 12 _ rfl; omega) rfl ?_
      refine ev_eqI (y := (W (N - 1))) ((by rw [ac _ (by omega), ab _ (by omega) (by omega), show 640 * c + N - 1 = 640 * c + (N - 1) by omega]; exact hW _ (by omega))) ?_
      refine ev_iast 251 _ dX12_encode_250 (hM.1 13 _ rfl) rfl (by have hNN := hM.2.1 13 _ rfl; omega) rfl ?_
      rw [hId]
      refine ev_iload_n 252 dX12_encode_251 rfl rfl ?_
      refine ev_istore 254 (lv' := [_, _, _, _, some (.int _), _, _, _, _, _, _, _]) dX12_encode_252 (Nat.le_of_ble_eq_true rfl) rfl rfl ?_
      exact e1
    have e0 := lp_X12_fr (g := g) (I := Ib) (J := J) (P := P) (c := c) (N := N) (sb := 40 * (rt + 1)) (em := em) (W := W) (raw := raw) (Z := Z) hM hc8 (by omega) (by rw [ab _ (by omega) (by omega)]; exact hem) hem1 (fun k hk => by rw [ab _ (by omega) (by omega)]; exact hW k hk) (by rw [ab _ (by omega) (by omega)]; exact hr) (by rw [hIc]; exact k231) N 0 (by omega)
    rw [sgp_0, va_up_id, show sp_fT em W raw 0 = 0 from rfl, sp_up_0, show sp_fP em W raw 0 = nI 0 from nI_0.symm] at e0
    have k32 : Ev g mX12_encode 32 [some (.ref m), some (.int (nI c)), none, none, none, none, none, none, none, none, none, none] [.int (nI N)] B I J P Z := by
      refine ev_istore_n 33 (lv' := [_, some (.int _), _, _, _, _, _, _, _, _, _, _]) dX12_encode_32 (Nat.le_of_ble_eq_true rfl) rfl rfl ?_
      refine ev_iload_n 34 dX12_encode_33 rfl rfl ?_
      refine ev_iconstN 35 4 dX12_encode_34 rfl ?_
      refine ev_idivN 36 dX12_encode_35 (by omega) (by omega) (by omega) rfl ?_
      refine ev_istore_n 37 (lv' := [_, _, some (.int _), _, _, _, _, _, _, _, _, _]) dX12_encode_36 (Nat.le_of_ble_eq_true rfl) rfl rfl ?_
      refine ev_aload_n 38 dX12_encode_37 rfl rfl ?_
      refine ev_getP 41 mm_cl12 (j := 16) (Nat.le_of_ble_eq_true rfl) dX12_encode_38 lk1301 (fun _ _ _ => rfl) (hM.1 0 _ rfl) (a := (m + 11)) (hM.2.2 10 _ _ _ rfl) rfl ?_
      refine ev_iload_n 42 dX12_encode_41 rfl rfl ?_
      refine ev_iald 43 _ dX12_encode_42 (hM.1 11 _ rfl) rfl (by have hNN := hM.2.1 11 _ rfl; omega) rfl ?_
      refine ev_eqI (y := nI (wt)) (hwt) ?_
      refine ev_iload_n 44 dX12_encode_43 rfl rfl ?_
      refine ev_icmp_geN 47 54 dX12_encode_44 (by decide) (by omega) (by omega) rfl (fun hbr => ?_) (fun hx => absurd ((by omega)) hx)
      refine ev_aload_n 55 dX12_encode_54 rfl rfl ?_
      refine ev_getP 58 mm_cl12 (j := 33) (Nat.le_of_ble_eq_true rfl) dX12_encode_55 lk1318 (fun _ _ _ => rfl) (hM.1 0 _ rfl) (a := (m + 28)) (hM.2.2 27 _ _ _ rfl) rfl ?_
      refine ev_iload_n 59 dX12_encode_58 rfl rfl ?_
      refine ev_iald 60 _ dX12_encode_59 (hM.1 28 _ rfl) rfl (by have hNN := hM.2.1 28 _ rfl; omega) rfl ?_
      refine ev_eqI (y := nI (ln)) (hln) ?_
      refine ev_sipushN 63 250 dX12_encode_60 (by decide +kernel) rfl ?_
      refine ev_icmp_neN 66 73 dX12_encode_63 (by decide) (by omega) (by omega) rfl (fun hbr => ?_) (fun hx => absurd hx ((by omega)))
      refine ev_aload_n 74 dX12_encode_73 rfl rfl ?_
      refine ev_iconstN 75 0 dX12_encode_74 rfl ?_
      refine ev_putI 78 mm_cl12 (j := 5) (Nat.le_of_ble_eq_true rfl) dX12_encode_75 lk1290 rfl (fun _ _ _ => rfl) rfl rfl (hM.1 0 _ rfl) rfl ?_
      rw [hIa]
      refine ev_aload_n 79 dX12_encode_78 rfl rfl ?_
      refine ev_iconstN 80 1 dX12_encode_79 rfl ?_
      refine ev_invVv 83 (Mc := mX12_tell) ⟨lk1599, lk80, hdX12_tell, (Nat.le_of_ble_eq_true rfl), (Nat.le_of_ble_eq_true rfl)⟩ lk1596 lk1598 lk41 mm_cl12 rfl dX12_encode_80 (m1) rfl (hM.1 0 _ rfl) (Nat.le_of_ble_eq_true rfl) rfl rfl ?_
      refine ev_iconstN 84 0 dX12_encode_83 rfl ?_
      refine ev_istore 86 (lv' := [_, _, _, some (.int _), _, _, _, _, _, _, _, _]) dX12_encode_84 (Nat.le_of_ble_eq_true rfl) rfl rfl ?_
      refine ev_iconstN 87 0 dX12_encode_86 rfl ?_
      refine ev_istore 89 (lv' := [_, _, _, _, some (.int _), _, _, _, _, _, _, _]) dX12_encode_87 (Nat.le_of_ble_eq_true rfl) rfl rfl ?_
      rw [show N / 4 = 40 * (rt + 1) by omega]
      exact e0
    refine ct_of (lv := [some (.ref m), some (.int (nI c)), none, none, none, none, none, none, none, none, none, none]) (by decide +kernel) (Nat.le_of_ble_eq_true rfl) rfl ?_
    refine ev_aload_n 1 dX12_encode_0 rfl rfl ?_
    refine ev_iload_n 2 dX12_encode_1 rfl rfl ?_
    refine ev_invV 5 (Mc := mX12_isCoder) ⟨lk1552, lk80, hdX12_isCoder, (Nat.le_of_ble_eq_true rfl), (Nat.le_of_ble_eq_true rfl)⟩ lk1549 lk1551 lk40 mm_cl12 rfl dX12_encode_2 (ct_X12_isCoder_t hM hcn hn8 hc) rfl (hM.1 0 _ rfl) (Nat.le_of_ble_eq_true rfl) rfl rfl ?_
    refine ev_if_neN 8 14 dX12_encode_5 (by decide) (by omega) rfl (fun hbr => ?_) (fun hx => absurd hx ((by omega)))
    refine ev_aload_n 15 dX12_encode_14 rfl rfl ?_
    refine ev_getP 18 mm_cl12 (j := 10) (Nat.le_of_ble_eq_true rfl) dX12_encode_15 lk1295 (fun _ _ _ => rfl) (hM.1 0 _ rfl) (a := (m + 5)) (hM.2.2 4 _ _ _ rfl) rfl ?_
    refine ev_iload_n 19 dX12_encode_18 rfl rfl ?_
    refine ev_iald 20 _ dX12_encode_19 (hM.1 5 _ rfl) rfl (by have hNN := hM.2.1 5 _ rfl; omega) rfl ?_
    refine ev_eqI (y := nI (rt)) (r1) ?_
    refine ev_if_neN 23 29 dX12_encode_20 (by decide) (by omega) rfl (fun hz => ?_) (fun hz => ?_)
    · rw [show N = 320 by omega] at k32
      refine ev_sipushN 32 320 dX12_encode_29 (by decide +kernel) rfl ?_
      exact k32
    · rw [show N = 160 by omega] at k32
      refine ev_sipushN 26 160 dX12_encode_23 (by decide +kernel) rfl ?_
      refine ev_goto 32 dX12_encode_26 (by decide) ?_
      exact k32
end MEN
