section MOU
variable {g : mm_G} {B : mm_B} {I : mm_TI} {J : mm_TJ} {P : mm_TP} {m : Nat}
theorem mE_F {F : Nat → Int32} {v : sp_V} {s : sp_Q} : mF (mE F v) s = mE (mF F s) v := by
  cases v with
  | none => rfl
  | some z =>
    show mF (va_up (va_up F 73 (nI z.1)) 74 (nI z.2)) s = va_up (va_up (mF F s) 73 (nI z.1)) 74 (nI z.2)
    rw [← mF_c (by omega), ← mF_c (by omega)]
/-- one even pulse alone -/
theorem lp_X12_pul7 {c pt sb L w q ot : Nat} {p : Int32} {hz : Nat → Int} {t : sp_Q × sp_V} {F : Nat → Int32} {Q : Nat → Int64} {Z : mm_Z} (hM : lyM B P m) (hb : sb ≤ 80) (hq : q < sb) (hot : ot ≤ 1) (hzb : sp_zb hz)
    (hE : ∀ n, n < sb → J (m + 59) n = Int64.ofInt (sp_en sb n : Nat)) (hH : ∀ n, n < sb → J (m + 60) n = Int64.ofInt (hz n)) (hok : sp_ok t.1)
    (K : Ev g mX12_pulses 308 [some (.ref m), some (.int (nI c)), some (.int (nI pt)), some (.int (nI sb)), some (.int (nI L)), some (.int p), some (.int (nI w)), some (.int (nI q)), some (.int (nI (ot + 1))), none, none] [] B (va_up I m (mF (mE F (sp_o1 (sp_en sb q : Nat) (sp_tn ot (hz q)) (q, ot) t).2) (sp_o1 (sp_en sb q : Nat) (sp_tn ot (hz q)) (q, ot) t).1)) (va_up J m (va_up Q 70 (Int64.ofInt (mZ (sp_o1 (sp_en sb q : Nat) (sp_tn ot (hz q)) (q, ot) t).1)))) P Z) :
    Ev g mX12_pulses 308 [some (.ref m), some (.int (nI c)), some (.int (nI pt)), some (.int (nI sb)), some (.int (nI L)), some (.int p), some (.int (nI w)), some (.int (nI q)), some (.int (nI ot)), none, none] [] B (va_up I m (mF (mE F t.2) t.1)) (va_up J m (va_up Q 70 (Int64.ofInt (mZ t.1)))) P Z := by
  have be := sp_en_b (sb := sb) (q := q)
  have bd := sp_tn_b hzb ot q
  have ct := ct_X12_tryGains (g := g) (I := I) (J := J) (P := P) (F := mE F t.2) (Q := Q) (e := (sp_en sb q : Nat)) (d := sp_tn ot (hz q)) hM (by omega) (by omega) bd.1 bd.2 hok
  rw [show (sp_o1 (sp_en sb q : Nat) (sp_tn ot (hz q)) (q, ot) t).1 = sp_bs (sp_en sb q : Nat) (sp_tn ot (hz q)) t.1 52 from rfl, show (sp_o1 (sp_en sb q : Nat) (sp_tn ot (hz q)) (q, ot) t).2 = (if sp_bs (sp_en sb q : Nat) (sp_tn ot (hz q)) t.1 52 = t.1 then t.2 else some (q, ot)) from rfl] at K
  have n59 : ∀ f n, n < sb → va_up J m f (m + 59) n = Int64.ofInt (sp_en sb n : Nat) := fun f n hn => by rw [va_up_n _ _ (by omega)]; exact hE n hn
  have n60 : ∀ f n, n < sb → va_up J m f (m + 60) n = Int64.ofInt (hz n) := fun f n hn => by rw [va_up_n _ _ (by omega)]; exact hH n hn
  generalize hs' : sp_bs (sp_en sb q : Nat) (sp_tn ot (hz q)) t.1 52 = s' at K ct
  have key : Ev g mX12_pulses 345 [some (.ref m), some (.int (nI c)), some (.int (nI pt)), some (.int (nI sb)), some (.int (nI L)), some (.int p), some (.int (nI w)), some (.int (nI q)), some (.int (nI ot)), none, none] [.long (Int64.ofInt (sp_tn ot (hz q))), .long (Int64.ofInt (sp_en sb q : Nat)), .ref m] B (va_up I m (mF (mE F t.2) t.1)) (va_up J m (va_up Q 70 (Int64.ofInt (mZ t.1)))) P Z := by
    refine ev_invV 348 (Mc := mX12_tryGains) ⟨lk1682, lk80, hdX12_tryGains, (Nat.le_of_ble_eq_true rfl), (Nat.le_of_ble_eq_true rfl)⟩ lk1679 lk1681 lk56 mm_cl12 rfl dX12_pulses_345 (ct) rfl (hM.1 0 _ rfl) (Nat.le_of_ble_eq_true rfl) rfl rfl ?_
    by_cases k : s' = t.1
    · rw [if_pos k] at K
      rw [show sp_im t.1 s' = 0 by unfold sp_im; rw [if_pos k.symm]]
      refine ev_if_eqN 351 363 dX12_pulses_348 (by decide) (by omega) rfl (fun hbr => ?_) (fun hx => absurd (rfl) hx)
      refine ev_iincN 366 (lv' := [_, _, _, _, _, _, _, some (.int _), _, _, _]) 1 dX12_pulses_363 rfl (Nat.le_of_ble_eq_true rfl) rfl rfl ?_
      refine ev_goto 308 dX12_pulses_366 (by decide) ?_
      exact K
    · rw [if_neg k, ← mE_up (v := t.2)] at K
      rw [show sp_im t.1 s' = 1 by unfold sp_im; rw [if_neg (fun z => k z.symm)]]
      refine ev_if_eqN 351 363 dX12_pulses_348 (by decide) (by omega) rfl (fun hx => absurd hx ((by omega))) (fun hbr => ?_)
      refine ev_aload_n 352 dX12_pulses_351 rfl rfl ?_
      refine ev_iload 354 dX12_pulses_352 rfl rfl ?_
      refine ev_putI 357 mm_cl12 (j := 73) (Nat.le_of_ble_eq_true rfl) dX12_pulses_354 lk1358 rfl (fun _ _ _ => rfl) rfl rfl (hM.1 0 _ rfl) rfl ?_
      refine ev_aload_n 358 dX12_pulses_357 rfl rfl ?_
      refine ev_iload 360 dX12_pulses_358 rfl rfl ?_
      refine ev_putI 363 mm_cl12 (j := 74) (Nat.le_of_ble_eq_true rfl) dX12_pulses_360 lk1359 rfl (fun _ _ _ => rfl) rfl rfl (hM.1 0 _ rfl) rfl ?_
      refine ev_iincN 366 (lv' := [_, _, _, _, _, _, _, some (.int _), _, _, _]) 1 dX12_pulses_363 rfl (Nat.le_of_ble_eq_true rfl) rfl rfl ?_
      refine ev_goto 308 dX12_pulses_366 (by decide) ?_
      simp only [va_up_s, bx_uu]
      rw [mF_c (by omega), mF_c (by omega)]
      exact K
  unfold sp_tn at key
  refine ev_iload 310 dX12_pulses_308 rfl rfl ?_
  refine ev_iconstN 311 2 dX12_pulses_310 rfl ?_
  refine ev_icmp_geN 314 369 dX12_pulses_311 (by decide) (by omega) (by omega) rfl (fun hx => absurd hx ((by omega))) (fun hbr => ?_)
  refine ev_aload_n 315 dX12_pulses_314 rfl rfl ?_
  refine ev_aload_n 316 dX12_pulses_315 rfl rfl ?_
  refine ev_getP 319 mm_cl12 (j := 65) (Nat.le_of_ble_eq_true rfl) dX12_pulses_316 lk1350 (fun _ _ _ => rfl) (hM.1 0 _ rfl) (a := (m + 59)) (hM.2.2 58 _ _ _ rfl) rfl ?_
  refine ev_iload 321 dX12_pulses_319 rfl rfl ?_
  refine ev_lald 322 _ dX12_pulses_321 (hM.1 59 _ rfl) rfl (by have hNN := hM.2.1 59 _ rfl; omega) rfl ?_
  refine ev_eqJ (y := (Int64.ofInt (sp_en sb q : Nat))) ((n59 _ q hq)) ?_
  refine ev_iload 324 dX12_pulses_322 rfl rfl ?_
  refine ev_if_neN 327 337 dX12_pulses_324 (by decide) (by omega) rfl (fun a1 => ?_) (fun a1 => ?_)
  · rw [if_neg a1, Int64.ofInt_neg] at key
    refine ev_aload_n 338 dX12_pulses_337 rfl rfl ?_
    refine ev_getP 341 mm_cl12 (j := 66) (Nat.le_of_ble_eq_true rfl) dX12_pulses_338 lk1351 (fun _ _ _ => rfl) (hM.1 0 _ rfl) (a := (m + 60)) (hM.2.2 59 _ _ _ rfl) rfl ?_
    refine ev_iload 343 dX12_pulses_341 rfl rfl ?_
    refine ev_lald 344 _ dX12_pulses_343 (hM.1 60 _ rfl) rfl (by have hNN := hM.2.1 60 _ rfl; omega) rfl ?_
    refine ev_eqJ (y := (Int64.ofInt (hz q))) ((n60 _ q hq)) ?_
    refine ev_lneg 345 dX12_pulses_344 rfl ?_
    exact key
  · rw [if_pos a1] at key
    refine ev_aload_n 328 dX12_pulses_327 rfl rfl ?_
    refine ev_getP 331 mm_cl12 (j := 66) (Nat.le_of_ble_eq_true rfl) dX12_pulses_328 lk1351 (fun _ _ _ => rfl) (hM.1 0 _ rfl) (a := (m + 60)) (hM.2.2 59 _ _ _ rfl) rfl ?_
    refine ev_iload 333 dX12_pulses_331 rfl rfl ?_
    refine ev_lald 334 _ dX12_pulses_333 (hM.1 60 _ rfl) rfl (by have hNN := hM.2.1 60 _ rfl; omega) rfl ?_
    refine ev_eqJ (y := (Int64.ofInt (hz q))) ((n60 _ q hq)) ?_
    refine ev_goto 345 dX12_pulses_334 (by decide) ?_
    exact key
theorem lp_X12_pul8 {c pt sb L w : Nat} {p : Int32} {hz : Nat → Int} {t : sp_Q × sp_V} {F : Nat → Int32} {Q : Nat → Int64} {Z : mm_Z} (hM : lyM B P m) (hb : sb ≤ 80) (hb2 : sb % 2 = 0) (hzb : sp_zb hz)
    (hE : ∀ n, n < sb → J (m + 59) n = Int64.ofInt (sp_en sb n : Nat)) (hH : ∀ n, n < sb → J (m + 60) n = Int64.ofInt (hz n)) (hok : sp_ok t.1)
    (K : Ev g mX12_pulses 375 [some (.ref m), some (.int (nI c)), some (.int (nI pt)), some (.int (nI sb)), some (.int (nI L)), some (.int p), some (.int (nI w)), none, none, none, none] [] B (va_up I m (mF (mE F (sp_es sb hz t (sb / 2)).2) (sp_es sb hz t (sb / 2)).1)) (va_up J m (va_up Q 70 (Int64.ofInt (mZ (sp_es sb hz t (sb / 2)).1)))) P Z) : ∀ (d k : Nat), k + d = sb / 2 →
    Ev g mX12_pulses 299 [some (.ref m), some (.int (nI c)), some (.int (nI pt)), some (.int (nI sb)), some (.int (nI L)), some (.int p), some (.int (nI w)), some (.int (nI (2 * k))), none, none, none] [] B (va_up I m (mF (mE F (sp_es sb hz t k).2) (sp_es sb hz t k).1)) (va_up J m (va_up Q 70 (Int64.ofInt (mZ (sp_es sb hz t k).1)))) P Z := by
  intro d
  induction d with
  | zero =>
    intro k hk
    obtain rfl : k = sb / 2 := by omega
    generalize sp_es sb hz t (sb / 2) = T at K ⊢
    refine ev_iload 301 dX12_pulses_299 rfl rfl ?_
    refine ev_iload_n 302 dX12_pulses_301 rfl rfl ?_
    refine ev_icmp_geN 305 375 dX12_pulses_302 (by decide) (by omega) (by omega) rfl (fun hbr => ?_) (fun hx => absurd ((by omega)) hx)
    refine ev_le (mle_s (mle_s (mle_s (mle_s (mle_s (mle_s (mle_s (mle_n (mle_n (mle_n (mle_n (mle_0)))))))))))) ?_
    exact K
  | succ d ih =>
    intro k hk
    have e := ih (k + 1) (by omega)
    have be := sp_en_b (sb := sb) (q := 2 * k)
    have b0 := sp_tn_b hzb 0 (2 * k)
    have k1 := sp_ok_es (sb := sb) hzb hok k
    have k2 : sp_ok (sp_o1 (sp_en sb (2 * k) : Nat) (sp_tn 0 (hz (2 * k))) (2 * k, 0) (sp_es sb hz t k)).1 := sp_ok_bs (by omega) (by omega) b0.1 b0.2 k1 52 (Nat.le_refl _)
    rw [show sp_es sb hz t (k + 1) = sp_o1 (sp_en sb (2 * k) : Nat) (sp_tn 1 (hz (2 * k))) (2 * k, 1) (sp_o1 (sp_en sb (2 * k) : Nat) (sp_tn 0 (hz (2 * k))) (2 * k, 0) (sp_es sb hz t k)) from rfl] at e
    generalize hT : sp_es sb hz t k = T at e k1 k2 ⊢
    refine ev_iload 301 dX12_pulses_299 rfl rfl ?_
    refine ev_iload_n 302 dX12_pulses_301 rfl rfl ?_
    refine ev_icmp_geN 305 375 dX12_pulses_302 (by decide) (by omega) (by omega) rfl (fun hx => absurd hx ((by omega))) (fun hbr => ?_)
    refine ev_iconstN 306 0 dX12_pulses_305 rfl ?_
    refine ev_istore 308 (lv' := [_, _, _, _, _, _, _, some (.int _), _, _, _]) dX12_pulses_306 (Nat.le_of_ble_eq_true rfl) rfl rfl ?_
    refine lp_X12_pul7 hM hb (by omega) (by omega) hzb hE hH k1 ?_
    generalize hT1 : sp_o1 (sp_en sb (2 * k) : Nat) (sp_tn 0 (hz (2 * k))) (2 * k, 0) T = T1 at e k2
    refine lp_X12_pul7 hM hb (by omega) (by omega) hzb hE hH k2 ?_
    generalize sp_o1 (sp_en sb (2 * k) : Nat) (sp_tn 1 (hz (2 * k))) (2 * k, 1) T1 = T2 at e
    refine ev_iload 310 dX12_pulses_308 rfl rfl ?_
    refine ev_iconstN 311 2 dX12_pulses_310 rfl ?_
    refine ev_icmp_geN 314 369 dX12_pulses_311 (by decide) (by omega) (by omega) rfl (fun hbr => ?_) (fun hx => absurd ((by omega)) hx)
    refine ev_iincN 372 (lv' := [_, _, _, _, _, _, some (.int _), _, _, _, _]) 2 dX12_pulses_369 rfl (Nat.le_of_ble_eq_true rfl) rfl rfl ?_
    refine ev_goto 299 dX12_pulses_372 (by decide) ?_
    refine ev_le (mle_s (mle_s (mle_s (mle_s (mle_s (mle_s (mle_s (mle_s (mle_n (mle_n (mle_n (mle_0)))))))))))) ?_
    rw [show 2 * k + 2 = 2 * (k + 1) by omega]
    exact e
/-- one odd pulse beside the best even one -/
theorem lp_X12_pul9 {c pt sb L w q sg r ot : Nat} {p : Int32} {hz : Nat → Int} {T : sp_Q × sp_V} {F : Nat → Int32} {Q : Nat → Int64} {Z : mm_Z} (hM : lyM B P m) (hb : sb ≤ 80) (hq : q < sb) (hq2 : q % 2 = 0) (hr : r < sb) (hr2 : r % 2 = 1) (hsg : sg ≤ 1) (hot : ot ≤ 1) (hzb : sp_zb hz) (f3 : F 73 = nI q) (f4 : F 74 = nI sg)
    (hE : ∀ n, n < sb → J (m + 59) n = Int64.ofInt (sp_en sb n : Nat)) (hH : ∀ n, n < sb → J (m + 60) n = Int64.ofInt (hz n)) (hok : sp_ok T.1)
    (K : Ev g mX12_pulses 394 [some (.ref m), some (.int (nI c)), some (.int (nI pt)), some (.int (nI sb)), some (.int (nI L)), some (.int p), some (.int (nI w)), some (.int (nI r)), some (.int (nI (ot + 1))), none, none] [] B (va_up I m (mF (mO F (sp_o1 (sp_pe sb q sg r ot) (sp_pd hz q sg r ot) (r, ot) T).2) (sp_o1 (sp_pe sb q sg r ot) (sp_pd hz q sg r ot) (r, ot) T).1)) (va_up J m (va_up Q 70 (Int64.ofInt (mZ (sp_o1 (sp_pe sb q sg r ot) (sp_pd hz q sg r ot) (r, ot) T).1)))) P Z) :
    Ev g mX12_pulses 394 [some (.ref m), some (.int (nI c)), some (.int (nI pt)), some (.int (nI sb)), some (.int (nI L)), some (.int p), some (.int (nI w)), some (.int (nI r)), some (.int (nI ot)), none, none] [] B (va_up I m (mF (mO F T.2) T.1)) (va_up J m (va_up Q 70 (Int64.ofInt (mZ T.1)))) P Z := by
  have ct := ct_X12_tryPair (g := g) (I := I) (J := J) (P := P) (hz := hz) (s := T.1) (F := mO F T.2) (Q := Q) (sg := sg) (ot := ot) hM hb hq hr (by omega) (by omega) (by omega) hsg hot hE hH hzb hok
  rw [show (sp_o1 (sp_pe sb q sg r ot) (sp_pd hz q sg r ot) (r, ot) T).1 = sp_bs (sp_pe sb q sg r ot) (sp_pd hz q sg r ot) T.1 52 from rfl, show (sp_o1 (sp_pe sb q sg r ot) (sp_pd hz q sg r ot) (r, ot) T).2 = (if sp_bs (sp_pe sb q sg r ot) (sp_pd hz q sg r ot) T.1 52 = T.1 then T.2 else some (r, ot)) from rfl] at K
  generalize hs' : sp_bs (sp_pe sb q sg r ot) (sp_pd hz q sg r ot) T.1 52 = s' at K ct
  have rF : ∀ k : Nat, k = 73 ∨ k = 74 → mF (mO F T.2) T.1 k = F k := fun k hk => by
    have e1 : mF (mO F T.2) T.1 k = mO F T.2 k := by
      cases h1 : T.1 with
      | none => rfl
      | some z => exact va_up_n _ _ (by omega)
    rw [e1]
    cases h2 : T.2 with
    | none => rfl
    | some z => show va_up (va_up F 75 _) 76 _ k = F k; rw [va_up_n _ _ (by omega), va_up_n _ _ (by omega)]
  refine ev_iload 396 dX12_pulses_394 rfl rfl ?_
  refine ev_iconstN 397 2 dX12_pulses_396 rfl ?_
  refine ev_icmp_geN 400 438 dX12_pulses_397 (by decide) (by omega) (by omega) rfl (fun hx => absurd hx ((by omega))) (fun hbr => ?_)
  refine ev_aload_n 401 dX12_pulses_400 rfl rfl ?_
  refine ev_aload_n 402 dX12_pulses_401 rfl rfl ?_
  refine ev_getI 405 mm_cl12 (j := 73) (Nat.le_of_ble_eq_true rfl) dX12_pulses_402 lk1358 (fun _ _ _ => rfl) (hM.1 0 _ rfl) rfl ?_
  refine ev_eqI (y := nI (q)) ((by rw [va_up_s, rF 73 (Or.inl rfl)]; exact f3)) ?_
  refine ev_aload_n 406 dX12_pulses_405 rfl rfl ?_
  refine ev_getI 409 mm_cl12 (j := 74) (Nat.le_of_ble_eq_true rfl) dX12_pulses_406 lk1359 (fun _ _ _ => rfl) (hM.1 0 _ rfl) rfl ?_
  refine ev_eqI (y := nI (sg)) ((by rw [va_up_s, rF 74 (Or.inr rfl)]; exact f4)) ?_
  refine ev_iload 411 dX12_pulses_409 rfl rfl ?_
  refine ev_iload 413 dX12_pulses_411 rfl rfl ?_
  refine ev_iload_n 414 dX12_pulses_413 rfl rfl ?_
  refine ev_invV 417 (Mc := mX12_tryPair) ⟨lk1673, lk80, hdX12_tryPair, (Nat.le_of_ble_eq_true rfl), (Nat.le_of_ble_eq_true rfl)⟩ lk1670 lk1672 lk55 mm_cl12 rfl dX12_pulses_414 (ct) rfl (hM.1 0 _ rfl) (Nat.le_of_ble_eq_true rfl) rfl rfl ?_
  by_cases k : s' = T.1
  · rw [if_pos k] at K
    rw [show sp_im T.1 s' = 0 by unfold sp_im; rw [if_pos k.symm]]
    refine ev_if_eqN 420 432 dX12_pulses_417 (by decide) (by omega) rfl (fun hbr => ?_) (fun hx => absurd (rfl) hx)
    refine ev_iincN 435 (lv' := [_, _, _, _, _, _, _, some (.int _), _, _, _]) 1 dX12_pulses_432 rfl (Nat.le_of_ble_eq_true rfl) rfl rfl ?_
    refine ev_goto 394 dX12_pulses_435 (by decide) ?_
    exact K
  · rw [if_neg k, ← mO_up (v := T.2)] at K
    rw [show sp_im T.1 s' = 1 by unfold sp_im; rw [if_neg (fun z => k z.symm)]]
    refine ev_if_eqN 420 432 dX12_pulses_417 (by decide) (by omega) rfl (fun hx => absurd hx ((by omega))) (fun hbr => ?_)
    refine ev_aload_n 421 dX12_pulses_420 rfl rfl ?_
    refine ev_iload 423 dX12_pulses_421 rfl rfl ?_
    refine ev_putI 426 mm_cl12 (j := 75) (Nat.le_of_ble_eq_true rfl) dX12_pulses_423 lk1360 rfl (fun _ _ _ => rfl) rfl rfl (hM.1 0 _ rfl) rfl ?_
    refine ev_aload_n 427 dX12_pulses_426 rfl rfl ?_
    refine ev_iload 429 dX12_pulses_427 rfl rfl ?_
    refine ev_putI 432 mm_cl12 (j := 76) (Nat.le_of_ble_eq_true rfl) dX12_pulses_429 lk1361 rfl (fun _ _ _ => rfl) rfl rfl (hM.1 0 _ rfl) rfl ?_
    refine ev_iincN 435 (lv' := [_, _, _, _, _, _, _, some (.int _), _, _, _]) 1 dX12_pulses_432 rfl (Nat.le_of_ble_eq_true rfl) rfl rfl ?_
    refine ev_goto 394 dX12_pulses_435 (by decide) ?_
    simp only [va_up_s, bx_uu]
    rw [mF_c (by omega), mF_c (by omega)]
    exact K
theorem lp_X12_pul10 {c pt sb L w q sg : Nat} {p : Int32} {hz : Nat → Int} {t : sp_Q × sp_V} {F : Nat → Int32} {Q : Nat → Int64} (hM : lyM B P m) (hb : sb ≤ 80) (hb2 : sb % 2 = 0) (hq : q < sb) (hq2 : q % 2 = 0) (hsg : sg ≤ 1) (hzb : sp_zb hz) (f3 : F 73 = nI q) (f4 : F 74 = nI sg)
    (hE : ∀ n, n < sb → J (m + 59) n = Int64.ofInt (sp_en sb n : Nat)) (hH : ∀ n, n < sb → J (m + 60) n = Int64.ofInt (hz n)) (hok : sp_ok t.1) : ∀ (d k : Nat), k + d = sb / 2 →
    Ev g mX12_pulses 385 [some (.ref m), some (.int (nI c)), some (.int (nI pt)), some (.int (nI sb)), some (.int (nI L)), some (.int p), some (.int (nI w)), some (.int (nI (2 * k + 1))), none, none, none] [] B (va_up I m (mF (mO F (sp_os sb hz q sg t k).2) (sp_os sb hz q sg t k).1)) (va_up J m (va_up Q 70 (Int64.ofInt (mZ (sp_os sb hz q sg t k).1)))) P
      (none, B, va_up I m (mF (mO F (sp_os sb hz q sg t (sb / 2)).2) (sp_os sb hz q sg t (sb / 2)).1), va_up J m (va_up Q 70 (Int64.ofInt (mZ (sp_os sb hz q sg t (sb / 2)).1))), P) := by
  intro d
  induction d with
  | zero =>
    intro k hk
    obtain rfl : k = sb / 2 := by omega
    generalize sp_os sb hz q sg t (sb / 2) = T
    refine ev_iload 387 dX12_pulses_385 rfl rfl ?_
    refine ev_iload_n 388 dX12_pulses_387 rfl rfl ?_
    refine ev_icmp_geN 391 444 dX12_pulses_388 (by decide) (by omega) (by omega) rfl (fun hbr => ?_) (fun hx => absurd ((by omega)) hx)
    exact ev_vret dX12_pulses_444 rfl (rfl)
  | succ d ih =>
    intro k hk
    have e := ih (k + 1) (by omega)
    generalize hZ : sp_os sb hz q sg t (sb / 2) = SZ at e ⊢
    have k1 := sp_ok_os (sg := sg) (t := t) hzb hq hq2 hok k (by omega)
    have k2 := sp_ok_o1 (sg := sg) (ot := 0) (pl := (2 * k + 1, 0)) hzb hq (show 2 * k + 1 < sb by omega) (by omega) k1
    rw [show sp_os sb hz q sg t (k + 1) = sp_o1 (sp_pe sb q sg (2 * k + 1) 1) (sp_pd hz q sg (2 * k + 1) 1) (2 * k + 1, 1) (sp_o1 (sp_pe sb q sg (2 * k + 1) 0) (sp_pd hz q sg (2 * k + 1) 0) (2 * k + 1, 0) (sp_os sb hz q sg t k)) from rfl] at e
    generalize hT : sp_os sb hz q sg t k = T at e k1 k2 ⊢
    refine ev_iload 387 dX12_pulses_385 rfl rfl ?_
    refine ev_iload_n 388 dX12_pulses_387 rfl rfl ?_
    refine ev_icmp_geN 391 444 dX12_pulses_388 (by decide) (by omega) (by omega) rfl (fun hx => absurd hx ((by omega))) (fun hbr => ?_)
    refine ev_iconstN 392 0 dX12_pulses_391 rfl ?_
    refine ev_istore 394 (lv' := [_, _, _, _, _, _, _, some (.int _), _, _, _]) dX12_pulses_392 (Nat.le_of_ble_eq_true rfl) rfl rfl ?_
    refine lp_X12_pul9 hM hb hq hq2 (by omega) (by omega) hsg (by omega) hzb f3 f4 hE hH k1 ?_
    generalize hT1 : sp_o1 (sp_pe sb q sg (2 * k + 1) 0) (sp_pd hz q sg (2 * k + 1) 0) (2 * k + 1, 0) T = T1 at e k2
    refine lp_X12_pul9 hM hb hq hq2 (by omega) (by omega) hsg (by omega) hzb f3 f4 hE hH k2 ?_
    generalize sp_o1 (sp_pe sb q sg (2 * k + 1) 1) (sp_pd hz q sg (2 * k + 1) 1) (2 * k + 1, 1) T1 = T2 at e
    refine ev_iload 396 dX12_pulses_394 rfl rfl ?_
    refine ev_iconstN 397 2 dX12_pulses_396 rfl ?_
    refine ev_icmp_geN 400 438 dX12_pulses_397 (by decide) (by omega) (by omega) rfl (fun hbr => ?_) (fun hx => absurd ((by omega)) hx)
    refine ev_iincN 441 (lv' := [_, _, _, _, _, _, some (.int _), _, _, _, _]) 2 dX12_pulses_438 rfl (Nat.le_of_ble_eq_true rfl) rfl rfl ?_
    refine ev_goto 385 dX12_pulses_441 (by decide) ?_
    refine ev_le (mle_s (mle_s (mle_s (mle_s (mle_s (mle_s (mle_s (mle_s (mle_n (mle_n (mle_n (mle_0)))))))))))) ?_
    rw [show 2 * k + 1 + 2 = 2 * (k + 1) + 1 by omega]
    exact e
theorem cx_X12_pulses {c pt sb L w : Nat} {p : Int32} {H R : Nat → Int32} {z : Int} {j a b e d : Nat} (hM : lyM B P m) (hc8 : c < 8) (hp4 : pt < 4) (hb : sb ≤ 80) (hb2 : sb % 2 = 0) (hb3 : 2 ≤ sb) (hL : 20 ≤ L) (hL2 : L ≤ 147) (hsp : sb * pt + sb ≤ 320) (hH : ∀ n, n < 160 → I (m + 27) (160 * (4 * c + pt) + n) = H n) (hR : ∀ n, n < sb → I (m + 26) (320 * c + sb * pt + n) = R n) (hw : w ≤ 1)
    (hzb : sp_zb (sp_hz (sp_U H R L p) sb)) (hres : sp_pul sb (sp_hz (sp_U H R L p) sb) (w = 1) = (some (z, j), some (a, b), some (e, d))) :
    ∃ (I' : mm_TI) (J' : mm_TJ), Ct g mX12_pulses [.ref m, .int (nI c), .int (nI pt), .int (nI sb), .int (nI L), .int p, .int (nI w)] B I J P (none, B, I', J', P) ∧
      I' m = va_up (va_up (va_up (va_up (va_up (I m) 73 (nI e)) 74 (nI d)) 75 (nI a)) 76 (nI b)) 77 (nI j) ∧ J' m = va_up (J m) 70 (Int64.ofInt z) ∧
      (∀ q, q ≠ m → q ≠ m + 56 → I' q = I q) ∧ (∀ q, q ≠ m → q ≠ m + 59 → q ≠ m + 60 → J' q = J q) := by
  generalize hU : sp_U H R L p = U at hzb hres
  generalize hI1 : va_up I (m + 56) (sgp (I (m + 56)) 0 sb U) = I1
  have a1 : ∀ q, q ≠ m + 56 → I1 q = I q := fun q h => by rw [← hI1, va_up_n _ _ h]
  have hU1 : ∀ n, n < sb → I1 (m + 56) n = U n := fun n hn => by rw [← hI1, va_up_s]; exact sg0_in hn
  obtain ⟨F', K', hk, e3⟩ := lx_X12_pul3 (g := g) (I := I1) (J := J) (P := P) (c := c) (pt := pt) (L := L) (w := w) (p := p) hM hb hU1 sb 0 (by omega) (J (m + 59)) (J (m + 60)) (fun n hn => by omega)
  rw [va_up_id, va_up_id] at e3
  generalize hJ1 : va_up (va_up J (m + 59) F') (m + 60) K' = J1 at e3
  have j1 : ∀ q, q ≠ m + 59 → q ≠ m + 60 → J1 q = J q := fun q h h' => by rw [← hJ1, va_up_n _ _ h', va_up_n _ _ h]
  generalize hhz : sp_hz U sb = hz at hzb hres hk
  have hE : ∀ n, n < sb → J1 (m + 59) n = Int64.ofInt (sp_en sb n : Nat) := fun n hn => by rw [← hJ1, va_up_n _ _ (by omega), va_up_s]; exact (hk n hn).1
  have hHz : ∀ n, n < sb → J1 (m + 60) n = Int64.ofInt (hz n) := fun n hn => by rw [← hJ1, va_up_s, (hk n hn).2]
  have jm : J1 m = J m := j1 m (by omega) (by omega)
  have im : I1 m = I m := a1 m (by omega)
  -- the way to 190
  have head : ∀ Z : mm_Z, Ev g mX12_pulses 190 [some (.ref m), some (.int (nI c)), some (.int (nI pt)), some (.int (nI sb)), some (.int (nI L)), some (.int p), some (.int (nI w)), none, none, none, none] [] B I1 (va_up J1 m (va_up (J m) 70 (Int64.ofInt (mZ none)))) P Z → Ct g mX12_pulses [.ref m, .int (nI c), .int (nI pt), .int (nI sb), .int (nI L), .int p, .int (nI w)] B I J P Z := by
    intro Z e0
    have e1 : Ev g mX12_pulses 183 [some (.ref m), some (.int (nI c)), some (.int (nI pt)), some (.int (nI sb)), some (.int (nI L)), some (.int p), some (.int (nI w)), none, none, none, none] [] B I1 J1 P Z := by
      refine ev_aload_n 184 dX12_pulses_183 rfl rfl ?_
      refine ev_ldc2 187 dX12_pulses_184 lk1656 rfl ?_
      refine ev_putJ 190 mm_cl12 (j := 70) (Nat.le_of_ble_eq_true rfl) dX12_pulses_187 lk1355 rfl (fun _ _ _ => rfl) rfl rfl (hM.1 0 _ rfl) rfl ?_
      rw [jm, show (9223372036854775807 : Int64) = Int64.ofInt (mZ none) by decide +kernel]
      exact e0
    have e2 := e3 Z e1
    rw [← hI1, ← hU] at e2
    have e4 := lp_X12_pul1 (g := g) (I := I) (J := J) (P := P) (c := c) (pt := pt) (sb := sb) (L := L) (w := w) (p := p) (H := H) (R := R) (Z := Z) hM hc8 hp4 hb hL hL2 hsp hH hR (by
      refine ev_iconstN 79 0 dX12_pulses_78 rfl ?_
      refine ev_istore 81 (lv' := [_, _, _, _, _, _, some (.int _), _, _, _, _]) dX12_pulses_79 (Nat.le_of_ble_eq_true rfl) rfl rfl ?_
      exact e2) sb 0 (by omega)
    rw [sgp_0, va_up_id] at e4
    refine ct_of (lv := [some (.ref m), some (.int (nI c)), some (.int (nI pt)), some (.int (nI sb)), some (.int (nI L)), some (.int p), some (.int (nI w)), none, none, none, none]) (by decide +kernel) (Nat.le_of_ble_eq_true rfl) rfl ?_
    refine ev_iconstN 1 0 dX12_pulses_0 rfl ?_
    refine ev_istore 3 (lv' := [_, _, _, _, _, _, some (.int _), _, _, _, _]) dX12_pulses_1 (Nat.le_of_ble_eq_true rfl) rfl rfl ?_
    exact e4
  unfold sp_pul at hres
  by_cases hww : w = 1
  · rw [if_pos hww] at hres
    subst hww
    have e6 := lp_X12_pul6 (g := g) (I := I1) (J := J1) (P := P) (c := c) (pt := pt) (sb := sb) (L := L) (w := 1) (p := p) (hz := hz) (t := (none, none, none)) (F := I m) (Q := J m) hM hb hb2 hzb hE hHz trivial (sb / 2) 0 (by omega)
    rw [hres, show sp_qs sb hz (none, none, none) 0 = (none, none, none) from rfl] at e6
    rw [show mF (mO (mE (I m) (none, none, none).2.2) (none, none, none).2.1) (none, none, none).1 = I1 m from im.symm, va_up_id] at e6
    refine ⟨va_up I1 m (va_up (va_up (va_up (va_up (va_up (I m) 73 (nI e)) 74 (nI d)) 75 (nI a)) 76 (nI b)) 77 (nI j)), va_up J1 m (va_up (J m) 70 (Int64.ofInt z)), head _ ?_, ?_, ?_, ?_, ?_⟩
    · refine ev_iload 192 dX12_pulses_190 rfl rfl ?_
      refine ev_if_eqN 195 296 dX12_pulses_192 (by decide) (by omega) rfl (fun hx => absurd hx ((by omega))) (fun hbr => ?_)
      refine ev_iconstN 196 0 dX12_pulses_195 rfl ?_
      refine ev_istore 198 (lv' := [_, _, _, _, _, _, some (.int _), _, _, _, _]) dX12_pulses_196 (Nat.le_of_ble_eq_true rfl) rfl rfl ?_
      exact e6
    · rw [va_up_s]
    · rw [va_up_s]
    · intro q h1 h2; rw [va_up_n _ _ h1]; exact a1 q h2
    · intro q h1 h2 h3; rw [va_up_n _ _ h1]; exact j1 q h2 h3
  · rw [if_neg hww] at hres
    obtain rfl : w = 0 := by omega
    obtain ⟨v1, v2, v3, v4⟩ := sp_ev_e (sb := sb) (hz := hz) hb3
    have e8 := fun Z K => lp_X12_pul8 (g := g) (I := I1) (J := J1) (P := P) (c := c) (pt := pt) (sb := sb) (L := L) (w := 0) (p := p) (hz := hz) (t := (none, none)) (F := I m) (Q := J m) (Z := Z) hM hb hb2 hzb hE hHz trivial K (sb / 2) 0 (by omega)
    rw [show sp_es sb hz (none, none) 0 = (none, none) from rfl, show mF (mE (I m) ((none, none) : sp_Q × sp_V).2) ((none, none) : sp_Q × sp_V).1 = I1 m from im.symm, va_up_id] at e8
    generalize hEv : sp_es sb hz (none, none) (sb / 2) = E at hres v1 v2 v3 v4 e8
    have hE2 : E.2 = some (e, d) := by
      have := congrArg (fun t => t.2.2) hres
      exact this
    rw [hE2] at hres v1 v2 v3 v4 e8
    have v2' : e < sb := v2
    have v3' : e % 2 = 0 := v3
    have v4' : d ≤ 1 := v4
    rw [show sp_ev (some (e, d)) = (e, d) from rfl] at hres
    have r1 : (sp_os sb hz e d (none, none) (sb / 2)).1 = some (z, j) := congrArg (fun t => t.1) hres
    have r2 : (sp_os sb hz e d (none, none) (sb / 2)).2 = some (a, b) := congrArg (fun t => t.2.1) hres
    have mE3 : ∀ k : Nat, mF (mE (I m) (some (e, d))) E.1 k = if k = 77 then mF (I m) E.1 77 else va_up (va_up (I m) 73 (nI e)) 74 (nI d) k := fun k => by
      cases h1 : E.1 with
      | none =>
        show va_up (va_up (I m) 73 (nI e)) 74 (nI d) k = _
        by_cases h : k = 77
        · subst h; rw [if_pos rfl, va_up_n _ _ (by omega), va_up_n _ _ (by omega)]; rfl
        · rw [if_neg h]
      | some y =>
        show va_up (va_up (va_up (I m) 73 (nI e)) 74 (nI d)) 77 _ k = _
        by_cases h : k = 77
        · subst h; rw [if_pos rfl, va_up_s]; exact (va_up_s _ _ _).symm
        · rw [if_neg h, va_up_n _ _ h]
    have e9 := lp_X12_pul10 (g := g) (I := I1) (J := J1) (P := P) (c := c) (pt := pt) (sb := sb) (L := L) (w := 0) (p := p) (hz := hz) (q := e) (sg := d) (t := (none, none)) (F := mF (mE (I m) (some (e, d))) E.1) (Q := J m) hM hb hb2 v2' v3' v4' hzb
      (by rw [mE3, if_neg (by omega), va_up_n _ _ (by omega), va_up_s]) (by rw [mE3, if_neg (by omega), va_up_s]) hE hHz trivial (sb / 2) 0 (by omega)
    rw [r1, r2, show sp_os sb hz e d (none, none) 0 = (none, none) from rfl] at e9
    refine ⟨va_up I1 m (mF (mO (mF (mE (I m) (some (e, d))) E.1) (some (a, b))) (some (z, j))), va_up J1 m (va_up (J m) 70 (Int64.ofInt (mZ (some (z, j))))), head _ ?_, ?_, ?_, ?_, ?_⟩
    · refine ev_iload 192 dX12_pulses_190 rfl rfl ?_
      refine ev_if_eqN 195 296 dX12_pulses_192 (by decide) (by omega) rfl (fun hbr => ?_) (fun hx => absurd (rfl) hx)
      refine ev_iconstN 297 0 dX12_pulses_296 rfl ?_
      refine ev_istore 299 (lv' := [_, _, _, _, _, _, some (.int _), _, _, _, _]) dX12_pulses_297 (Nat.le_of_ble_eq_true rfl) rfl rfl ?_
      refine e8 _ ?_
      refine ev_aload_n 376 dX12_pulses_375 rfl rfl ?_
      refine ev_ldc2 379 dX12_pulses_376 lk1656 rfl ?_
      refine ev_putJ 382 mm_cl12 (j := 70) (Nat.le_of_ble_eq_true rfl) dX12_pulses_379 lk1355 rfl (fun _ _ _ => rfl) rfl rfl (hM.1 0 _ rfl) rfl ?_
      rw [va_up_s, bx_uu, bx_uu, show (9223372036854775807 : Int64) = Int64.ofInt (mZ none) by decide +kernel]
      refine ev_iconstN 383 1 dX12_pulses_382 rfl ?_
      refine ev_istore 385 (lv' := [_, _, _, _, _, _, some (.int _), _, _, _, _]) dX12_pulses_383 (Nat.le_of_ble_eq_true rfl) rfl rfl ?_
      exact e9
    · rw [va_up_s]
      funext k
      show va_up (va_up (va_up (mF (mE (I m) (some (e, d))) E.1) 75 (nI a)) 76 (nI b)) 77 (nI j) k = _
      by_cases h : k = 77
      · subst h; rw [va_up_s, va_up_s]
      · rw [va_up_n _ _ h, va_up_n _ _ h]
        by_cases h' : k = 76
        · subst h'; rw [va_up_s, va_up_s]
        · rw [va_up_n _ _ h', va_up_n _ _ h']
          by_cases h'' : k = 75
          · subst h''; rw [va_up_s, va_up_s]
          · rw [va_up_n _ _ h'', va_up_n _ _ h'', mE3, if_neg h]
    · rw [va_up_s]; rfl
    · intro q h1 h2; rw [va_up_n _ _ h1]; exact a1 q h2
    · intro q h1 h2 h3; rw [va_up_n _ _ h1]; exact j1 q h2 h3
end MOU
