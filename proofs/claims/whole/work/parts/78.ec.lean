/-! the encoder, class side -/
section VEC
variable {g : mm_G} {B : mm_B} {I I0 : mm_TI} {J J0 : mm_TJ} {P : mm_TP} {x o : Nat}
theorem lx_X2_ep4 {sb w1 w2 t : Nat} {ix R H0 V0 Y0 : Nat → Int32} (hV : lyV B P x) (hC : lyC B P x o) (hG : ly_G g B) (hc : st_c g I0) (hgx : ∀ i, i < 3 → g.2.2 i < x) (hxo : x + 22 ≤ o) (hPa : ∀ i, i < 4 → P (o + 6) i = some (o + 7 + i)) (hb : sb = 40 ∨ sb = 80) (hw1 : w1 ≤ 1) (hw2 : w2 ≤ 1)
    (k1 : I0 (o + 4) 11 = nI w1) (k2 : I0 (o + 4) 12 = nI w2) (hix : I0 (o + 16) = ix) (hR : ∀ n, n < 4 * sb → I0 (o + 11) n = R n) (hRr : ∀ n, n < 4 * sb → r16 (R n)) (hHr : ∀ n, n < 160 → r16 (H0 n)) (hHz : ∀ n, 160 ≤ n → H0 n = 0)
    (ht : t + 12 ≤ 32) : ∀ (d k : Nat), k + d = 4 → ∀ (I : mm_TI) (J : mm_TJ), VPs x o sb w1 w2 t k ix R H0 V0 Y0 I0 J0 I J →
    ∃ (I' : mm_TI) (J' : mm_TJ), VPs x o sb w1 w2 t 4 ix R H0 V0 Y0 I0 J0 I' J' ∧ ∀ Z : mm_Z, Ev g mX2_encodeParts 21 [some (.ref (o + 4)), some (.int (nI sb)), some (.int (nI 4)), none] [] B I' J' P Z → Ev g mX2_encodeParts 21 [some (.ref (o + 4)), some (.int (nI sb)), some (.int (nI k)), none] [] B I J P Z := by
  intro d
  induction d with
  | zero =>
    intro k hk I J hS
    obtain rfl : k = 4 := by omega
    exact ⟨I, J, hS, fun Z e => e⟩
  | succ d ih =>
    intro k hk I J hS
    obtain ⟨I1, J1, s1, e1⟩ := lx_X2_ep (g := g) (B := B) (P := P) (t := t) hV hC hG hc hgx hxo hPa hb hw1 hw2 k1 k2 hix hR hRr hHr hHz ht (show k < 4 by omega) hS
    obtain ⟨I2, J2, s2, e2⟩ := ih (k + 1) (by omega) I1 J1 s1
    exact ⟨I2, J2, s2, fun Z e => e1 Z (e2 Z e)⟩
theorem cx_X2_encodeParts {sb w1 w2 t : Nat} {ix R H0 V0 Y0 : Nat → Int32} (hV : lyV B P x) (hC : lyC B P x o) (hG : ly_G g B) (hc : st_c g I) (hgx : ∀ i, i < 3 → g.2.2 i < x) (hxo : x + 22 ≤ o) (hPa : ∀ i, i < 4 → P (o + 6) i = some (o + 7 + i)) (hb : sb = 40 ∨ sb = 80) (hw1 : w1 ≤ 1) (hw2 : w2 ≤ 1)
    (k1 : I (o + 4) 11 = nI w1) (k2 : I (o + 4) 12 = nI w2) (hix : I (o + 16) = ix) (hR : ∀ n, n < 4 * sb → I (o + 11) n = R n) (hRr : ∀ n, n < 4 * sb → r16 (R n)) (hH : I (o + 14) = H0) (hHr : ∀ n, n < 160 → r16 (H0 n)) (hHz : ∀ n, 160 ≤ n → H0 n = 0) (hVv : I (o + 15) = V0) (hY : I (x + 6) = Y0)
    (ht : t + 12 ≤ 32) (ht2 : I (x + 1) 2 = nI t) : ∃ (I' : mm_TI) (J' : mm_TJ), Ct g mX2_encodeParts [.ref (o + 4), .int (nI sb)] B I J P (none, B, I', J', P) ∧
      I' (o + 14) = sp_vH R sb w1 w2 H0 4 ∧ (∀ i, i ≤ 4 → ∀ n, n < 160 → I' (o + 12) (sb * i + n) = sp_vH R sb w1 w2 H0 i n) ∧
      I' (o + 15) = (sp_vV ix R sb w1 w2 H0 (V0, Y0, 0) 4).1 ∧ J' (x + 1) 3 = J (x + 1) 3 + (sp_vV ix R sb w1 w2 H0 (V0, Y0, 0) 4).2.2 ∧
      (∀ i, i < 4 → VPt I' J' (o + 7 + i) (sp_vH R sb w1 w2 H0 i) (sg R (sb * i) sb) sb w1 w2) ∧ I' (o + 13) 3 = nI (vk_L (sp_vH R sb w1 w2 H0 3) (sg R (sb * 3) sb) sb w1) ∧
      I' (x + 3) = sp_tr (I (x + 3)) t w1 w2 4 ∧ I' (x + 1) = va_up (I (x + 1)) 2 (nI (t + 12)) ∧
      (∀ q, VPf x o q → q ≠ o + 13 → I' q = I q) ∧ (∀ q, (q < o + 7 ∨ o + 10 < q) → q ≠ x + 1 → q ≠ x + 17 → J' q = J q) := by
  have n12 := hC.2.1 12 _ rfl
  have n14 := hC.2.1 14 _ rfl
  generalize hI1 : va_up I (o + 12) (va_cpy (I (o + 14)) (I (o + 12)) 0 0 160) = I1
  have a1 : ∀ q, q ≠ o + 12 → I1 q = I q := fun q h => by rw [← hI1, va_up_n _ _ h]
  obtain ⟨I2, J2, ⟨s1, s2, s3, s4, s5, s6, s7, s8, s9, s10⟩, e⟩ := lx_X2_ep4 (g := g) (B := B) (I0 := I1) (J0 := J) (P := P) (x := x) (o := o) (sb := sb) (w1 := w1) (w2 := w2) (t := t) (ix := ix) (R := R) (H0 := H0) (V0 := V0) (Y0 := Y0) hV hC hG (st_c_of hc (fun i hi => by have := hgx i hi; exact a1 _ (by omega))) hgx hxo hPa hb hw1 hw2 (by rw [a1 _ (by omega)]; exact k1) (by rw [a1 _ (by omega)]; exact k2) (by rw [a1 _ (by omega)]; exact hix) (fun n hn => by rw [a1 _ (by omega)]; exact hR n hn) hRr hHr hHz ht 4 0 (by omega) I1 J
    ⟨by rw [a1 _ (by omega)]; exact hH, fun i hi n hn => by
      obtain rfl : i = 0 := by omega
      rw [← hI1, va_up_s, Nat.mul_zero, Nat.zero_add, cpy_0 hn, Nat.zero_add, hH]; rfl,
     by rw [a1 _ (by omega)]; exact hVv, by rw [a1 _ (by omega)]; exact hY, by show _ = _ + (0 : Int64); rw [Int64.add_zero], fun i hi => by omega, rfl,
     by show I1 (x + 1) = va_up (I1 (x + 1)) 2 (nI t); rw [a1 (x + 1) (by omega), ← ht2, va_up_id], fun q h => rfl, fun q h1 h2 h3 => rfl⟩
  have p0 := (s6 3 (by omega)).1
  refine ⟨va_up I2 (o + 13) (va_up (I2 (o + 13)) 3 (nI (vk_L (sp_vH R sb w1 w2 H0 3) (sg R (sb * 3) sb) sb w1))), J2, ?_, ?_, ?_, ?_, s5, ?_, ?_, ?_, ?_, ?_, s10⟩
  · refine ct_of (lv := [some (.ref (o + 4)), some (.int (nI sb)), none, none]) (by decide +kernel) (Nat.le_of_ble_eq_true rfl) rfl ?_
    refine ev_aload_n 1 dX2_encodeParts_0 rfl rfl ?_
    refine ev_getP 4 mm_cl2 (j := 3) (Nat.le_of_ble_eq_true rfl) dX2_encodeParts_1 lk372 (fun _ _ _ => rfl) (hC.1 4 _ rfl) (a := (o + 13)) (hC.2.2.1 5 _ _ _ rfl) rfl ?_
    refine ev_getP 7 mm_cl6 (j := 0) (Nat.le_of_ble_eq_true rfl) dX2_encodeParts_4 lk342 (fun _ _ _ => rfl) (hC.1 13 _ rfl) (a := (o + 14)) (hC.2.2.1 10 _ _ _ rfl) rfl ?_
    refine ev_iconstN 8 0 dX2_encodeParts_7 rfl ?_
    refine ev_aload_n 9 dX2_encodeParts_8 rfl rfl ?_
    refine ev_getP 12 mm_cl2 (j := 7) (Nat.le_of_ble_eq_true rfl) dX2_encodeParts_9 lk378 (fun _ _ _ => rfl) (hC.1 4 _ rfl) (a := (o + 12)) (hC.2.2.1 9 _ _ _ rfl) rfl ?_
    refine ev_iconstN 13 0 dX2_encodeParts_12 rfl ?_
    refine ev_sipushN 16 160 dX2_encodeParts_13 (by decide +kernel) rfl ?_
    refine ev_copyI 19 (0) (0) (160) 0 dX2_encodeParts_16 lk697 lk650 lk649 lk88 (by decide) (hC.1 14 _ rfl) (hC.1 12 _ rfl) rfl rfl rfl (by have hNN := hC.2.1 14 _ rfl; have hNM := hC.2.1 12 _ rfl; omega) (by have hNN := hC.2.1 14 _ rfl; have hNM := hC.2.1 12 _ rfl; omega) (fun _ _ => rfl) (Nat.le_of_ble_eq_true rfl) (Nat.le_of_ble_eq_true rfl) (Nat.le_of_ble_eq_true rfl) rfl ?_
    rw [hI1]
    refine ev_iconstN 20 0 dX2_encodeParts_19 rfl ?_
    refine ev_istore_n 21 (lv' := [_, some (.int _), _, _]) dX2_encodeParts_20 (Nat.le_of_ble_eq_true rfl) rfl rfl ?_
    refine e _ ?_
    refine ev_iload_n 22 dX2_encodeParts_21 rfl rfl ?_
    refine ev_iconstN 23 4 dX2_encodeParts_22 rfl ?_
    refine ev_icmp_geN 26 172 dX2_encodeParts_23 (by decide) (by omega) (by omega) rfl (fun hbr => ?_) (fun hx => absurd ((by omega)) hx)
    refine ev_aload_n 173 dX2_encodeParts_172 rfl rfl ?_
    refine ev_getP 176 mm_cl2 (j := 3) (Nat.le_of_ble_eq_true rfl) dX2_encodeParts_173 lk372 (fun _ _ _ => rfl) (hC.1 4 _ rfl) (a := (o + 13)) (hC.2.2.1 5 _ _ _ rfl) rfl ?_
    refine ev_aload_n 177 dX2_encodeParts_176 rfl rfl ?_
    refine ev_getP 180 mm_cl2 (j := 5) (Nat.le_of_ble_eq_true rfl) dX2_encodeParts_177 lk375 (fun _ _ _ => rfl) (hC.1 4 _ rfl) (a := (o + 6)) (hC.2.2.1 7 _ _ _ rfl) rfl ?_
    refine ev_iconstN 181 3 dX2_encodeParts_180 rfl ?_
    refine ev_aald 182 _ 7 dX2_encodeParts_181 (hC.1 6 _ rfl) rfl (by have hNN := hC.2.1 6 _ rfl; omega) rfl ?_
    refine ev_eqR (a := (o + 10)) ((hPa 3 (by omega))) ?_
    refine ev_getI 185 mm_cl7 (j := 0) (Nat.le_of_ble_eq_true rfl) dX2_encodeParts_182 lk200 (fun _ _ _ => rfl) (hC.1 10 _ rfl) rfl ?_
    refine ev_eqI (y := nI ((vk_L (sp_vH R sb w1 w2 H0 3) (sg R (sb * 3) sb) sb w1))) (p0) ?_
    refine ev_putI 188 mm_cl6 (j := 3) (Nat.le_of_ble_eq_true rfl) dX2_encodeParts_185 lk352 rfl (fun _ _ _ => rfl) rfl rfl (hC.1 13 _ rfl) rfl ?_
    exact ev_vret dX2_encodeParts_188 rfl (rfl)
  · rw [va_up_n _ _ (by omega)]; exact s1
  · intro i hi n hn
    rw [va_up_n _ _ (by omega)]; exact s2 i hi n hn
  · rw [va_up_n _ _ (by omega)]; exact s3
  · intro i hi
    exact VPt_cg (s6 i hi) (va_up_n _ _ (by omega)) rfl
  · rw [va_up_s, va_up_s]
  · rw [va_up_n _ _ (by omega), s7, a1 _ (by omega)]
  · rw [va_up_n _ _ (by omega), s8, a1 _ (by omega)]
  · intro q h h'
    have h2 := h
    unfold VPf at h2
    rw [va_up_n _ _ h', s9 q h, a1 q (by omega)]
/-- the head of it, up to the question whether it is a voice -/
theorem lx_X2_ef0 {rt em N : Nat} {W : Nat → Int32} {raw : Int32} (hV : lyV B P x) (hC : lyC B P x o) (hxo : x + 22 ≤ o) (hPa : ∀ i, i < 4 → P (o + 6) i = some (o + 7 + i)) (hrt : rt ≤ 1) (r3 : I (o + 4) 10 = nI rt) (hN : N = 160 * (rt + 1)) (hem : I (o + 4) 13 = nI em) (hem1 : em ≤ 1) (hr : I (o + 4) 18 = raw) (hW : I (x + 5) = W) :
    ∃ I' : mm_TI, I' (x + 5) = sp_fR em N 0 W raw ∧ I' (o + 4) = va_up (I (o + 4)) 18 (W (N - 1)) ∧
      I' (x + 3) = va_up (I (x + 3)) 0 (nI 1) ∧ I' (x + 1) = va_up (I (x + 1)) 2 (nI 1) ∧ (∀ q, q ≠ x + 5 → q ≠ o + 4 → q ≠ x + 3 → q ≠ x + 1 → I' q = I q) ∧
      ∀ Z : mm_Z, Ev g mX2_encodeFrame 46 [some (.ref (o + 4)), some (.int (nI N)), some (.int (sp_fP em W raw N)), some (.int ((I (o + 10) 0 - nI 20))), some (.int ((I (o + 10) 1))), none, none] [] B I' (sp_up J (x + 1) 3 (sp_fT em W raw N)) P Z → Ct g mX2_encodeFrame [.ref (o + 4)] B I J P Z := by
  have hN' : N = 160 ∨ N = 320 := by omega
  generalize hI1 : va_up I (x + 1) (va_up (I (x + 1)) 2 (nI 0)) = I1
  have a1 : ∀ q, q ≠ x + 1 → I1 q = I q := fun q h => by rw [← hI1, va_up_n _ _ h]
  obtain ⟨I', c, f1, f2, f3, f4, f5⟩ := cx_X2_framed (g := g) (B := B) (I := I1) (J := J) (P := P) (x := x) (o := o) (N := N) (em := em) (t := 0) (W := W) (raw := raw) hV hC hxo (by omega) (by omega) (by rw [← hI1, va_up_s, va_up_s]) (by omega) (by rw [a1 _ (by omega)]; exact hem) hem1 (by rw [a1 _ (by omega)]; exact hr) (by rw [a1 _ (by omega)]; exact hW)
  refine ⟨I', f1, by rw [f2, a1 _ (by omega)], by rw [f3, a1 _ (by omega)], by rw [f4, ← hI1, va_up_s, bx_uu], fun q h1 h2 h3 h4 => by rw [f5 q h1 h2 h3 h4, a1 q h4], fun Z e => ?_⟩
  have e10 : I' (o + 10) = I (o + 10) := by rw [f5 _ (by omega) (by omega) (by omega) (by omega), a1 _ (by omega)]
  refine ct_of (lv := [some (.ref (o + 4)), none, none, none, none, none, none]) (by decide +kernel) (Nat.le_of_ble_eq_true rfl) rfl ?_
  refine ev_aload_n 1 dX2_encodeFrame_0 rfl rfl ?_
  refine ev_getP 4 mm_cl2 (j := 0) (Nat.le_of_ble_eq_true rfl) dX2_encodeFrame_1 lk369 (fun _ _ _ => rfl) (hC.1 4 _ rfl) (a := (x + 1)) (hC.2.2.2 0 _ _ _ rfl) rfl ?_
  refine ev_iconstN 5 0 dX2_encodeFrame_4 rfl ?_
  refine ev_putI 8 mm_cl10 (j := 2) (Nat.le_of_ble_eq_true rfl) dX2_encodeFrame_5 lk111 rfl (fun _ _ _ => rfl) rfl rfl (hV.1 1 _ rfl) rfl ?_
  rw [hI1]
  refine ev_aload_n 9 dX2_encodeFrame_8 rfl rfl ?_
  refine ev_getI 12 mm_cl2 (j := 10) (Nat.le_of_ble_eq_true rfl) dX2_encodeFrame_9 lk382 (fun _ _ _ => rfl) (hC.1 4 _ rfl) rfl ?_
  refine ev_eqI (y := nI (rt)) ((by rw [a1 _ (by omega)]; exact r3)) ?_
  refine ev_invSN 15 (Mc := mX11_frameOf) ⟨lk639, lk75, hdX11_frameOf, (Nat.le_of_ble_eq_true rfl), (Nat.le_of_ble_eq_true rfl)⟩ lk657 lk638 dX2_encodeFrame_12 (ct_X11_frameOf (show rt < 2 by omega)) rfl (Nat.le_of_ble_eq_true rfl) rfl rfl ?_
  rw [← hN]
  refine ev_istore_n 16 (lv' := [some (.ref _), _, _, _, _, _, _]) dX2_encodeFrame_15 (Nat.le_of_ble_eq_true rfl) rfl rfl ?_
  refine ev_aload_n 17 dX2_encodeFrame_16 rfl rfl ?_
  refine ev_iload_n 18 dX2_encodeFrame_17 rfl rfl ?_
  refine ev_invV 21 (Mc := mX2_framed) ⟨lk661, lk83, hdX2_framed, (Nat.le_of_ble_eq_true rfl), (Nat.le_of_ble_eq_true rfl)⟩ lk658 lk660 lk2 mm_cl2 rfl dX2_encodeFrame_18 (c) rfl (hC.1 4 _ rfl) (Nat.le_of_ble_eq_true rfl) rfl rfl ?_
  refine ev_istore_n 22 (lv' := [_, some (.int _), _, _, _, _, _]) dX2_encodeFrame_21 (Nat.le_of_ble_eq_true rfl) rfl rfl ?_
  refine ev_aload_n 23 dX2_encodeFrame_22 rfl rfl ?_
  refine ev_getP 26 mm_cl2 (j := 5) (Nat.le_of_ble_eq_true rfl) dX2_encodeFrame_23 lk375 (fun _ _ _ => rfl) (hC.1 4 _ rfl) (a := (o + 6)) (hC.2.2.1 7 _ _ _ rfl) rfl ?_
  refine ev_iconstN 27 3 dX2_encodeFrame_26 rfl ?_
  refine ev_aald 28 _ 7 dX2_encodeFrame_27 (hC.1 6 _ rfl) rfl (by have hNN := hC.2.1 6 _ rfl; omega) rfl ?_
  refine ev_eqR (a := (o + 10)) ((hPa 3 (by omega))) ?_
  refine ev_getI 31 mm_cl7 (j := 0) (Nat.le_of_ble_eq_true rfl) dX2_encodeFrame_28 lk200 (fun _ _ _ => rfl) (hC.1 10 _ rfl) rfl ?_
  refine ev_eqI (y := (I (o + 10) 0)) ((by rw [e10])) ?_
  refine ev_bipushN 33 20 dX2_encodeFrame_31 (by decide +kernel) rfl ?_
  refine ev_isub 34 dX2_encodeFrame_33 rfl ?_
  refine ev_istore_n 35 (lv' := [_, _, some (.int _), _, _, _, _]) dX2_encodeFrame_34 (Nat.le_of_ble_eq_true rfl) rfl rfl ?_
  refine ev_aload_n 36 dX2_encodeFrame_35 rfl rfl ?_
  refine ev_getP 39 mm_cl2 (j := 5) (Nat.le_of_ble_eq_true rfl) dX2_encodeFrame_36 lk375 (fun _ _ _ => rfl) (hC.1 4 _ rfl) (a := (o + 6)) (hC.2.2.1 7 _ _ _ rfl) rfl ?_
  refine ev_iconstN 40 3 dX2_encodeFrame_39 rfl ?_
  refine ev_aald 41 _ 7 dX2_encodeFrame_40 (hC.1 6 _ rfl) rfl (by have hNN := hC.2.1 6 _ rfl; omega) rfl ?_
  refine ev_eqR (a := (o + 10)) ((hPa 3 (by omega))) ?_
  refine ev_getI 44 mm_cl7 (j := 1) (Nat.le_of_ble_eq_true rfl) dX2_encodeFrame_41 lk203 (fun _ _ _ => rfl) (hC.1 10 _ rfl) rfl ?_
  refine ev_eqI (y := (I (o + 10) 1)) ((by rw [e10])) ?_
  refine ev_istore 46 (lv' := [_, _, _, some (.int _), _, _, _]) dX2_encodeFrame_44 (Nat.le_of_ble_eq_true rfl) rfl rfl ?_
  exact e
/-- a silence -/
theorem cx_X2_encS {rt em N lv nu rd sp spr : Nat} {W : Nat → Int32} {raw en : Int32} (hV : lyV B P x) (hC : lyC B P x o) (hxo : x + 22 ≤ o) (hnx : o + 33 ≤ mm_nx B) (hPa : ∀ i, i < 4 → P (o + 6) i = some (o + 7 + i)) (hrt : rt ≤ 1) (r3 : I (o + 4) 10 = nI rt) (hN : N = 160 * (rt + 1)) (hem : I (o + 4) 13 = nI em) (hem1 : em ≤ 1) (hr : I (o + 4) 18 = raw) (hW : I (x + 5) = W)
    (hlv : I (o + 4) 15 = nI lv) (hrd : rd ≤ 1) (hsp : sp ≤ 1) (r1 : I (o + 4) 14 = nI rd) (r2 : I (o + 4) 9 = nI sp) (r4 : I (o + 4) 16 = nI nu) (r5 : I (o + 4) 17 = en) (hnu : nu < 65536) (hspr : spr = if rd = 1 ∧ sp = 1 then 2 else 0)
    (hz1 : ∀ j, 160 ≤ j → I (o + 14) j = 0) (hz2 : ∀ j, 8 ≤ j → I (o + 15) j = 0) (hz3 : ∀ j, 8 ≤ j → I (o + 16) j = 0) (hsil : sp_fP em W raw N < nI lv) :
    ∃ (I' : mm_TI) (J' : mm_TJ), Ct g mX2_encodeFrame [.ref (o + 4)] B I J P (some (.ref (mm_nx B)), mm_al B 201 (6 + 2 + spr + 1) (6 + 2 + spr + 1), I', J', va_up P (mm_nx B) (fun _ => none)) ∧
      (∀ k, k < 6 + 2 + spr → I' (mm_nx B) k = sp_row 0 (nI rt) (nI nu) 2 spr (sp_fP em W raw N) (fun _ => 0) (fun i => I (o + 7 + i)) (I (o + 10) 0 - nI 20) (I (o + 10) 1) k) ∧
      I' (mm_nx B) (6 + 2 + spr) = b8 (sp_xs (sp_row 0 (nI rt) (nI nu) 2 spr (sp_fP em W raw N) (fun _ => 0) (fun i => I (o + 7 + i)) (I (o + 10) 0 - nI 20) (I (o + 10) 1)) (6 + 2 + spr)) ∧
      I' (o + 14) = (sp_hu (fun _ => 0) (sp_fP em W raw N) nu (40 * (rt + 1)) (I (o + 14), I (o + 15), I (x + 6), 0) 4).1 ∧ I' (o + 15) = (sp_hu (fun _ => 0) (sp_fP em W raw N) nu (40 * (rt + 1)) (I (o + 14), I (o + 15), I (x + 6), 0) 4).2.1 ∧ I' (o + 16) = (fun _ => 0) ∧
      J' (x + 1) 3 = J (x + 1) 3 + (sp_fT em W raw N + (sp_hu (fun _ => 0) (sp_fP em W raw N) nu (40 * (rt + 1)) (I (o + 14), I (o + 15), I (x + 6), 0) 4).2.2.2) ∧
      I' (o + 4) = va_up (va_up (va_up (va_up (va_up (I (o + 4)) 18 (W (N - 1))) 9 (nI 0)) 8 (nI rt)) 17 (en + nI 1)) 16 (nI ((nu + 1) % 65536)) ∧
      I' (x + 3) = va_up (va_up (va_up (va_up (I (x + 3)) 0 (nI 1)) 1 (nI 2)) 2 (nI 14)) 3 (nI 15) ∧ I' (x + 1) = va_up (I (x + 1)) 2 (nI 4) ∧
      (∀ k, 5 ≤ k → k ≤ 14 → I' (x + k) = fun _ => 0) ∧ (∀ n, n < 9 → J' (x + 15) n = 0) ∧ (∀ n, n < 8 → J' (x + 16) n = 0) ∧
      (∀ q, q ≠ mm_nx B → q ≠ o + 4 → q ≠ o + 14 → q ≠ o + 15 → q ≠ o + 16 → q ≠ x + 1 → q ≠ x + 3 → q < x + 5 ∨ x + 14 < q → I' q = I q) ∧ (∀ q, q ≠ mm_nx B → q ≠ x + 1 → q ≠ x + 15 → q ≠ x + 16 → J' q = J q) := by
  obtain ⟨I1, f1, f2, f3, f4, f5, f6⟩ := lx_X2_ef0 (g := g) (B := B) (I := I) (J := J) (P := P) (x := x) (o := o) (rt := rt) (em := em) (N := N) (W := W) (raw := raw) hV hC hxo hPa hrt r3 hN hem hem1 hr hW
  generalize hpk : sp_fP em W raw N = pk at *
  generalize hJ1 : sp_up J (x + 1) 3 (sp_fT em W raw N) = J1 at f6
  have m1 := ct_X10_mark (g := g) (I := I1) (J := J1) (P := P) (a := nI 2) (t := 1) hV (by rw [f4, va_up_s]) (by omega)
  generalize hI2 : va_up (va_up I1 (x + 3) (va_up (I1 (x + 3)) 1 (nI 2))) (x + 1) (va_up (I1 (x + 1)) 2 (nI (1 + 1))) = I2 at m1
  have a2 : ∀ q, q ≠ x + 3 → q ≠ x + 1 → I2 q = I1 q := fun q h h' => by rw [← hI2, va_up_n _ _ h', va_up_n _ _ h]
  have t2 : I2 (x + 1) = va_up (I (x + 1)) 2 (nI (1 + 1)) := by rw [← hI2, va_up_s, f4, bx_uu]
  have m2 := ct_X10_mark (g := g) (I := I2) (J := J1) (P := P) (a := nI 14) (t := 1 + 1) hV (by rw [t2, va_up_s]) (by omega)
  generalize hI3 : va_up (va_up I2 (x + 3) (va_up (I2 (x + 3)) (1 + 1) (nI 14))) (x + 1) (va_up (I2 (x + 1)) 2 (nI (1 + 1 + 1))) = I3 at m2
  have a3 : ∀ q, q ≠ x + 3 → q ≠ x + 1 → I3 q = I2 q := fun q h h' => by rw [← hI3, va_up_n _ _ h', va_up_n _ _ h]
  have A3 : ∀ q, q ≠ x + 5 → q ≠ o + 4 → q ≠ x + 3 → q ≠ x + 1 → I3 q = I q := fun q h1 h2 h3 h4 => by rw [a3 q h3 h4, a2 q h3 h4, f5 q h1 h2 h3 h4]
  obtain ⟨I4, c4, u1, u2, u3, u4, u5⟩ := cx_X6_hush (g := g) (B := B) (I := I3) (J := J1) (P := P) (x := x) (b := o + 13) (z := nu) (sb := 40 * (rt + 1)) (pk := pk) hV (lyK_of13 hC) (by omega) (by omega) (by omega)
    (by rw [show o + 13 + 1 = o + 14 from rfl, A3 _ (by omega) (by omega) (by omega) (by omega)]; exact hz1) (by rw [show o + 13 + 2 = o + 15 from rfl, A3 _ (by omega) (by omega) (by omega) (by omega)]; exact hz2) (by rw [show o + 13 + 3 = o + 16 from rfl, A3 _ (by omega) (by omega) (by omega) (by omega)]; exact hz3)
  simp only [show o + 13 + 1 = o + 14 from rfl, show o + 13 + 2 = o + 15 from rfl, show o + 13 + 3 = o + 16 from rfl, A3 (o + 14) (by omega) (by omega) (by omega) (by omega), A3 (o + 15) (by omega) (by omega) (by omega) (by omega), A3 (x + 6) (by omega) (by omega) (by omega) (by omega)] at c4 u1 u2 u3 u4 u5
  generalize hhu : sp_hu (fun _ => 0) pk nu (40 * (rt + 1)) (I (o + 14), I (o + 15), I (x + 6), 0) 4 = hu at *
  have e4 : I4 (o + 4) = va_up (I (o + 4)) 18 (W (N - 1)) := by rw [u5 _ (by omega) (by omega) (by omega) (by omega) (by omega), a3 _ (by omega) (by omega), a2 _ (by omega) (by omega), f2]
  have hpf : ∀ i, i < 4 → I4 (o + 7 + i) = I (o + 7 + i) := fun i hi => by rw [u5 _ (by omega) (by omega) (by omega) (by omega) (by omega), A3 _ (by omega) (by omega) (by omega) (by omega)]
  have t3 : I4 (x + 1) = va_up (I (x + 1)) 2 (nI (1 + 1 + 1)) := by rw [u5 _ (by omega) (by omega) (by omega) (by omega) (by omega), ← hI3, va_up_s, t2, bx_uu]
  obtain ⟨I', J', E, g1, g2, g3, g4, g5, g6, g7, g8, g9, g10⟩ := lx_X2_ef (g := g) (B := B) (I := I4) (J := sp_up J1 (x + 1) 3 hu.2.2.2) (P := P) (x := x) (o := o) (N := N) (vo := 0) (rd := rd) (sp := sp) (bd := 2) (spr := spr) (nu := nu) (t := 3) (rt := nI rt) (pk := pk) (sl := I (o + 10) 0 - nI 20) (sh := I (o + 10) 1) (en := en) (ix := fun _ => 0) (pf := fun i => I (o + 7 + i)) hV hC hxo hnx (by omega) hrd hsp
    (by rw [e4, va_up_n _ _ (by omega)]; exact r1) (by rw [e4, va_up_n _ _ (by omega)]; exact r2) (by rw [e4, va_up_n _ _ (by omega)]; exact r3) (by rw [e4, va_up_n _ _ (by omega)]; exact r4) (by rw [e4, va_up_n _ _ (by omega)]; exact r5) hnu rfl hspr (by rw [t3, va_up_s]) (by omega) hPa u3 hpf
  refine ⟨I', J', ?_, g1, g2, ?_, ?_, ?_, ?_, ?_, ?_, ?_, g6, g7, g8, ?_, ?_⟩
  · refine f6 _ ?_
    refine ev_iload_n 47 dX2_encodeFrame_46 rfl rfl ?_
    refine ev_aload_n 48 dX2_encodeFrame_47 rfl rfl ?_
    refine ev_getI 51 mm_cl2 (j := 15) (Nat.le_of_ble_eq_true rfl) dX2_encodeFrame_48 lk392 (fun _ _ _ => rfl) (hC.1 4 _ rfl) rfl ?_
    refine ev_eqI (y := nI (lv)) ((by rw [f2, va_up_n _ _ (by omega)]; exact hlv)) ?_
    refine ev_icmp_lt 54 58 dX2_encodeFrame_51 (by decide) rfl (fun hbr => ?_) (fun hx => absurd ((by exact hsil)) hx)
    refine ev_iconstN 59 0 dX2_encodeFrame_58 rfl ?_
    refine ev_istore 61 (lv' := [_, _, _, _, some (.int _), _, _]) dX2_encodeFrame_59 (Nat.le_of_ble_eq_true rfl) rfl rfl ?_
    refine ev_iload 63 dX2_encodeFrame_61 rfl rfl ?_
    refine ev_if_eqN 66 86 dX2_encodeFrame_63 (by decide) (by omega) rfl (fun hbr => ?_) (fun hx => absurd ((by omega)) hx)
    refine ev_aload_n 87 dX2_encodeFrame_86 rfl rfl ?_
    refine ev_getP 90 mm_cl2 (j := 0) (Nat.le_of_ble_eq_true rfl) dX2_encodeFrame_87 lk369 (fun _ _ _ => rfl) (hC.1 4 _ rfl) (a := (x + 1)) (hC.2.2.2 0 _ _ _ rfl) rfl ?_
    refine ev_iconstN 91 2 dX2_encodeFrame_90 rfl ?_
    refine ev_invVv 94 (Mc := mX10_mark) ⟨lk665, lk76, hdX10_mark, (Nat.le_of_ble_eq_true rfl), (Nat.le_of_ble_eq_true rfl)⟩ lk662 lk663 lk664 mm_cl10 rfl dX2_encodeFrame_91 (m1) rfl (hV.1 1 _ rfl) (Nat.le_of_ble_eq_true rfl) rfl rfl ?_
    refine ev_aload_n 95 dX2_encodeFrame_94 rfl rfl ?_
    refine ev_getP 98 mm_cl2 (j := 0) (Nat.le_of_ble_eq_true rfl) dX2_encodeFrame_95 lk369 (fun _ _ _ => rfl) (hC.1 4 _ rfl) (a := (x + 1)) (hC.2.2.2 0 _ _ _ rfl) rfl ?_
    refine ev_bipushN 100 14 dX2_encodeFrame_98 (by decide +kernel) rfl ?_
    refine ev_invVv 103 (Mc := mX10_mark) ⟨lk665, lk76, hdX10_mark, (Nat.le_of_ble_eq_true rfl), (Nat.le_of_ble_eq_true rfl)⟩ lk662 lk663 lk664 mm_cl10 rfl dX2_encodeFrame_100 (m2) rfl (hV.1 1 _ rfl) (Nat.le_of_ble_eq_true rfl) rfl rfl ?_
    refine ev_aload_n 104 dX2_encodeFrame_103 rfl rfl ?_
    refine ev_getP 107 mm_cl2 (j := 3) (Nat.le_of_ble_eq_true rfl) dX2_encodeFrame_104 lk372 (fun _ _ _ => rfl) (hC.1 4 _ rfl) (a := (o + 13)) (hC.2.2.1 5 _ _ _ rfl) rfl ?_
    refine ev_aload_n 108 dX2_encodeFrame_107 rfl rfl ?_
    refine ev_getI 111 mm_cl2 (j := 16) (Nat.le_of_ble_eq_true rfl) dX2_encodeFrame_108 lk394 (fun _ _ _ => rfl) (hC.1 4 _ rfl) rfl ?_
    refine ev_eqI (y := nI (nu)) ((by rw [a3 _ (by omega) (by omega), a2 _ (by omega) (by omega), f2, va_up_n _ _ (by omega)]; exact r4)) ?_
    refine ev_iload_n 112 dX2_encodeFrame_111 rfl rfl ?_
    refine ev_iload_n 113 dX2_encodeFrame_112 rfl rfl ?_
    refine ev_iconstN 114 4 dX2_encodeFrame_113 rfl ?_
    refine ev_idivN 115 dX2_encodeFrame_114 (by omega) (by omega) (by omega) rfl ?_
    rw [show N / 4 = 40 * (rt + 1) by omega]
    refine ev_invVv 118 (Mc := mX6_hush) ⟨lk828, lk84, hdX6_hush, (Nat.le_of_ble_eq_true rfl), (Nat.le_of_ble_eq_true rfl)⟩ lk825 lk826 lk827 mm_cl6 rfl dX2_encodeFrame_115 (c4) rfl (hC.1 13 _ rfl) (Nat.le_of_ble_eq_true rfl) rfl rfl ?_
    exact E
  · rw [g9 _ (by omega) (by omega) (by omega) (by omega) (by omega)]; exact u1
  · rw [g9 _ (by omega) (by omega) (by omega) (by omega) (by omega)]; exact u2
  · rw [g9 _ (by omega) (by omega) (by omega) (by omega) (by omega)]; exact u3
  · rw [g10 _ (by omega) (by omega) (by omega), ← hJ1]
    show va_up _ (x + 1) (va_up (va_up J (x + 1) (va_up (J (x + 1)) 3 (J (x + 1) 3 + sp_fT em W raw N)) (x + 1)) 3 (va_up J (x + 1) (va_up (J (x + 1)) 3 (J (x + 1) 3 + sp_fT em W raw N)) (x + 1) 3 + hu.2.2.2)) (x + 1) 3 = _
    rw [va_up_s, va_up_s, va_up_s, va_up_s, Int64.add_assoc]
  · rw [g3, e4]
  · rw [g4, u5 _ (by omega) (by omega) (by omega) (by omega) (by omega), ← hI3, va_up_n _ _ (by omega), va_up_s, ← hI2, va_up_n _ _ (by omega), va_up_s, f3]
  · rw [g5, t3, bx_uu]
  · intro q h1 h2 h3 h4 h5 h6 h7 h8
    rw [g9 q h1 h2 h6 h7 h8, u5 q h3 h4 h5 (by omega) (by omega), A3 q (by omega) h2 h7 h6]
  · intro q h1 h2 h3 h4
    rw [g10 q h1 h3 h4, ← hJ1]
    show va_up (va_up J (x + 1) _) (x + 1) _ q = _
    rw [va_up_n _ _ h2, va_up_n _ _ h2]
end VEC
