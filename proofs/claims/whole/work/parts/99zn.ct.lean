/-! COST -/
section CT0
variable {g : mm_G} {B : mm_B} {I : mm_TI} {J : mm_TJ} {P : mm_TP} {x m o n k : Nat}
theorem ct_costOf {p w : Nat} (tp : mm_T B p = 107) (hw : w ≤ 1) : Ct g mX7_costOf [.ref p, .int (nI w)] B I J P (some (.long (J p (7 + w))), B, I, J, P) := by
  rcases (show w = 0 ∨ w = 1 by omega) with rfl | rfl
  · refine ct_of (lv := [some (.ref p), some (.int (nI 0))]) (by decide +kernel) (Nat.le_of_ble_eq_true rfl) rfl ?_
    refine ev_iload_n 1 dX7_costOf_0 rfl rfl ?_
    refine ev_if_neN 4 11 dX7_costOf_1 (by decide) (by omega) rfl (fun hx => absurd ((by omega)) hx) (fun hbr => ?_)
    refine ev_aload_n 5 dX7_costOf_4 rfl rfl ?_
    refine ev_getJ 8 mm_cl7 (j := 7) (Nat.le_of_ble_eq_true rfl) dX7_costOf_5 lk219 (fun _ _ _ => rfl) tp rfl ?_
    refine ev_goto 15 dX7_costOf_8 (by decide) ?_
    exact ev_lret dX7_costOf_15 rfl (rfl)
  · refine ct_of (lv := [some (.ref p), some (.int (nI 1))]) (by decide +kernel) (Nat.le_of_ble_eq_true rfl) rfl ?_
    refine ev_iload_n 1 dX7_costOf_0 rfl rfl ?_
    refine ev_if_neN 4 11 dX7_costOf_1 (by decide) (by omega) rfl (fun hbr => ?_) (fun hx => absurd hx ((by omega)))
    refine ev_aload_n 12 dX7_costOf_11 rfl rfl ?_
    refine ev_getJ 15 mm_cl7 (j := 8) (Nat.le_of_ble_eq_true rfl) dX7_costOf_12 lk221 (fun _ _ _ => rfl) tp rfl ?_
    exact ev_lret dX7_costOf_15 rfl (rfl)
/-- the searches' memory, behind wholeCost -/
def WCf (x : Nat) (I I' : mm_TI) (J J' : mm_TJ) : Prop :=
  (∀ k, 5 ≤ k → k ≤ 14 → I' (x + k) = fun _ => 0) ∧ (∀ n, n < 9 → J' (x + 15) n = 0) ∧ (∀ n, n < 8 → J' (x + 16) n = 0) ∧ (∀ q, q < x + 5 ∨ x + 18 < q ∨ q = x + 15 ∨ q = x + 16 → I' q = I q) ∧ (∀ q, q < x + 15 ∨ x + 18 < q → J' q = J q)
theorem lx_wc {sr p w fr sb : Nat} {H R : Nat → Int32} (hV : lyV B P x) (hC : lyC B P x o) (hxo : x + 22 ≤ o) (hsr : sr ≤ 1) (r8 : I (o + 4) 8 = nI sr) (hsb : sb = 40 * (sr + 1)) (hp : p < 4) (hfr : fr = p * sb) (hH : ∀ i, i < 160 → I (o + 12) (fr + i) = H i) (hR : ∀ i, i < sb → I (o + 11) (fr + i) = R i) :
    ∃ I1 : mm_TI, I1 (x + 17) 2 = nI sb ∧ (∀ i, i < 160 → I1 (x + 10) i = H i) ∧ (∀ i, i < sb → I1 (x + 11) i = R i) ∧ (∀ q, q ≠ x + 17 → q ≠ x + 10 → q ≠ x + 11 → I1 q = I q) ∧
      ∀ Z : mm_Z, Ev g mX2_wholeCost 36 [some (.ref (o + 4)), some (.int (nI p)), some (.int (nI w)), some (.int (nI sb)), some (.ref (x + 18))] [] B I1 J P Z → Ct g mX2_wholeCost [.ref (o + 4), .int (nI p), .int (nI w)] B I J P Z := by
  have f3 : fr ≤ 240 := by
    rw [hfr]; exact Nat.mul_le_mul (show p ≤ 3 by omega) (show sb ≤ 80 by omega)
  have n11 := hC.2.1 11 _ rfl
  have n12 := hC.2.1 12 _ rfl
  have ld := ct_X9_load (g := g) (I := I) (J := J) (qr := o + 11) (qh := o + 12) (fr := fr) (sb := sb) hV (hC.1 11 _ rfl) (hC.1 12 _ rfl) (by omega) (by omega) (by omega) (by omega) (by omega) (by omega)
  have po := ct_X11_partOf (g := g) (B := B) (I := I) (J := J) (P := P) (show sr < 2 by omega)
  rw [← hsb] at po
  refine ⟨va_up (va_up (va_up I (x + 17) (va_up (I (x + 17)) 2 (nI sb))) (x + 11) (va_cpy (I (o + 11)) (I (x + 11)) fr 0 sb)) (x + 10) (va_cpy (I (o + 12)) (I (x + 10)) fr 0 160), ?_, fun i hi => ?_, fun i hi => ?_, fun q q1 q2 q3 => ?_, fun Z K => ?_⟩
  · rw [va_up_n _ _ (by omega), va_up_n _ _ (by omega), va_up_s, va_up_s]
  · rw [va_up_s, pk_cpy_in (by omega) (by omega)]; exact hH _ (by omega)
  · rw [va_up_n _ _ (by omega), va_up_s, pk_cpy_in (by omega) (by omega)]; exact hR _ (by omega)
  · rw [va_up_n _ _ q2, va_up_n _ _ q3, va_up_n _ _ q1]
  · refine ct_of (lv := [some (.ref (o + 4)), some (.int (nI p)), some (.int (nI w)), none, none]) (by decide +kernel) (Nat.le_of_ble_eq_true rfl) rfl ?_
    refine ev_aload_n 1 dX2_wholeCost_0 rfl rfl ?_
    refine ev_getI 4 mm_cl2 (j := 8) (Nat.le_of_ble_eq_true rfl) dX2_wholeCost_1 lk379 (fun _ _ _ => rfl) (hC.1 4 _ rfl) rfl ?_
    refine ev_eqI (y := nI (sr)) (r8) ?_
    refine ev_invSN 7 (Mc := mX11_partOf) ⟨lk910, lk75, hdX11_partOf, (Nat.le_of_ble_eq_true rfl), (Nat.le_of_ble_eq_true rfl)⟩ lk908 lk909 dX2_wholeCost_4 (po) rfl (Nat.le_of_ble_eq_true rfl) rfl rfl ?_
    refine ev_istore_n 8 (lv' := [_, _, some (.int _), _, _]) dX2_wholeCost_7 (Nat.le_of_ble_eq_true rfl) rfl rfl ?_
    refine ev_aload_n 9 dX2_wholeCost_8 rfl rfl ?_
    refine ev_getP 12 mm_cl2 (j := 2) (Nat.le_of_ble_eq_true rfl) dX2_wholeCost_9 lk371 (fun _ _ _ => rfl) (hC.1 4 _ rfl) (a := (x + 17)) (hC.2.2.2 2 _ _ _ rfl) rfl ?_
    refine ev_getP 15 mm_cl9 (j := 1) (Nat.le_of_ble_eq_true rfl) dX2_wholeCost_12 lk244 (fun _ _ _ => rfl) (hV.1 17 _ rfl) (a := (x + 18)) (hV.2.2 21 _ _ _ rfl) rfl ?_
    refine ev_astore 17 (lv' := [_, _, _, some (.int _), _]) dX2_wholeCost_15 (Nat.le_of_ble_eq_true rfl) rfl rfl ?_
    refine ev_aload_n 18 dX2_wholeCost_17 rfl rfl ?_
    refine ev_getP 21 mm_cl2 (j := 2) (Nat.le_of_ble_eq_true rfl) dX2_wholeCost_18 lk371 (fun _ _ _ => rfl) (hC.1 4 _ rfl) (a := (x + 17)) (hC.2.2.2 2 _ _ _ rfl) rfl ?_
    refine ev_aload_n 22 dX2_wholeCost_21 rfl rfl ?_
    refine ev_getP 25 mm_cl2 (j := 6) (Nat.le_of_ble_eq_true rfl) dX2_wholeCost_22 lk377 (fun _ _ _ => rfl) (hC.1 4 _ rfl) (a := (o + 11)) (hC.2.2.1 8 _ _ _ rfl) rfl ?_
    refine ev_aload_n 26 dX2_wholeCost_25 rfl rfl ?_
    refine ev_getP 29 mm_cl2 (j := 7) (Nat.le_of_ble_eq_true rfl) dX2_wholeCost_26 lk378 (fun _ _ _ => rfl) (hC.1 4 _ rfl) (a := (o + 12)) (hC.2.2.1 9 _ _ _ rfl) rfl ?_
    refine ev_iload_n 30 dX2_wholeCost_29 rfl rfl ?_
    refine ev_iload_n 31 dX2_wholeCost_30 rfl rfl ?_
    refine ev_imulN 32 dX2_wholeCost_31 rfl ?_
    refine ev_eqI (y := nI (fr)) ((by rw [← hfr])) ?_
    refine ev_iload_n 33 dX2_wholeCost_32 rfl rfl ?_
    refine ev_invVv 36 (Mc := mX9_load) ⟨lk740, lk78, hdX9_load, (Nat.le_of_ble_eq_true rfl), (Nat.le_of_ble_eq_true rfl)⟩ lk737 lk738 lk739 mm_cl9 rfl dX2_wholeCost_33 (ld) rfl (hV.1 17 _ rfl) (Nat.le_of_ble_eq_true rfl) rfl rfl ?_
    exact K
theorem cx_wc0 {sr p fr sb : Nat} {H R : Nat → Int32} (hV : lyV B P x) (hC : lyC B P x o) (hxo : x + 22 ≤ o) (hsr : sr ≤ 1) (r8 : I (o + 4) 8 = nI sr) (hsb : sb = 40 * (sr + 1)) (hp : p < 4) (hfr : fr = p * sb) (hH : ∀ i, i < 160 → I (o + 12) (fr + i) = H i) (hR : ∀ i, i < sb → I (o + 11) (fr + i) = R i) :
    ∃ (I' : mm_TI) (J' : mm_TJ), WCf x I I' J J' ∧ Ct g mX2_wholeCost [.ref (o + 4), .int (nI p), .int (nI 0)] B I J P (some (.long (sp_pit H R sb (1 = 1)).1), B, I', J', P) := by
  obtain ⟨I1, a1, a2, a3, a4, K⟩ := lx_wc (g := g) (J := J) (w := 0) hV hC hxo hsr r8 hsb hp hfr hH hR
  obtain ⟨A', fp⟩ := cx_X9_findPitch (g := g) (J := J) (w := 1) (pt := x + 18) hV (hV.1 18 _ rfl) (by omega) (show sb ≤ 80 by omega) a1 a2 a3 (by omega)
  generalize hI2 : va_up (va_up I1 (x + 7) A') (x + 18) (va_up (va_up (I1 (x + 18)) 0 (sp_pit H R sb (1 = 1)).2.1) 1 (sp_pit H R sb (1 = 1)).2.2) = I2 at fp
  generalize hJ2 : va_up J (x + 18) (va_up (J (x + 18)) 7 (sp_pit H R sb (1 = 1)).1) = J2 at fp
  obtain ⟨I3, J3, wp, w1, w2, w3, w4, w5⟩ := cx_X8_wipe (g := g) (I := I2) (J := J2) hV
  have v7 : J3 (x + 18) 7 = (sp_pit H R sb (1 = 1)).1 := by rw [w5 _ (by omega) (by omega), ← hJ2, va_up_s, va_up_s]
  have co := ct_costOf (g := g) (I := I3) (J := J3) (P := P) (p := x + 18) (w := 0) (hV.1 18 _ rfl) (by omega)
  rw [show 7 + 0 = 7 from rfl, v7] at co
  refine ⟨I3, J3, ⟨w1, w3, w4, fun q hq => ?_, fun q hq => ?_⟩, ?_⟩
  · rw [w2 q (by omega), ← hI2, va_up_n _ _ (by omega), va_up_n _ _ (by omega), a4 q (by omega) (by omega) (by omega)]
  · rw [w5 q (by omega) (by omega), ← hJ2, va_up_n _ _ (by omega)]
  · refine K _ ?_
    refine ev_iload_n 37 dX2_wholeCost_36 rfl rfl ?_
    refine ev_if_neN 40 53 dX2_wholeCost_37 (by decide) (by omega) rfl (fun hx => absurd ((by omega)) hx) (fun hbr => ?_)
    refine ev_aload_n 41 dX2_wholeCost_40 rfl rfl ?_
    refine ev_getP 44 mm_cl2 (j := 2) (Nat.le_of_ble_eq_true rfl) dX2_wholeCost_41 lk371 (fun _ _ _ => rfl) (hC.1 4 _ rfl) (a := (x + 17)) (hC.2.2.2 2 _ _ _ rfl) rfl ?_
    refine ev_iconstN 45 1 dX2_wholeCost_44 rfl ?_
    refine ev_aload 47 dX2_wholeCost_45 rfl rfl ?_
    refine ev_invVv 50 (Mc := mX9_findPitch) ⟨lk745, lk78, hdX9_findPitch, (Nat.le_of_ble_eq_true rfl), (Nat.le_of_ble_eq_true rfl)⟩ lk742 lk743 lk744 mm_cl9 rfl dX2_wholeCost_47 (fp) rfl (hV.1 17 _ rfl) (Nat.le_of_ble_eq_true rfl) rfl rfl ?_
    refine ev_goto 91 dX2_wholeCost_50 (by decide) ?_
    refine ev_aload_n 92 dX2_wholeCost_91 rfl rfl ?_
    refine ev_getP 95 mm_cl2 (j := 1) (Nat.le_of_ble_eq_true rfl) dX2_wholeCost_92 lk370 (fun _ _ _ => rfl) (hC.1 4 _ rfl) (a := (x + 4)) (hC.2.2.2 1 _ _ _ rfl) rfl ?_
    refine ev_invVv 98 (Mc := mX8_wipe) ⟨lk851, lk77, hdX8_wipe, (Nat.le_of_ble_eq_true rfl), (Nat.le_of_ble_eq_true rfl)⟩ lk848 lk849 lk850 mm_cl8 rfl dX2_wholeCost_95 (wp) rfl (hV.1 4 _ rfl) (Nat.le_of_ble_eq_true rfl) rfl rfl ?_
    refine ev_aload 100 dX2_wholeCost_98 rfl rfl ?_
    refine ev_iload_n 101 dX2_wholeCost_100 rfl rfl ?_
    refine ev_invV 104 (Mc := mX7_costOf) ⟨lk914, lk79, hdX7_costOf, (Nat.le_of_ble_eq_true rfl), (Nat.le_of_ble_eq_true rfl)⟩ lk911 lk912 lk913 mm_cl7 rfl dX2_wholeCost_101 (co) rfl (hV.1 18 _ rfl) (Nat.le_of_ble_eq_true rfl) rfl rfl ?_
    exact ev_lret dX2_wholeCost_104 rfl (rfl)
theorem cx_wc1 {sr p fr sb L pp : Nat} {H R : Nat → Int32} {z : Int} {j a b c d : Nat} (hV : lyV B P x) (hC : lyC B P x o) (hG : ly_G g B) (hc : st_c g I) (hgx : ∀ i, i < 3 → g.2.2 i < x) (hxo : x + 22 ≤ o) (hsr : sr ≤ 1) (r8 : I (o + 4) 8 = nI sr) (hsb : sb = 40 * (sr + 1)) (hp : p < 4) (hfr : fr = p * sb) (hH : ∀ i, i < 160 → I (o + 12) (fr + i) = H i) (hR : ∀ i, i < sb → I (o + 11) (fr + i) = R i)
    (hPa : P (o + 6) p = some (o + 7 + p)) (hL0 : I (o + 7 + p) 0 = nI L) (hp0 : I (o + 7 + p) 1 = nI pp) (hL : 20 ≤ L) (hL2 : L ≤ 147) (hzb : sp_zb (sp_hz (sp_U H R L (nI pp)) sb)) (hres : sp_pul sb (sp_hz (sp_U H R L (nI pp)) sb) (1 = 1) = (some (z, j), some (a, b), some (c, d))) :
    ∃ (I' : mm_TI) (J' : mm_TJ), WCf x I I' J J' ∧ Ct g mX2_wholeCost [.ref (o + 4), .int (nI p), .int (nI 1)] B I J P (some (.long (Int64.ofInt z)), B, I', J', P) := by
  obtain ⟨I1, a1, a2, a3, a4, K⟩ := lx_wc (g := g) (J := J) (w := 1) hV hC hxo hsr r8 hsb hp hfr hH hR
  have tp := lyC_pt hC (show p ≤ 3 by omega)
  have g0 := hgx 0 (by decide)
  have g1 := hgx 1 (by decide)
  have g2 := hgx 2 (by decide)
  generalize hIt : va_up (va_up I1 (x + 18) (va_up (I1 (x + 18)) 0 (nI L))) (x + 18) (va_up (va_up (I1 (x + 18)) 0 (nI L)) 1 (nI pp)) = It
  have gt : ∀ q, q ≠ x + 18 → It q = I1 q := fun q hq => by rw [← hIt, va_up_n _ _ hq, va_up_n _ _ hq]
  have g18 : It (x + 18) = va_up (va_up (I1 (x + 18)) 0 (nI L)) 1 (nI pp) := by rw [← hIt, va_up_s]
  have stt : st_c g It := by
    refine st_c_lo (x := x) hc hgx (fun q hq => ?_)
    rw [gt q (by omega), a4 q (by omega) (by omega) (by omega)]
  obtain ⟨I2, J2, fp, b1, b2, b3, b4, b5⟩ := cx_X9_findPulses (g := g) (J := J) (I := It) (w := 1) (pt := x + 18) (sb := sb) (L := L) (p := nI pp) hV hG stt hgx (hV.1 18 _ rfl) (by omega) (by omega) (by omega) (by omega) (by rw [gt _ (by omega)]; exact a1) (by rw [g18, va_up_s]) (by rw [g18, va_up_n _ _ (by omega), va_up_s]) hL hL2 (fun n hn => by rw [gt _ (by omega)]; exact a2 n hn) (fun n hn => by rw [gt _ (by omega)]; exact a3 n hn) (by omega) hzb hres
  obtain ⟨I3, J3, wp, w1, w2, w3, w4, w5⟩ := cx_X8_wipe (g := g) (I := I2) (J := J2) hV
  have v7 : J3 (x + 18) 8 = Int64.ofInt z := by rw [w5 _ (by omega) (by omega), b2, va_up_s]
  have co := ct_costOf (g := g) (I := I3) (J := J3) (P := P) (p := x + 18) (w := 1) (hV.1 18 _ rfl) (by omega)
  rw [show 7 + 1 = 8 from rfl, v7] at co
  have hl1 : I1 (o + 7 + p) 0 = nI L := by rw [a4 _ (by omega) (by omega) (by omega)]; exact hL0
  have hp1 : va_up I1 (x + 18) (va_up (I1 (x + 18)) 0 (nI L)) (o + 7 + p) 1 = nI pp := by rw [va_up_n _ _ (by omega), a4 _ (by omega) (by omega) (by omega)]; exact hp0
  refine ⟨I3, J3, ⟨w1, w3, w4, fun q hq => ?_, fun q hq => ?_⟩, ?_⟩
  · rw [w2 q (by omega), b4 q (by omega) (by omega) (by omega) (by omega) (by omega) (by omega), gt q (by omega), a4 q (by omega) (by omega) (by omega)]
  · rw [w5 q (by omega) (by omega), b5 q (by omega) (by omega)]
  · refine K _ ?_
    refine ev_iload_n 37 dX2_wholeCost_36 rfl rfl ?_
    refine ev_if_neN 40 53 dX2_wholeCost_37 (by decide) (by omega) rfl (fun hbr => ?_) (fun hx => absurd hx ((by omega)))
    refine ev_aload 55 dX2_wholeCost_53 rfl rfl ?_
    refine ev_aload_n 56 dX2_wholeCost_55 rfl rfl ?_
    refine ev_getP 59 mm_cl2 (j := 5) (Nat.le_of_ble_eq_true rfl) dX2_wholeCost_56 lk375 (fun _ _ _ => rfl) (hC.1 4 _ rfl) (a := (o + 6)) (hC.2.2.1 7 _ _ _ rfl) rfl ?_
    refine ev_iload_n 60 dX2_wholeCost_59 rfl rfl ?_
    refine ev_aald 61 _ 7 dX2_wholeCost_60 (hC.1 6 _ rfl) rfl (by have hNN := hC.2.1 6 _ rfl; omega) rfl ?_
    refine ev_eqR (a := (o + 7 + p)) (hPa) ?_
    refine ev_getI 64 mm_cl7 (j := 0) (Nat.le_of_ble_eq_true rfl) dX2_wholeCost_61 lk200 (fun _ _ _ => rfl) tp rfl ?_
    refine ev_eqI (y := nI (L)) (hl1) ?_
    refine ev_putI 67 mm_cl7 (j := 0) (Nat.le_of_ble_eq_true rfl) dX2_wholeCost_64 lk200 rfl (fun _ _ _ => rfl) rfl rfl (hV.1 18 _ rfl) rfl ?_
    refine ev_aload 69 dX2_wholeCost_67 rfl rfl ?_
    refine ev_aload_n 70 dX2_wholeCost_69 rfl rfl ?_
    refine ev_getP 73 mm_cl2 (j := 5) (Nat.le_of_ble_eq_true rfl) dX2_wholeCost_70 lk375 (fun _ _ _ => rfl) (hC.1 4 _ rfl) (a := (o + 6)) (hC.2.2.1 7 _ _ _ rfl) rfl ?_
    refine ev_iload_n 74 dX2_wholeCost_73 rfl rfl ?_
    refine ev_aald 75 _ 7 dX2_wholeCost_74 (hC.1 6 _ rfl) rfl (by have hNN := hC.2.1 6 _ rfl; omega) rfl ?_
    refine ev_eqR (a := (o + 7 + p)) (hPa) ?_
    refine ev_getI 78 mm_cl7 (j := 1) (Nat.le_of_ble_eq_true rfl) dX2_wholeCost_75 lk203 (fun _ _ _ => rfl) tp rfl ?_
    refine ev_eqI (y := nI (pp)) (hp1) ?_
    refine ev_putI 81 mm_cl7 (j := 1) (Nat.le_of_ble_eq_true rfl) dX2_wholeCost_78 lk203 rfl (fun _ _ _ => rfl) rfl rfl (hV.1 18 _ rfl) rfl ?_
    rw [va_up_s, hIt]
    refine ev_aload_n 82 dX2_wholeCost_81 rfl rfl ?_
    refine ev_getP 85 mm_cl2 (j := 2) (Nat.le_of_ble_eq_true rfl) dX2_wholeCost_82 lk371 (fun _ _ _ => rfl) (hC.1 4 _ rfl) (a := (x + 17)) (hC.2.2.2 2 _ _ _ rfl) rfl ?_
    refine ev_iconstN 86 1 dX2_wholeCost_85 rfl ?_
    refine ev_aload 88 dX2_wholeCost_86 rfl rfl ?_
    refine ev_invVv 91 (Mc := mX9_findPulses) ⟨lk764, lk78, hdX9_findPulses, (Nat.le_of_ble_eq_true rfl), (Nat.le_of_ble_eq_true rfl)⟩ lk761 lk762 lk763 mm_cl9 rfl dX2_wholeCost_88 (fp) rfl (hV.1 17 _ rfl) (Nat.le_of_ble_eq_true rfl) rfl rfl ?_
    refine ev_aload_n 92 dX2_wholeCost_91 rfl rfl ?_
    refine ev_getP 95 mm_cl2 (j := 1) (Nat.le_of_ble_eq_true rfl) dX2_wholeCost_92 lk370 (fun _ _ _ => rfl) (hC.1 4 _ rfl) (a := (x + 4)) (hC.2.2.2 1 _ _ _ rfl) rfl ?_
    refine ev_invVv 98 (Mc := mX8_wipe) ⟨lk851, lk77, hdX8_wipe, (Nat.le_of_ble_eq_true rfl), (Nat.le_of_ble_eq_true rfl)⟩ lk848 lk849 lk850 mm_cl8 rfl dX2_wholeCost_95 (wp) rfl (hV.1 4 _ rfl) (Nat.le_of_ble_eq_true rfl) rfl rfl ?_
    refine ev_aload 100 dX2_wholeCost_98 rfl rfl ?_
    refine ev_iload_n 101 dX2_wholeCost_100 rfl rfl ?_
    refine ev_invV 104 (Mc := mX7_costOf) ⟨lk914, lk79, hdX7_costOf, (Nat.le_of_ble_eq_true rfl), (Nat.le_of_ble_eq_true rfl)⟩ lk911 lk912 lk913 mm_cl7 rfl dX2_wholeCost_101 (co) rfl (hV.1 18 _ rfl) (Nat.le_of_ble_eq_true rfl) rfl rfl ?_
    exact ev_lret dX2_wholeCost_104 rfl (rfl)
theorem isBit_T {a : Int32} (h : nI 0 ≤ a ∧ a ≤ nI 1) : Ct g mX11_isBit [.int a] B I J P (some (.int (nI 1)), B, I, J, P) := by
  rcases in_cases (lo := 0) (hi := 1) (by omega) (by omega) a with ⟨i, h1, h2, rfl⟩ | hc
  · exact ct_isBit_t h2
  · exact absurd h hc
def CoF (p w : Int32) (b : Nat) : Prop := (b = 1 ∧ (nI 0 ≤ p ∧ p ≤ nI 3) ∧ nI 0 ≤ w ∧ w ≤ nI 1) ∨ (b = 0 ∧ ¬ ((nI 0 ≤ p ∧ p ≤ nI 3) ∧ nI 0 ≤ w ∧ w ≤ nI 1))
theorem lx_cost {c p w : Int32} {wh b : Nat} {Z : mm_Z} (hV : lyV B P x) (hb : CoF p w b) (K : Ev g mX11_cost 22 [some (.ref x), some (.int c), some (.int p), some (.int w), some (.int (nI wh)), none] [.int (nI b), .int c, .ref x, .ref x] B I J P Z) : Ct g mX11_cost [.ref x, .int c, .int p, .int w, .int (nI wh)] B I J P Z := by
  by_cases h1 : nI 0 ≤ p ∧ p ≤ nI 3
  · by_cases h2 : nI 0 ≤ w ∧ w ≤ nI 1
    · obtain rfl : b = 1 := by
        rcases hb with h | h
        · exact h.1
        · exact absurd ⟨h1, h2⟩ h.2
      refine ct_of (lv := [some (.ref x), some (.int c), some (.int p), some (.int w), some (.int (nI wh)), none]) (by decide +kernel) (Nat.le_of_ble_eq_true rfl) rfl ?_
      refine ev_aload_n 1 dX11_cost_0 rfl rfl ?_
      refine ev_aload_n 2 dX11_cost_1 rfl rfl ?_
      refine ev_iload_n 3 dX11_cost_2 rfl rfl ?_
      refine ev_iload_n 4 dX11_cost_3 rfl rfl ?_
      refine ev_invS 7 (Mc := mX11_isPart) ⟨lk885, lk75, hdX11_isPart, (Nat.le_of_ble_eq_true rfl), (Nat.le_of_ble_eq_true rfl)⟩ lk883 lk884 dX11_cost_4 (isPart_T h1) rfl (Nat.le_of_ble_eq_true rfl) rfl rfl ?_
      refine ev_if_eqN 10 21 dX11_cost_7 (by decide) (by omega) rfl (fun hx => absurd hx ((by omega))) (fun hbr => ?_)
      refine ev_iload_n 11 dX11_cost_10 rfl rfl ?_
      refine ev_invS 14 (Mc := mX11_isBit) ⟨lk299, lk75, hdX11_isBit, (Nat.le_of_ble_eq_true rfl), (Nat.le_of_ble_eq_true rfl)⟩ lk297 lk298 dX11_cost_11 (isBit_T h2) rfl (Nat.le_of_ble_eq_true rfl) rfl rfl ?_
      refine ev_if_eqN 17 21 dX11_cost_14 (by decide) (by omega) rfl (fun hx => absurd hx ((by omega))) (fun hbr => ?_)
      refine ev_iconstN 18 1 dX11_cost_17 rfl ?_
      refine ev_goto 22 dX11_cost_18 (by decide) ?_
      exact K
    · obtain rfl : b = 0 := by
        rcases hb with h | h
        · exact absurd h.2.2 h2
        · exact h.1
      refine ct_of (lv := [some (.ref x), some (.int c), some (.int p), some (.int w), some (.int (nI wh)), none]) (by decide +kernel) (Nat.le_of_ble_eq_true rfl) rfl ?_
      refine ev_aload_n 1 dX11_cost_0 rfl rfl ?_
      refine ev_aload_n 2 dX11_cost_1 rfl rfl ?_
      refine ev_iload_n 3 dX11_cost_2 rfl rfl ?_
      refine ev_iload_n 4 dX11_cost_3 rfl rfl ?_
      refine ev_invS 7 (Mc := mX11_isPart) ⟨lk885, lk75, hdX11_isPart, (Nat.le_of_ble_eq_true rfl), (Nat.le_of_ble_eq_true rfl)⟩ lk883 lk884 dX11_cost_4 (isPart_T h1) rfl (Nat.le_of_ble_eq_true rfl) rfl rfl ?_
      refine ev_if_eqN 10 21 dX11_cost_7 (by decide) (by omega) rfl (fun hx => absurd hx ((by omega))) (fun hbr => ?_)
      refine ev_iload_n 11 dX11_cost_10 rfl rfl ?_
      refine ev_invS 14 (Mc := mX11_isBit) ⟨lk299, lk75, hdX11_isBit, (Nat.le_of_ble_eq_true rfl), (Nat.le_of_ble_eq_true rfl)⟩ lk297 lk298 dX11_cost_11 (ct_isBit_f h2) rfl (Nat.le_of_ble_eq_true rfl) rfl rfl ?_
      refine ev_if_eqN 17 21 dX11_cost_14 (by decide) (by omega) rfl (fun hbr => ?_) (fun hx => absurd ((by omega)) hx)
      refine ev_iconstN 22 0 dX11_cost_21 rfl ?_
      exact K
  · obtain rfl : b = 0 := by
      rcases hb with h | h
      · exact absurd h.2.1 h1
      · exact h.1
    refine ct_of (lv := [some (.ref x), some (.int c), some (.int p), some (.int w), some (.int (nI wh)), none]) (by decide +kernel) (Nat.le_of_ble_eq_true rfl) rfl ?_
    refine ev_aload_n 1 dX11_cost_0 rfl rfl ?_
    refine ev_aload_n 2 dX11_cost_1 rfl rfl ?_
    refine ev_iload_n 3 dX11_cost_2 rfl rfl ?_
    refine ev_iload_n 4 dX11_cost_3 rfl rfl ?_
    refine ev_invS 7 (Mc := mX11_isPart) ⟨lk885, lk75, hdX11_isPart, (Nat.le_of_ble_eq_true rfl), (Nat.le_of_ble_eq_true rfl)⟩ lk883 lk884 dX11_cost_4 (ct_isPart_f h1) rfl (Nat.le_of_ble_eq_true rfl) rfl rfl ?_
    refine ev_if_eqN 10 21 dX11_cost_7 (by decide) (by omega) rfl (fun hbr => ?_) (fun hx => absurd ((by omega)) hx)
    refine ev_iconstN 22 0 dX11_cost_21 rfl ?_
    exact K
theorem cl_cost_x {c p w a : Int32} {wh b : Nat} (hV : lyV B P x) (hb : CoF p w b) (ha : ¬ a = 0) (hp : Ct g mX11_pickRefusal [.ref x, .int c, .int (nI b)] B I J P (some (.int a), B, I, J, P)) : Ct g mX11_cost [.ref x, .int c, .int p, .int w, .int (nI wh)] B I J P (some (.long (-9223372036854775808)), B, vst I x a, J, P) := by
  refine lx_cost hV hb ?_
  refine ev_invV 25 (Mc := mX11_pickRefusal) ⟨lk889, lk75, hdX11_pickRefusal, (Nat.le_of_ble_eq_true rfl), (Nat.le_of_ble_eq_true rfl)⟩ lk886 lk888 lk22 mm_cl11 rfl dX11_cost_22 (hp) rfl (hV.1 0 _ rfl) (Nat.le_of_ble_eq_true rfl) rfl rfl ?_
  refine ev_putI 28 mm_cl11 (j := 9) (Nat.le_of_ble_eq_true rfl) dX11_cost_25 lk270 rfl (fun _ _ _ => rfl) rfl rfl (hV.1 0 _ rfl) rfl ?_
  refine ev_aload_n 29 dX11_cost_28 rfl rfl ?_
  refine ev_getI 32 mm_cl11 (j := 9) (Nat.le_of_ble_eq_true rfl) dX11_cost_29 lk270 (fun _ _ _ => rfl) (hV.1 0 _ rfl) rfl ?_
  refine ev_eqI (y := (a)) ((by rw [va_up_s, va_up_s])) ?_
  refine ev_if_eq 35 39 dX11_cost_32 (by decide) rfl (fun hx => absurd hx (ha)) (fun hbr => ?_)
  refine ev_ldc2 38 dX11_cost_35 lk903 rfl ?_
  exact ev_lret dX11_cost_38 rfl (rfl)
theorem cl_cost_n {p w : Nat} (h : CA B I P x o n k) (p3 : p ≤ 3) (w1 : w ≤ 1) (r9 : I (o + 4) 9 = nI 1) (hPa : P (o + 6) p = some (o + 7 + p)) : Ct g mX11_cost [.ref x, .int (nI k), .int (nI p), .int (nI w), .int (nI 0)] B I J P (some (.long (J (o + 7 + p) (7 + w))), B, vst I x (nI 0), J, P) := by
  have pr := ct_pickRefusal_t (g := g) (J := J) (sp := 1) h (by omega) r9
  obtain ⟨hV, hC, hxo, hx, h8, hk, hP⟩ := h
  rw [if_pos rfl] at pr
  have tp := lyC_pt hC p3
  refine lx_cost hV (Or.inl ⟨rfl, in_t (by omega) p3 (by omega), in_t (by omega) w1 (by omega)⟩) ?_
  refine ev_invV 25 (Mc := mX11_pickRefusal) ⟨lk889, lk75, hdX11_pickRefusal, (Nat.le_of_ble_eq_true rfl), (Nat.le_of_ble_eq_true rfl)⟩ lk886 lk888 lk22 mm_cl11 rfl dX11_cost_22 (pr) rfl (hV.1 0 _ rfl) (Nat.le_of_ble_eq_true rfl) rfl rfl ?_
  refine ev_putI 28 mm_cl11 (j := 9) (Nat.le_of_ble_eq_true rfl) dX11_cost_25 lk270 rfl (fun _ _ _ => rfl) rfl rfl (hV.1 0 _ rfl) rfl ?_
  refine ev_aload_n 29 dX11_cost_28 rfl rfl ?_
  refine ev_getI 32 mm_cl11 (j := 9) (Nat.le_of_ble_eq_true rfl) dX11_cost_29 lk270 (fun _ _ _ => rfl) (hV.1 0 _ rfl) rfl ?_
  refine ev_eqI (y := nI (0)) ((by rw [va_up_s, va_up_s])) ?_
  refine ev_if_eqN 35 39 dX11_cost_32 (by decide) (by omega) rfl (fun hbr => ?_) (fun hx => absurd ((by omega)) hx)
  refine ev_aload_n 40 dX11_cost_39 rfl rfl ?_
  refine ev_getP 43 mm_cl11 (j := 3) (Nat.le_of_ble_eq_true rfl) dX11_cost_40 lk264 (fun _ _ _ => rfl) (hV.1 0 _ rfl) (a := (x + 19)) (hV.2.2 3 _ _ _ rfl) rfl ?_
  refine ev_iload_n 44 dX11_cost_43 rfl rfl ?_
  refine ev_aald 45 _ 0 dX11_cost_44 (hV.1 19 _ rfl) rfl (by have hNN := hV.2.1 19 _ rfl; omega) rfl ?_
  refine ev_eqR (a := o) (hP) ?_
  refine ev_getP 48 mm_cl0 (j := 3) (Nat.le_of_ble_eq_true rfl) dX11_cost_45 lk549 (fun _ _ _ => rfl) (hC.1 0 _ rfl) (a := (o + 4)) (hC.2.2.1 2 _ _ _ rfl) rfl ?_
  refine ev_astore 50 (lv' := [_, _, _, _, some (.int _), _]) dX11_cost_48 (Nat.le_of_ble_eq_true rfl) rfl rfl ?_
  refine ev_iload 52 dX11_cost_50 rfl rfl ?_
  refine ev_if_eqN 55 65 dX11_cost_52 (by decide) (by omega) rfl (fun hbr => ?_) (fun hx => absurd ((by omega)) hx)
  refine ev_aload 67 dX11_cost_65 rfl rfl ?_
  refine ev_getP 70 mm_cl2 (j := 5) (Nat.le_of_ble_eq_true rfl) dX11_cost_67 lk376 (fun _ _ _ => rfl) (hC.1 4 _ rfl) (a := (o + 6)) (hC.2.2.1 7 _ _ _ rfl) rfl ?_
  refine ev_iload_n 71 dX11_cost_70 rfl rfl ?_
  refine ev_aald 72 _ 7 dX11_cost_71 (hC.1 6 _ rfl) rfl (by have hNN := hC.2.1 6 _ rfl; omega) rfl ?_
  refine ev_eqR (a := (o + 7 + p)) (hPa) ?_
  refine ev_iload_n 73 dX11_cost_72 rfl rfl ?_
  refine ev_invV 76 (Mc := mX7_costOf) ⟨lk914, lk79, hdX7_costOf, (Nat.le_of_ble_eq_true rfl), (Nat.le_of_ble_eq_true rfl)⟩ lk915 lk912 lk913 mm_cl7 rfl dX11_cost_73 (ct_costOf tp w1) rfl tp (Nat.le_of_ble_eq_true rfl) rfl rfl ?_
  exact ev_lret dX11_cost_76 rfl (rfl)
theorem cl_cost_w {p w : Nat} {v : Int64} {I1 : mm_TI} {J1 : mm_TJ} (h : CA B I P x o n k) (p3 : p ≤ 3) (w1 : w ≤ 1) (r9 : I (o + 4) 9 = nI 1) (wc : Ct g mX2_wholeCost [.ref (o + 4), .int (nI p), .int (nI w)] B (vst I x (nI 0)) J P (some (.long v), B, I1, J1, P)) : Ct g mX11_cost [.ref x, .int (nI k), .int (nI p), .int (nI w), .int (nI 1)] B I J P (some (.long v), B, I1, J1, P) := by
  have pr := ct_pickRefusal_t (g := g) (J := J) (sp := 1) h (by omega) r9
  obtain ⟨hV, hC, hxo, hx, h8, hk, hP⟩ := h
  rw [if_pos rfl] at pr
  refine lx_cost hV (Or.inl ⟨rfl, in_t (by omega) p3 (by omega), in_t (by omega) w1 (by omega)⟩) ?_
  refine ev_invV 25 (Mc := mX11_pickRefusal) ⟨lk889, lk75, hdX11_pickRefusal, (Nat.le_of_ble_eq_true rfl), (Nat.le_of_ble_eq_true rfl)⟩ lk886 lk888 lk22 mm_cl11 rfl dX11_cost_22 (pr) rfl (hV.1 0 _ rfl) (Nat.le_of_ble_eq_true rfl) rfl rfl ?_
  refine ev_putI 28 mm_cl11 (j := 9) (Nat.le_of_ble_eq_true rfl) dX11_cost_25 lk270 rfl (fun _ _ _ => rfl) rfl rfl (hV.1 0 _ rfl) rfl ?_
  refine ev_aload_n 29 dX11_cost_28 rfl rfl ?_
  refine ev_getI 32 mm_cl11 (j := 9) (Nat.le_of_ble_eq_true rfl) dX11_cost_29 lk270 (fun _ _ _ => rfl) (hV.1 0 _ rfl) rfl ?_
  refine ev_eqI (y := nI (0)) ((by rw [va_up_s, va_up_s])) ?_
  refine ev_if_eqN 35 39 dX11_cost_32 (by decide) (by omega) rfl (fun hbr => ?_) (fun hx => absurd ((by omega)) hx)
  refine ev_aload_n 40 dX11_cost_39 rfl rfl ?_
  refine ev_getP 43 mm_cl11 (j := 3) (Nat.le_of_ble_eq_true rfl) dX11_cost_40 lk264 (fun _ _ _ => rfl) (hV.1 0 _ rfl) (a := (x + 19)) (hV.2.2 3 _ _ _ rfl) rfl ?_
  refine ev_iload_n 44 dX11_cost_43 rfl rfl ?_
  refine ev_aald 45 _ 0 dX11_cost_44 (hV.1 19 _ rfl) rfl (by have hNN := hV.2.1 19 _ rfl; omega) rfl ?_
  refine ev_eqR (a := o) (hP) ?_
  refine ev_getP 48 mm_cl0 (j := 3) (Nat.le_of_ble_eq_true rfl) dX11_cost_45 lk549 (fun _ _ _ => rfl) (hC.1 0 _ rfl) (a := (o + 4)) (hC.2.2.1 2 _ _ _ rfl) rfl ?_
  refine ev_astore 50 (lv' := [_, _, _, _, some (.int _), _]) dX11_cost_48 (Nat.le_of_ble_eq_true rfl) rfl rfl ?_
  refine ev_iload 52 dX11_cost_50 rfl rfl ?_
  refine ev_if_eqN 55 65 dX11_cost_52 (by decide) (by omega) rfl (fun hx => absurd hx ((by omega))) (fun hbr => ?_)
  refine ev_aload 57 dX11_cost_55 rfl rfl ?_
  refine ev_iload_n 58 dX11_cost_57 rfl rfl ?_
  refine ev_iload_n 59 dX11_cost_58 rfl rfl ?_
  refine ev_invV 62 (Mc := mX2_wholeCost) ⟨lk907, lk83, hdX2_wholeCost, (Nat.le_of_ble_eq_true rfl), (Nat.le_of_ble_eq_true rfl)⟩ lk904 lk905 lk906 mm_cl2 rfl dX11_cost_59 (wc) rfl (hC.1 4 _ rfl) (Nat.le_of_ble_eq_true rfl) rfl rfl ?_
  refine ev_goto 76 dX11_cost_62 (by decide) ?_
  exact ev_lret dX11_cost_76 rfl (rfl)
theorem ml_cost_f {c p w : Int32} {wh : Nat} (hM : lyM B P m) (hn : I m 0 = nI n) (hc : ¬ (0 ≤ c ∧ c < nI n)) : Ct g mX12_cost [.ref m, .int c, .int p, .int w, .int (nI wh)] B I J P (some (.long (-9223372036854775808)), B, mo_st I m (-1), J, P) := by
  refine ct_of (lv := [some (.ref m), some (.int c), some (.int p), some (.int w), some (.int (nI wh))]) (by decide +kernel) (Nat.le_of_ble_eq_true rfl) rfl ?_
  refine ev_aload_n 1 dX12_cost_0 rfl rfl ?_
  refine ev_iload_n 2 dX12_cost_1 rfl rfl ?_
  refine ev_invV 5 (Mc := mX12_isCoder) ⟨lk1552, lk80, hdX12_isCoder, (Nat.le_of_ble_eq_true rfl), (Nat.le_of_ble_eq_true rfl)⟩ lk1549 lk1551 lk40 mm_cl12 rfl dX12_cost_2 (ct_X12_isCoder_f hM (by rw [hn]; exact hc)) rfl (hM.1 0 _ rfl) (Nat.le_of_ble_eq_true rfl) rfl rfl ?_
  refine ev_if_eqN 8 26 dX12_cost_5 (by decide) (by omega) rfl (fun hbr => ?_) (fun hx => absurd ((by omega)) hx)
  refine ev_aload_n 27 dX12_cost_26 rfl rfl ?_
  refine ev_iconst 28 (v := -1) dX12_cost_27 (by decide +kernel) rfl ?_
  refine ev_putI 31 mm_cl12 (j := 1) (Nat.le_of_ble_eq_true rfl) dX12_cost_28 lk1286 rfl (fun _ _ _ => rfl) rfl rfl (hM.1 0 _ rfl) rfl ?_
  refine ev_ldc2 34 dX12_cost_31 lk1720 rfl ?_
  exact ev_lret dX12_cost_34 rfl (rfl)
theorem ml_cost_b {p w : Int32} {wh : Nat} (h : MA B I P m n k) (hb : ¬ ((nI 0 ≤ p ∧ p ≤ nI 3) ∧ nI 0 ≤ w ∧ w ≤ nI 1)) : Ct g mX12_cost [.ref m, .int (nI k), .int p, .int w, .int (nI wh)] B I J P (some (.long (-9223372036854775808)), B, mo_st I m (-1), J, P) := by
  obtain ⟨hM, hn, h8, hk⟩ := h
  by_cases h1 : nI 0 ≤ p ∧ p ≤ nI 3
  · refine ct_of (lv := [some (.ref m), some (.int (nI k)), some (.int p), some (.int w), some (.int (nI wh))]) (by decide +kernel) (Nat.le_of_ble_eq_true rfl) rfl ?_
    refine ev_aload_n 1 dX12_cost_0 rfl rfl ?_
    refine ev_iload_n 2 dX12_cost_1 rfl rfl ?_
    refine ev_invV 5 (Mc := mX12_isCoder) ⟨lk1552, lk80, hdX12_isCoder, (Nat.le_of_ble_eq_true rfl), (Nat.le_of_ble_eq_true rfl)⟩ lk1549 lk1551 lk40 mm_cl12 rfl dX12_cost_2 (ct_X12_isCoder_t hM hn h8 hk) rfl (hM.1 0 _ rfl) (Nat.le_of_ble_eq_true rfl) rfl rfl ?_
    refine ev_if_eqN 8 26 dX12_cost_5 (by decide) (by omega) rfl (fun hx => absurd hx ((by omega))) (fun hbr => ?_)
    refine ev_iload_n 9 dX12_cost_8 rfl rfl ?_
    refine ev_iconstN 10 0 dX12_cost_9 rfl ?_
    refine ev_iconstN 11 3 dX12_cost_10 rfl ?_
    refine ev_invS 14 (Mc := mX12_in) ⟨lk1536, lk80, hdX12_in, (Nat.le_of_ble_eq_true rfl), (Nat.le_of_ble_eq_true rfl)⟩ lk1534 lk1535 dX12_cost_11 (ct_X12_in_t h1) rfl (Nat.le_of_ble_eq_true rfl) rfl rfl ?_
    refine ev_if_eqN 17 26 dX12_cost_14 (by decide) (by omega) rfl (fun hx => absurd hx ((by omega))) (fun hbr => ?_)
    refine ev_iload_n 18 dX12_cost_17 rfl rfl ?_
    refine ev_iconstN 19 0 dX12_cost_18 rfl ?_
    refine ev_iconstN 20 1 dX12_cost_19 rfl ?_
    refine ev_invS 23 (Mc := mX12_in) ⟨lk1536, lk80, hdX12_in, (Nat.le_of_ble_eq_true rfl), (Nat.le_of_ble_eq_true rfl)⟩ lk1534 lk1535 dX12_cost_20 (ct_X12_in_f (fun h2 => hb ⟨h1, h2⟩)) rfl (Nat.le_of_ble_eq_true rfl) rfl rfl ?_
    refine ev_if_neN 26 35 dX12_cost_23 (by decide) (by omega) rfl (fun hx => absurd ((by omega)) hx) (fun hbr => ?_)
    refine ev_aload_n 27 dX12_cost_26 rfl rfl ?_
    refine ev_iconst 28 (v := -1) dX12_cost_27 (by decide +kernel) rfl ?_
    refine ev_putI 31 mm_cl12 (j := 1) (Nat.le_of_ble_eq_true rfl) dX12_cost_28 lk1286 rfl (fun _ _ _ => rfl) rfl rfl (hM.1 0 _ rfl) rfl ?_
    refine ev_ldc2 34 dX12_cost_31 lk1720 rfl ?_
    exact ev_lret dX12_cost_34 rfl (rfl)
  · refine ct_of (lv := [some (.ref m), some (.int (nI k)), some (.int p), some (.int w), some (.int (nI wh))]) (by decide +kernel) (Nat.le_of_ble_eq_true rfl) rfl ?_
    refine ev_aload_n 1 dX12_cost_0 rfl rfl ?_
    refine ev_iload_n 2 dX12_cost_1 rfl rfl ?_
    refine ev_invV 5 (Mc := mX12_isCoder) ⟨lk1552, lk80, hdX12_isCoder, (Nat.le_of_ble_eq_true rfl), (Nat.le_of_ble_eq_true rfl)⟩ lk1549 lk1551 lk40 mm_cl12 rfl dX12_cost_2 (ct_X12_isCoder_t hM hn h8 hk) rfl (hM.1 0 _ rfl) (Nat.le_of_ble_eq_true rfl) rfl rfl ?_
    refine ev_if_eqN 8 26 dX12_cost_5 (by decide) (by omega) rfl (fun hx => absurd hx ((by omega))) (fun hbr => ?_)
    refine ev_iload_n 9 dX12_cost_8 rfl rfl ?_
    refine ev_iconstN 10 0 dX12_cost_9 rfl ?_
    refine ev_iconstN 11 3 dX12_cost_10 rfl ?_
    refine ev_invS 14 (Mc := mX12_in) ⟨lk1536, lk80, hdX12_in, (Nat.le_of_ble_eq_true rfl), (Nat.le_of_ble_eq_true rfl)⟩ lk1534 lk1535 dX12_cost_11 (ct_X12_in_f h1) rfl (Nat.le_of_ble_eq_true rfl) rfl rfl ?_
    refine ev_if_eqN 17 26 dX12_cost_14 (by decide) (by omega) rfl (fun hbr => ?_) (fun hx => absurd ((by omega)) hx)
    refine ev_aload_n 27 dX12_cost_26 rfl rfl ?_
    refine ev_iconst 28 (v := -1) dX12_cost_27 (by decide +kernel) rfl ?_
    refine ev_putI 31 mm_cl12 (j := 1) (Nat.le_of_ble_eq_true rfl) dX12_cost_28 lk1286 rfl (fun _ _ _ => rfl) rfl rfl (hM.1 0 _ rfl) rfl ?_
    refine ev_ldc2 34 dX12_cost_31 lk1720 rfl ?_
    exact ev_lret dX12_cost_34 rfl (rfl)
theorem ml_cost_s {p w wh so : Nat} (h : MA B I P m n k) (p3 : p ≤ 3) (w1 : w ≤ 1) (r : I (m + 20) k = nI so) (hs : so ≠ 1) (hs2 : so ≤ 2) : Ct g mX12_cost [.ref m, .int (nI k), .int (nI p), .int (nI w), .int (nI wh)] B I J P (some (.long (-9223372036854775808)), B, mo_st I m (-2), J, P) := by
  obtain ⟨hM, hn, h8, hk⟩ := h
  refine ct_of (lv := [some (.ref m), some (.int (nI k)), some (.int (nI p)), some (.int (nI w)), some (.int (nI wh))]) (by decide +kernel) (Nat.le_of_ble_eq_true rfl) rfl ?_
  refine ev_aload_n 1 dX12_cost_0 rfl rfl ?_
  refine ev_iload_n 2 dX12_cost_1 rfl rfl ?_
  refine ev_invV 5 (Mc := mX12_isCoder) ⟨lk1552, lk80, hdX12_isCoder, (Nat.le_of_ble_eq_true rfl), (Nat.le_of_ble_eq_true rfl)⟩ lk1549 lk1551 lk40 mm_cl12 rfl dX12_cost_2 (ct_X12_isCoder_t hM hn h8 hk) rfl (hM.1 0 _ rfl) (Nat.le_of_ble_eq_true rfl) rfl rfl ?_
  refine ev_if_eqN 8 26 dX12_cost_5 (by decide) (by omega) rfl (fun hx => absurd hx ((by omega))) (fun hbr => ?_)
  refine ev_iload_n 9 dX12_cost_8 rfl rfl ?_
  refine ev_iconstN 10 0 dX12_cost_9 rfl ?_
  refine ev_iconstN 11 3 dX12_cost_10 rfl ?_
  refine ev_invS 14 (Mc := mX12_in) ⟨lk1536, lk80, hdX12_in, (Nat.le_of_ble_eq_true rfl), (Nat.le_of_ble_eq_true rfl)⟩ lk1534 lk1535 dX12_cost_11 (ct_X12_in_t (in_t (by omega) p3 (by omega))) rfl (Nat.le_of_ble_eq_true rfl) rfl rfl ?_
  refine ev_if_eqN 17 26 dX12_cost_14 (by decide) (by omega) rfl (fun hx => absurd hx ((by omega))) (fun hbr => ?_)
  refine ev_iload_n 18 dX12_cost_17 rfl rfl ?_
  refine ev_iconstN 19 0 dX12_cost_18 rfl ?_
  refine ev_iconstN 20 1 dX12_cost_19 rfl ?_
  refine ev_invS 23 (Mc := mX12_in) ⟨lk1536, lk80, hdX12_in, (Nat.le_of_ble_eq_true rfl), (Nat.le_of_ble_eq_true rfl)⟩ lk1534 lk1535 dX12_cost_20 (ct_X12_in_t (in_t (by omega) w1 (by omega))) rfl (Nat.le_of_ble_eq_true rfl) rfl rfl ?_
  refine ev_if_neN 26 35 dX12_cost_23 (by decide) (by omega) rfl (fun hbr => ?_) (fun hx => absurd hx ((by omega)))
  refine ev_aload_n 36 dX12_cost_35 rfl rfl ?_
  refine ev_getP 39 mm_cl12 (j := 25) (Nat.le_of_ble_eq_true rfl) dX12_cost_36 lk1310 (fun _ _ _ => rfl) (hM.1 0 _ rfl) (a := (m + 20)) (hM.2.2 19 _ _ _ rfl) rfl ?_
  refine ev_iload_n 40 dX12_cost_39 rfl rfl ?_
  refine ev_iald 41 _ dX12_cost_40 (hM.1 20 _ rfl) rfl (by have hNN := hM.2.1 20 _ rfl; omega) rfl ?_
  refine ev_eqI (y := nI (so)) (r) ?_
  refine ev_iconstN 42 1 dX12_cost_41 rfl ?_
  refine ev_icmp_eqN 45 55 dX12_cost_42 (by decide) (by omega) (by omega) rfl (fun hx => absurd hx ((by omega))) (fun hbr => ?_)
  refine ev_aload_n 46 dX12_cost_45 rfl rfl ?_
  refine ev_bipush 48 (v := -2) dX12_cost_46 (by decide +kernel) rfl ?_
  refine ev_putI 51 mm_cl12 (j := 1) (Nat.le_of_ble_eq_true rfl) dX12_cost_48 lk1286 rfl (fun _ _ _ => rfl) rfl rfl (hM.1 0 _ rfl) rfl ?_
  refine ev_ldc2 54 dX12_cost_51 lk1720 rfl ?_
  exact ev_lret dX12_cost_54 rfl (rfl)
theorem ml_cost_n {p w : Nat} (h : MA B I P m n k) (p3 : p ≤ 3) (w1 : w ≤ 1) (r : I (m + 20) k = nI 1) : Ct g mX12_cost [.ref m, .int (nI k), .int (nI p), .int (nI w), .int (nI 0)] B I J P (some (.long (J (m + 23 + w) (4 * k + p))), B, mo_st I m (nI 0), J, P) := by
  obtain ⟨hM, hn, h8, hk⟩ := h
  rcases (show w = 0 ∨ w = 1 by omega) with rfl | rfl
  · refine ct_of (lv := [some (.ref m), some (.int (nI k)), some (.int (nI p)), some (.int (nI 0)), some (.int (nI 0))]) (by decide +kernel) (Nat.le_of_ble_eq_true rfl) rfl ?_
    refine ev_aload_n 1 dX12_cost_0 rfl rfl ?_
    refine ev_iload_n 2 dX12_cost_1 rfl rfl ?_
    refine ev_invV 5 (Mc := mX12_isCoder) ⟨lk1552, lk80, hdX12_isCoder, (Nat.le_of_ble_eq_true rfl), (Nat.le_of_ble_eq_true rfl)⟩ lk1549 lk1551 lk40 mm_cl12 rfl dX12_cost_2 (ct_X12_isCoder_t hM hn h8 hk) rfl (hM.1 0 _ rfl) (Nat.le_of_ble_eq_true rfl) rfl rfl ?_
    refine ev_if_eqN 8 26 dX12_cost_5 (by decide) (by omega) rfl (fun hx => absurd hx ((by omega))) (fun hbr => ?_)
    refine ev_iload_n 9 dX12_cost_8 rfl rfl ?_
    refine ev_iconstN 10 0 dX12_cost_9 rfl ?_
    refine ev_iconstN 11 3 dX12_cost_10 rfl ?_
    refine ev_invS 14 (Mc := mX12_in) ⟨lk1536, lk80, hdX12_in, (Nat.le_of_ble_eq_true rfl), (Nat.le_of_ble_eq_true rfl)⟩ lk1534 lk1535 dX12_cost_11 (ct_X12_in_t (in_t (by omega) p3 (by omega))) rfl (Nat.le_of_ble_eq_true rfl) rfl rfl ?_
    refine ev_if_eqN 17 26 dX12_cost_14 (by decide) (by omega) rfl (fun hx => absurd hx ((by omega))) (fun hbr => ?_)
    refine ev_iload_n 18 dX12_cost_17 rfl rfl ?_
    refine ev_iconstN 19 0 dX12_cost_18 rfl ?_
    refine ev_iconstN 20 1 dX12_cost_19 rfl ?_
    refine ev_invS 23 (Mc := mX12_in) ⟨lk1536, lk80, hdX12_in, (Nat.le_of_ble_eq_true rfl), (Nat.le_of_ble_eq_true rfl)⟩ lk1534 lk1535 dX12_cost_20 (ct_X12_in_t (in_t (by omega) w1 (by omega))) rfl (Nat.le_of_ble_eq_true rfl) rfl rfl ?_
    refine ev_if_neN 26 35 dX12_cost_23 (by decide) (by omega) rfl (fun hbr => ?_) (fun hx => absurd hx ((by omega)))
    refine ev_aload_n 36 dX12_cost_35 rfl rfl ?_
    refine ev_getP 39 mm_cl12 (j := 25) (Nat.le_of_ble_eq_true rfl) dX12_cost_36 lk1310 (fun _ _ _ => rfl) (hM.1 0 _ rfl) (a := (m + 20)) (hM.2.2 19 _ _ _ rfl) rfl ?_
    refine ev_iload_n 40 dX12_cost_39 rfl rfl ?_
    refine ev_iald 41 _ dX12_cost_40 (hM.1 20 _ rfl) rfl (by have hNN := hM.2.1 20 _ rfl; omega) rfl ?_
    refine ev_eqI (y := nI (1)) (r) ?_
    refine ev_iconstN 42 1 dX12_cost_41 rfl ?_
    refine ev_icmp_eqN 45 55 dX12_cost_42 (by decide) (by omega) (by omega) rfl (fun hbr => ?_) (fun hx => absurd ((by omega)) hx)
    refine ev_aload_n 56 dX12_cost_55 rfl rfl ?_
    refine ev_iconstN 57 0 dX12_cost_56 rfl ?_
    refine ev_putI 60 mm_cl12 (j := 1) (Nat.le_of_ble_eq_true rfl) dX12_cost_57 lk1286 rfl (fun _ _ _ => rfl) rfl rfl (hM.1 0 _ rfl) rfl ?_
    refine ev_iload 62 dX12_cost_60 rfl rfl ?_
    refine ev_if_neN 65 93 dX12_cost_62 (by decide) (by omega) rfl (fun hx => absurd ((by omega)) hx) (fun hbr => ?_)
    refine ev_iload_n 66 dX12_cost_65 rfl rfl ?_
    refine ev_if_neN 69 82 dX12_cost_66 (by decide) (by omega) rfl (fun hx => absurd ((by omega)) hx) (fun hbr => ?_)
    refine ev_aload_n 70 dX12_cost_69 rfl rfl ?_
    refine ev_getP 73 mm_cl12 (j := 28) (Nat.le_of_ble_eq_true rfl) dX12_cost_70 lk1313 (fun _ _ _ => rfl) (hM.1 0 _ rfl) (a := (m + 23)) (hM.2.2 22 _ _ _ rfl) rfl ?_
    refine ev_iconstN 74 4 dX12_cost_73 rfl ?_
    refine ev_iload_n 75 dX12_cost_74 rfl rfl ?_
    refine ev_imulN 76 dX12_cost_75 rfl ?_
    refine ev_iload_n 77 dX12_cost_76 rfl rfl ?_
    refine ev_iaddN 78 dX12_cost_77 rfl ?_
    refine ev_lald 79 _ dX12_cost_78 (hM.1 23 _ rfl) rfl (by have hNN := hM.2.1 23 _ rfl; omega) rfl ?_
    refine ev_goto 92 dX12_cost_79 (by decide) ?_
    exact ev_lret dX12_cost_92 rfl (rfl)
  · refine ct_of (lv := [some (.ref m), some (.int (nI k)), some (.int (nI p)), some (.int (nI 1)), some (.int (nI 0))]) (by decide +kernel) (Nat.le_of_ble_eq_true rfl) rfl ?_
    refine ev_aload_n 1 dX12_cost_0 rfl rfl ?_
    refine ev_iload_n 2 dX12_cost_1 rfl rfl ?_
    refine ev_invV 5 (Mc := mX12_isCoder) ⟨lk1552, lk80, hdX12_isCoder, (Nat.le_of_ble_eq_true rfl), (Nat.le_of_ble_eq_true rfl)⟩ lk1549 lk1551 lk40 mm_cl12 rfl dX12_cost_2 (ct_X12_isCoder_t hM hn h8 hk) rfl (hM.1 0 _ rfl) (Nat.le_of_ble_eq_true rfl) rfl rfl ?_
    refine ev_if_eqN 8 26 dX12_cost_5 (by decide) (by omega) rfl (fun hx => absurd hx ((by omega))) (fun hbr => ?_)
    refine ev_iload_n 9 dX12_cost_8 rfl rfl ?_
    refine ev_iconstN 10 0 dX12_cost_9 rfl ?_
    refine ev_iconstN 11 3 dX12_cost_10 rfl ?_
    refine ev_invS 14 (Mc := mX12_in) ⟨lk1536, lk80, hdX12_in, (Nat.le_of_ble_eq_true rfl), (Nat.le_of_ble_eq_true rfl)⟩ lk1534 lk1535 dX12_cost_11 (ct_X12_in_t (in_t (by omega) p3 (by omega))) rfl (Nat.le_of_ble_eq_true rfl) rfl rfl ?_
    refine ev_if_eqN 17 26 dX12_cost_14 (by decide) (by omega) rfl (fun hx => absurd hx ((by omega))) (fun hbr => ?_)
    refine ev_iload_n 18 dX12_cost_17 rfl rfl ?_
    refine ev_iconstN 19 0 dX12_cost_18 rfl ?_
    refine ev_iconstN 20 1 dX12_cost_19 rfl ?_
    refine ev_invS 23 (Mc := mX12_in) ⟨lk1536, lk80, hdX12_in, (Nat.le_of_ble_eq_true rfl), (Nat.le_of_ble_eq_true rfl)⟩ lk1534 lk1535 dX12_cost_20 (ct_X12_in_t (in_t (by omega) w1 (by omega))) rfl (Nat.le_of_ble_eq_true rfl) rfl rfl ?_
    refine ev_if_neN 26 35 dX12_cost_23 (by decide) (by omega) rfl (fun hbr => ?_) (fun hx => absurd hx ((by omega)))
    refine ev_aload_n 36 dX12_cost_35 rfl rfl ?_
    refine ev_getP 39 mm_cl12 (j := 25) (Nat.le_of_ble_eq_true rfl) dX12_cost_36 lk1310 (fun _ _ _ => rfl) (hM.1 0 _ rfl) (a := (m + 20)) (hM.2.2 19 _ _ _ rfl) rfl ?_
    refine ev_iload_n 40 dX12_cost_39 rfl rfl ?_
    refine ev_iald 41 _ dX12_cost_40 (hM.1 20 _ rfl) rfl (by have hNN := hM.2.1 20 _ rfl; omega) rfl ?_
    refine ev_eqI (y := nI (1)) (r) ?_
    refine ev_iconstN 42 1 dX12_cost_41 rfl ?_
    refine ev_icmp_eqN 45 55 dX12_cost_42 (by decide) (by omega) (by omega) rfl (fun hbr => ?_) (fun hx => absurd ((by omega)) hx)
    refine ev_aload_n 56 dX12_cost_55 rfl rfl ?_
    refine ev_iconstN 57 0 dX12_cost_56 rfl ?_
    refine ev_putI 60 mm_cl12 (j := 1) (Nat.le_of_ble_eq_true rfl) dX12_cost_57 lk1286 rfl (fun _ _ _ => rfl) rfl rfl (hM.1 0 _ rfl) rfl ?_
    refine ev_iload 62 dX12_cost_60 rfl rfl ?_
    refine ev_if_neN 65 93 dX12_cost_62 (by decide) (by omega) rfl (fun hx => absurd ((by omega)) hx) (fun hbr => ?_)
    refine ev_iload_n 66 dX12_cost_65 rfl rfl ?_
    refine ev_if_neN 69 82 dX12_cost_66 (by decide) (by omega) rfl (fun hbr => ?_) (fun hx => absurd hx ((by omega)))
    refine ev_aload_n 83 dX12_cost_82 rfl rfl ?_
    refine ev_getP 86 mm_cl12 (j := 29) (Nat.le_of_ble_eq_true rfl) dX12_cost_83 lk1314 (fun _ _ _ => rfl) (hM.1 0 _ rfl) (a := (m + 24)) (hM.2.2 23 _ _ _ rfl) rfl ?_
    refine ev_iconstN 87 4 dX12_cost_86 rfl ?_
    refine ev_iload_n 88 dX12_cost_87 rfl rfl ?_
    refine ev_imulN 89 dX12_cost_88 rfl ?_
    refine ev_iload_n 90 dX12_cost_89 rfl rfl ?_
    refine ev_iaddN 91 dX12_cost_90 rfl ?_
    refine ev_lald 92 _ dX12_cost_91 (hM.1 24 _ rfl) rfl (by have hNN := hM.2.1 24 _ rfl; omega) rfl ?_
    exact ev_lret dX12_cost_92 rfl (rfl)
theorem ml_cost_0 {p sb : Nat} {v : Int64} {I1 : mm_TI} {J1 : mm_TJ} (h : MA B I P m n k) (p3 : p ≤ 3) (r : I (m + 20) k = nI 1) (r25 : I (m + 25) k = nI sb) (hp : Ct g mX12_pitch [.ref m, .int (nI k), .int (nI p), .int (nI sb), .int (nI 1)] B (mo_st I m (nI 0)) J P (none, B, I1, J1, P)) (hv : J1 m 70 = v) : Ct g mX12_cost [.ref m, .int (nI k), .int (nI p), .int (nI 0), .int (nI 1)] B I J P (some (.long v), B, I1, J1, P) := by
  obtain ⟨hM, hn, h8, hk⟩ := h
  refine ct_of (lv := [some (.ref m), some (.int (nI k)), some (.int (nI p)), some (.int (nI 0)), some (.int (nI 1))]) (by decide +kernel) (Nat.le_of_ble_eq_true rfl) rfl ?_
  refine ev_aload_n 1 dX12_cost_0 rfl rfl ?_
  refine ev_iload_n 2 dX12_cost_1 rfl rfl ?_
  refine ev_invV 5 (Mc := mX12_isCoder) ⟨lk1552, lk80, hdX12_isCoder, (Nat.le_of_ble_eq_true rfl), (Nat.le_of_ble_eq_true rfl)⟩ lk1549 lk1551 lk40 mm_cl12 rfl dX12_cost_2 (ct_X12_isCoder_t hM hn h8 hk) rfl (hM.1 0 _ rfl) (Nat.le_of_ble_eq_true rfl) rfl rfl ?_
  refine ev_if_eqN 8 26 dX12_cost_5 (by decide) (by omega) rfl (fun hx => absurd hx ((by omega))) (fun hbr => ?_)
  refine ev_iload_n 9 dX12_cost_8 rfl rfl ?_
  refine ev_iconstN 10 0 dX12_cost_9 rfl ?_
  refine ev_iconstN 11 3 dX12_cost_10 rfl ?_
  refine ev_invS 14 (Mc := mX12_in) ⟨lk1536, lk80, hdX12_in, (Nat.le_of_ble_eq_true rfl), (Nat.le_of_ble_eq_true rfl)⟩ lk1534 lk1535 dX12_cost_11 (ct_X12_in_t (in_t (by omega) p3 (by omega))) rfl (Nat.le_of_ble_eq_true rfl) rfl rfl ?_
  refine ev_if_eqN 17 26 dX12_cost_14 (by decide) (by omega) rfl (fun hx => absurd hx ((by omega))) (fun hbr => ?_)
  refine ev_iload_n 18 dX12_cost_17 rfl rfl ?_
  refine ev_iconstN 19 0 dX12_cost_18 rfl ?_
  refine ev_iconstN 20 1 dX12_cost_19 rfl ?_
  refine ev_invS 23 (Mc := mX12_in) ⟨lk1536, lk80, hdX12_in, (Nat.le_of_ble_eq_true rfl), (Nat.le_of_ble_eq_true rfl)⟩ lk1534 lk1535 dX12_cost_20 (ct_X12_in_t (in_t (by omega) (show 0 ≤ 1 by omega) (by omega))) rfl (Nat.le_of_ble_eq_true rfl) rfl rfl ?_
  refine ev_if_neN 26 35 dX12_cost_23 (by decide) (by omega) rfl (fun hbr => ?_) (fun hx => absurd hx ((by omega)))
  refine ev_aload_n 36 dX12_cost_35 rfl rfl ?_
  refine ev_getP 39 mm_cl12 (j := 25) (Nat.le_of_ble_eq_true rfl) dX12_cost_36 lk1310 (fun _ _ _ => rfl) (hM.1 0 _ rfl) (a := (m + 20)) (hM.2.2 19 _ _ _ rfl) rfl ?_
  refine ev_iload_n 40 dX12_cost_39 rfl rfl ?_
  refine ev_iald 41 _ dX12_cost_40 (hM.1 20 _ rfl) rfl (by have hNN := hM.2.1 20 _ rfl; omega) rfl ?_
  refine ev_eqI (y := nI (1)) (r) ?_
  refine ev_iconstN 42 1 dX12_cost_41 rfl ?_
  refine ev_icmp_eqN 45 55 dX12_cost_42 (by decide) (by omega) (by omega) rfl (fun hbr => ?_) (fun hx => absurd ((by omega)) hx)
  refine ev_aload_n 56 dX12_cost_55 rfl rfl ?_
  refine ev_iconstN 57 0 dX12_cost_56 rfl ?_
  refine ev_putI 60 mm_cl12 (j := 1) (Nat.le_of_ble_eq_true rfl) dX12_cost_57 lk1286 rfl (fun _ _ _ => rfl) rfl rfl (hM.1 0 _ rfl) rfl ?_
  refine ev_iload 62 dX12_cost_60 rfl rfl ?_
  refine ev_if_neN 65 93 dX12_cost_62 (by decide) (by omega) rfl (fun hbr => ?_) (fun hx => absurd hx ((by omega)))
  refine ev_iload_n 94 dX12_cost_93 rfl rfl ?_
  refine ev_if_neN 97 113 dX12_cost_94 (by decide) (by omega) rfl (fun hx => absurd ((by omega)) hx) (fun hbr => ?_)
  refine ev_aload_n 98 dX12_cost_97 rfl rfl ?_
  refine ev_iload_n 99 dX12_cost_98 rfl rfl ?_
  refine ev_iload_n 100 dX12_cost_99 rfl rfl ?_
  refine ev_aload_n 101 dX12_cost_100 rfl rfl ?_
  refine ev_getP 104 mm_cl12 (j := 30) (Nat.le_of_ble_eq_true rfl) dX12_cost_101 lk1315 (fun _ _ _ => rfl) (hM.1 0 _ rfl) (a := (m + 25)) (hM.2.2 24 _ _ _ rfl) rfl ?_
  refine ev_iload_n 105 dX12_cost_104 rfl rfl ?_
  refine ev_iald 106 _ dX12_cost_105 (hM.1 25 _ rfl) rfl (by have hNN := hM.2.1 25 _ rfl; omega) rfl ?_
  refine ev_eqI (y := nI (sb)) ((by rw [va_up_n _ _ (by omega)]; exact r25)) ?_
  refine ev_iconstN 107 1 dX12_cost_106 rfl ?_
  refine ev_invVv 110 (Mc := mX12_pitch) ⟨lk1655, lk80, hdX12_pitch, (Nat.le_of_ble_eq_true rfl), (Nat.le_of_ble_eq_true rfl)⟩ lk1652 lk1654 lk52 mm_cl12 rfl dX12_cost_107 (hp) rfl (hM.1 0 _ rfl) (Nat.le_of_ble_eq_true rfl) rfl rfl ?_
  refine ev_goto 156 dX12_cost_110 (by decide) ?_
  refine ev_aload_n 157 dX12_cost_156 rfl rfl ?_
  refine ev_getJ 160 mm_cl12 (j := 70) (Nat.le_of_ble_eq_true rfl) dX12_cost_157 lk1355 (fun _ _ _ => rfl) (hM.1 0 _ rfl) rfl ?_
  refine ev_eqJ (y := (v)) (hv) ?_
  exact ev_lret dX12_cost_160 rfl (rfl)
theorem ml_cost_1 {p sb L pp : Nat} {v : Int64} {I1 : mm_TI} {J1 : mm_TJ} (h : MA B I P m n k) (p3 : p ≤ 3) (r : I (m + 20) k = nI 1) (r25 : I (m + 25) k = nI sb) (hL : I (m + 22) (28 * k + 7 * p) = nI L) (hpp : I (m + 22) (28 * k + 7 * p + 1) = nI pp) (hp : Ct g mX12_pulses [.ref m, .int (nI k), .int (nI p), .int (nI sb), .int (nI L), .int (nI pp), .int (nI 1)] B (mo_st I m (nI 0)) J P (none, B, I1, J1, P)) (hv : J1 m 70 = v) : Ct g mX12_cost [.ref m, .int (nI k), .int (nI p), .int (nI 1), .int (nI 1)] B I J P (some (.long v), B, I1, J1, P) := by
  obtain ⟨hM, hn, h8, hk⟩ := h
  refine ct_of (lv := [some (.ref m), some (.int (nI k)), some (.int (nI p)), some (.int (nI 1)), some (.int (nI 1))]) (by decide +kernel) (Nat.le_of_ble_eq_true rfl) rfl ?_
  refine ev_aload_n 1 dX12_cost_0 rfl rfl ?_
  refine ev_iload_n 2 dX12_cost_1 rfl rfl ?_
  refine ev_invV 5 (Mc := mX12_isCoder) ⟨lk1552, lk80, hdX12_isCoder, (Nat.le_of_ble_eq_true rfl), (Nat.le_of_ble_eq_true rfl)⟩ lk1549 lk1551 lk40 mm_cl12 rfl dX12_cost_2 (ct_X12_isCoder_t hM hn h8 hk) rfl (hM.1 0 _ rfl) (Nat.le_of_ble_eq_true rfl) rfl rfl ?_
  refine ev_if_eqN 8 26 dX12_cost_5 (by decide) (by omega) rfl (fun hx => absurd hx ((by omega))) (fun hbr => ?_)
  refine ev_iload_n 9 dX12_cost_8 rfl rfl ?_
  refine ev_iconstN 10 0 dX12_cost_9 rfl ?_
  refine ev_iconstN 11 3 dX12_cost_10 rfl ?_
  refine ev_invS 14 (Mc := mX12_in) ⟨lk1536, lk80, hdX12_in, (Nat.le_of_ble_eq_true rfl), (Nat.le_of_ble_eq_true rfl)⟩ lk1534 lk1535 dX12_cost_11 (ct_X12_in_t (in_t (by omega) p3 (by omega))) rfl (Nat.le_of_ble_eq_true rfl) rfl rfl ?_
  refine ev_if_eqN 17 26 dX12_cost_14 (by decide) (by omega) rfl (fun hx => absurd hx ((by omega))) (fun hbr => ?_)
  refine ev_iload_n 18 dX12_cost_17 rfl rfl ?_
  refine ev_iconstN 19 0 dX12_cost_18 rfl ?_
  refine ev_iconstN 20 1 dX12_cost_19 rfl ?_
  refine ev_invS 23 (Mc := mX12_in) ⟨lk1536, lk80, hdX12_in, (Nat.le_of_ble_eq_true rfl), (Nat.le_of_ble_eq_true rfl)⟩ lk1534 lk1535 dX12_cost_20 (ct_X12_in_t (in_t (by omega) (show 1 ≤ 1 by omega) (by omega))) rfl (Nat.le_of_ble_eq_true rfl) rfl rfl ?_
  refine ev_if_neN 26 35 dX12_cost_23 (by decide) (by omega) rfl (fun hbr => ?_) (fun hx => absurd hx ((by omega)))
  refine ev_aload_n 36 dX12_cost_35 rfl rfl ?_
  refine ev_getP 39 mm_cl12 (j := 25) (Nat.le_of_ble_eq_true rfl) dX12_cost_36 lk1310 (fun _ _ _ => rfl) (hM.1 0 _ rfl) (a := (m + 20)) (hM.2.2 19 _ _ _ rfl) rfl ?_
  refine ev_iload_n 40 dX12_cost_39 rfl rfl ?_
  refine ev_iald 41 _ dX12_cost_40 (hM.1 20 _ rfl) rfl (by have hNN := hM.2.1 20 _ rfl; omega) rfl ?_
  refine ev_eqI (y := nI (1)) (r) ?_
  refine ev_iconstN 42 1 dX12_cost_41 rfl ?_
  refine ev_icmp_eqN 45 55 dX12_cost_42 (by decide) (by omega) (by omega) rfl (fun hbr => ?_) (fun hx => absurd ((by omega)) hx)
  refine ev_aload_n 56 dX12_cost_55 rfl rfl ?_
  refine ev_iconstN 57 0 dX12_cost_56 rfl ?_
  refine ev_putI 60 mm_cl12 (j := 1) (Nat.le_of_ble_eq_true rfl) dX12_cost_57 lk1286 rfl (fun _ _ _ => rfl) rfl rfl (hM.1 0 _ rfl) rfl ?_
  refine ev_iload 62 dX12_cost_60 rfl rfl ?_
  refine ev_if_neN 65 93 dX12_cost_62 (by decide) (by omega) rfl (fun hbr => ?_) (fun hx => absurd hx ((by omega)))
  refine ev_iload_n 94 dX12_cost_93 rfl rfl ?_
  refine ev_if_neN 97 113 dX12_cost_94 (by decide) (by omega) rfl (fun hbr => ?_) (fun hx => absurd hx ((by omega)))
  refine ev_aload_n 114 dX12_cost_113 rfl rfl ?_
  refine ev_iload_n 115 dX12_cost_114 rfl rfl ?_
  refine ev_iload_n 116 dX12_cost_115 rfl rfl ?_
  refine ev_aload_n 117 dX12_cost_116 rfl rfl ?_
  refine ev_getP 120 mm_cl12 (j := 30) (Nat.le_of_ble_eq_true rfl) dX12_cost_117 lk1315 (fun _ _ _ => rfl) (hM.1 0 _ rfl) (a := (m + 25)) (hM.2.2 24 _ _ _ rfl) rfl ?_
  refine ev_iload_n 121 dX12_cost_120 rfl rfl ?_
  refine ev_iald 122 _ dX12_cost_121 (hM.1 25 _ rfl) rfl (by have hNN := hM.2.1 25 _ rfl; omega) rfl ?_
  refine ev_eqI (y := nI (sb)) ((by rw [va_up_n _ _ (by omega)]; exact r25)) ?_
  refine ev_aload_n 123 dX12_cost_122 rfl rfl ?_
  refine ev_getP 126 mm_cl12 (j := 27) (Nat.le_of_ble_eq_true rfl) dX12_cost_123 lk1312 (fun _ _ _ => rfl) (hM.1 0 _ rfl) (a := (m + 22)) (hM.2.2 21 _ _ _ rfl) rfl ?_
  refine ev_bipushN 128 28 dX12_cost_126 (by decide +kernel) rfl ?_
  refine ev_iload_n 129 dX12_cost_128 rfl rfl ?_
  refine ev_imulN 130 dX12_cost_129 rfl ?_
  refine ev_bipushN 132 7 dX12_cost_130 (by decide +kernel) rfl ?_
  refine ev_iload_n 133 dX12_cost_132 rfl rfl ?_
  refine ev_imulN 134 dX12_cost_133 rfl ?_
  refine ev_iaddN 135 dX12_cost_134 rfl ?_
  refine ev_iald 136 _ dX12_cost_135 (hM.1 22 _ rfl) rfl (by have hNN := hM.2.1 22 _ rfl; omega) rfl ?_
  refine ev_eqI (y := nI (L)) ((by rw [va_up_n _ _ (by omega)]; exact hL)) ?_
  refine ev_aload_n 137 dX12_cost_136 rfl rfl ?_
  refine ev_getP 140 mm_cl12 (j := 27) (Nat.le_of_ble_eq_true rfl) dX12_cost_137 lk1312 (fun _ _ _ => rfl) (hM.1 0 _ rfl) (a := (m + 22)) (hM.2.2 21 _ _ _ rfl) rfl ?_
  refine ev_bipushN 142 28 dX12_cost_140 (by decide +kernel) rfl ?_
  refine ev_iload_n 143 dX12_cost_142 rfl rfl ?_
  refine ev_imulN 144 dX12_cost_143 rfl ?_
  refine ev_bipushN 146 7 dX12_cost_144 (by decide +kernel) rfl ?_
  refine ev_iload_n 147 dX12_cost_146 rfl rfl ?_
  refine ev_imulN 148 dX12_cost_147 rfl ?_
  refine ev_iaddN 149 dX12_cost_148 rfl ?_
  refine ev_iconstN 150 1 dX12_cost_149 rfl ?_
  refine ev_iaddN 151 dX12_cost_150 rfl ?_
  refine ev_iald 152 _ dX12_cost_151 (hM.1 22 _ rfl) rfl (by have hNN := hM.2.1 22 _ rfl; omega) rfl ?_
  refine ev_eqI (y := nI (pp)) ((by rw [va_up_n _ _ (by omega)]; exact hpp)) ?_
  refine ev_iconstN 153 1 dX12_cost_152 rfl ?_
  refine ev_invVv 156 (Mc := mX12_pulses) ⟨lk1666, lk80, hdX12_pulses, (Nat.le_of_ble_eq_true rfl), (Nat.le_of_ble_eq_true rfl)⟩ lk1663 lk1665 lk54 mm_cl12 rfl dX12_cost_153 (hp) rfl (hM.1 0 _ rfl) (Nat.le_of_ble_eq_true rfl) rfl rfl ?_
  refine ev_aload_n 157 dX12_cost_156 rfl rfl ?_
  refine ev_getJ 160 mm_cl12 (j := 70) (Nat.le_of_ble_eq_true rfl) dX12_cost_157 lk1355 (fun _ _ _ => rfl) (hM.1 0 _ rfl) rfl ?_
  refine ev_eqJ (y := (v)) (hv) ?_
  exact ev_lret dX12_cost_160 rfl (rfl)
end CT0
section CT1
variable {g : mm_G}
/-- the searches were run, and wiped -/
theorem RC_wc {B : mm_B} {I I1 I2 : mm_TI} {J J1 J2 : mm_TJ} {P : mm_TP} {x m n R K : Nat} {o : Nat → Nat} {fl φ : Nat → Nat → Nat} {ρ : Nat → Nat} (h : RC g B I J P x m n R K o fl φ ρ) (wc : WCf x (vst I x (nI 0)) I1 J J1) (hm : ∀ j, j = 0 ∨ j = 5 ∨ j = 7 ∨ j = 9 ∨ j = 36 → I2 m j = I m j) (hm1 : I2 m 1 = nI 0) (hmj : J2 m 2 = J m 2) (hq : ∀ q, q ≠ m → q < m + 53 ∨ m + 64 ≤ q → I2 q = I1 q) (hj : ∀ q, q ≠ m → q < m + 53 ∨ m + 64 ≤ q → J2 q = J1 q) : RC g B I2 J2 P x m n R K o fl φ ρ ∧ ∀ q, q < x → I2 q = I q := by
  obtain ⟨hV, hM, -⟩ := RG_ly h
  obtain ⟨h8, hx4, hm0⟩ := RG_n h
  obtain ⟨xm, mn⟩ := RC_xm h
  obtain ⟨w1, w2, w3, w4, w5⟩ := wc
  have fo : ∀ q, q ≠ x → q ≠ m → q < x + 5 ∨ x + 18 < q → q < m + 53 ∨ m + 64 ≤ q → I2 q = I q := fun q a b c d => by rw [hq q b d, w4 q (by omega), vst_n a]
  have fz : ∀ k, 5 ≤ k → k ≤ 14 → I2 (x + k) = fun _ => 0 := fun k a b => by rw [hq _ (by omega) (by omega)]; exact w1 k a b
  have fx9 : I2 x 9 = nI 0 := by rw [hq x (by omega) (by omega), w4 x (by omega), vst_9]
  have fxk : ∀ k, k ≠ 9 → I2 x k = I x k := fun k hk => by rw [hq x (by omega) (by omega), w4 x (by omega), vst_k hk]
  have jo : ∀ q, q ≠ m → q < x + 15 ∨ x + 18 < q → q < m + 53 ∨ m + 64 ≤ q → J2 q = J q := fun q a b c => by rw [hj q a c, w5 q b]
  have ro := fun r hr => RC_row h (r := r) hr
  exact ⟨RC_gl h (RCg_mk h (Ext_rf B) h.1.1 hV hM (fun q hq => fo q (by omega) (by omega) (by omega) (by omega)) ⟨h8, by rw [fxk 4 (by omega)]; exact hx4, by rw [hm 0 (by omega)]; exact hm0⟩ ⟨by rw [jo (x + 1) (by omega) (by omega) (by omega), hmj]; exact (RG_j h).1, fun i hi => by rw [fo (x + 2) (by omega) (by omega) (by omega) (by omega), fo (m + 1) (by omega) (by omega) (by omega) (by omega)]; exact (RG_j h).2 i hi⟩ (RGt_cg (RG_t h) (by rw [fo (x + 1) (by omega) (by omega) (by omega) (by omega)]) (hm 5 (by omega)) (fo _ (by omega) (by omega) (by omega) (by omega)) (fo _ (by omega) (by omega) (by omega) (by omega))) (RGp_cg (RG_p h) (fxk 6 (by omega)) (hm 7 (by omega)) (fo _ (by omega) (by omega) (by omega) (by omega)) (fo _ (by omega) (by omega) (by omega) (by omega))) (RGb_cg (RG_b h) (fxk 8 (by omega)) (hm 9 (by omega)) (fo _ (by omega) (by omega) (by omega) (by omega)) (fo _ (by omega) (by omega) (by omega) (by omega))) ⟨fz, fun k hk => by rw [hj _ (by omega) (by omega)]; exact w2 k hk, fun k hk => by rw [hj _ (by omega) (by omega)]; exact w3 k hk⟩ (RGr_cg (RG_r h) (Ext_rf B) (hm 36 (by omega)) (fun r hr => by have := ro r hr; exact fo _ (by omega) (by omega) (by omega) (by omega)) (fo _ (by omega) (by omega) (by omega) (by omega)) (fo _ (by omega) (by omega) (by omega) (by omega)) (fo _ (by omega) (by omega) (by omega) (by omega)))) (by rw [fx9, hm1]) (fun q a b => fo q (by omega) (by omega) (by omega) (by omega)) (fun q a b => jo q (by omega) (by omega) (by omega)), fun q hq => fo q (by omega) (by omega) (by omega) (by omega)⟩
theorem jo_cost {c p w : Int32} {wh : Nat} (hwh : wh ≤ 1) : JOL g mX11_cost mX12_cost [.int c, .int p, .int w, .int (nI wh)] := by
  refine jo_mk fun K x m B I J P n R o fl φ ρ hK hR h => ?_
  obtain ⟨hV, hM, hG, hc, hgx⟩ := RG_ly h
  obtain ⟨h8, hx4, hm0⟩ := RG_n h
  obtain ⟨xm, mn⟩ := RC_xm h
  have key : ∃ b : Nat, CoF p w b := by
    by_cases h : (nI 0 ≤ p ∧ p ≤ nI 3) ∧ nI 0 ≤ w ∧ w ≤ nI 1
    · exact ⟨1, Or.inl ⟨rfl, h⟩⟩
    · exact ⟨0, Or.inr ⟨rfl, h⟩⟩
  rcases cd_cases h8 c with ⟨k, hk, rfl⟩ | hcc
  · by_cases hb : (nI 0 ≤ p ∧ p ≤ nI 3) ∧ nI 0 ≤ w ∧ w ≤ nI 1
    · rcases in_cases (lo := 0) (hi := 3) (by omega) (by omega) p with ⟨p, -, p3, rfl⟩ | hp
      · rcases in_cases (lo := 0) (hi := 1) (by omega) (by omega) w with ⟨w, -, w1, rfl⟩ | hw
        · obtain ⟨so, s1, s2, s3, s4⟩ := RC_s h hk
          by_cases e : so = 1
          · subst e
            obtain ⟨sr, r1, r2, r3, r4, r5, r6, r7, r8, r9⟩ := s4 rfl
            have hv := RC_v h hk
            have mo := hv.1.2.1
            have hPa := hv.1.2.2.2.2.1 p (by omega)
            rcases (show wh = 0 ∨ wh = 1 by omega) with rfl | rfl
            · have e7 : J (o k + 7 + p) (7 + w) = J (m + 23 + w) (4 * k + p) := by
                rcases (show w = 0 ∨ w = 1 by omega) with rfl | rfl
                · exact (r5 p (by omega)).1
                · exact (r5 p (by omega)).2
              have cl := cl_cost_n (g := g) (J := J) (CA_of h hk) p3 w1 s3 hPa
              rw [e7] at cl
              exact Or.inl ⟨_, _, cl, fun I1 h1 => ml_cost_n (MA_of h hk (h1 _ (by omega))) p3 w1 (by rw [h1 _ (by omega)]; exact s2)⟩
            · right
              have hsp : 40 * (sr + 1) * p + 40 * (sr + 1) ≤ 320 := by
                have := Nat.mul_le_mul (show 40 * (sr + 1) ≤ 80 by omega) p3
                omega
              have hv9 : ∀ q, q ≠ x → vst I x (nI 0) q = I q := fun q hq => vst_n hq
              generalize hsb : 40 * (sr + 1) = sb at *
              have cm := Nat.mul_comm p sb
              have h4 : sb * p + sb ≤ 4 * sb := by
                have := Nat.mul_le_mul_left sb (show p + 1 ≤ 4 by omega)
                rw [Nat.mul_add] at this; omega
              have go : ∀ (I1 : mm_TI) q, q ≠ m → mo_st I1 m (nI 0) q = I1 q := fun I1 q hq => va_up_n _ _ hq
              have gmm : ∀ I1 : mm_TI, mo_st I1 m (nI 0) m = va_up (I1 m) 1 (nI 0) := fun I1 => va_up_s _ _ _
              have hH : ∀ i, i < 160 → vst I x (nI 0) (o k + 12) (p * sb + i) = I (m + 27) (160 * (4 * k + p) + i) := fun i hi => by rw [hv9 _ (by omega), cm]; exact (r9 p i (by omega) hi).1
              have hR : ∀ i, i < sb → vst I x (nI 0) (o k + 11) (p * sb + i) = sg (I (m + 26)) (320 * k + sb * p) sb i := fun i hi => by rw [hv9 _ (by omega), sg_in hi, cm, (r8 _ (by omega)).1, Nat.add_assoc]
              obtain ⟨L, pp, l1, l2, l3, l4, l5⟩ := r6 p (by omega)
              rcases (show w = 0 ∨ w = 1 by omega) with rfl | rfl
              · obtain ⟨I1, J1, wc, ct⟩ := cx_wc0 (g := g) (J := J) (I := vst I x (nI 0)) (o := o k) (p := p) (fr := p * sb) (H := fun i => I (m + 27) (160 * (4 * k + p) + i)) (R := sg (I (m + 26)) (320 * k + sb * p) sb) hV hv.1.1 (by omega) r1 (by rw [hv9 _ (by omega)]; exact r2) hsb.symm (by omega) rfl hH hR
                have gI : ∀ q, q < m + 64 → x + 22 ≤ q → I1 q = I q := fun q a b => by rw [wc.2.2.2.1 q (by omega), hv9 q (by omega)]
                have ma : MA B I1 P m n k := MA_of h hk (gI m (by omega) (by omega))
                have pt := ct_X12_pitch (g := g) (J := J1) (I := mo_st I1 m (nI 0)) (c := k) (pt := p) (sb := sb) (w := 1) (H := fun i => I (m + 27) (160 * (4 * k + p) + i)) (R := sg (I (m + 26)) (320 * k + sb * p) sb) hM (by omega) (by omega) (by omega) hsp (fun i hi => by rw [go _ _ (by omega), gI _ (by omega) (by omega)]) (fun i hi => by rw [go _ _ (by omega), gI _ (by omega) (by omega), sg_in hi]) (by omega)
                generalize sp_pit (fun i => I (m + 27) (160 * (4 * k + p) + i)) (sg (I (m + 26)) (320 * k + sb * p) sb) sb (1 = 1) = S at ct pt
                have ml := ml_cost_0 ma p3 (by rw [gI _ (by omega) (by omega)]; exact s2) (by rw [gI _ (by omega) (by omega)]; exact r3) pt (by rw [va_up_s, va_up_s])
                have rc := RC_wc h wc (I2 := va_up (mo_st I1 m (nI 0)) m (va_up (va_up (mo_st I1 m (nI 0) m) 71 S.2.1) 72 S.2.2)) (J2 := va_up J1 m (va_up (J1 m) 70 S.1)) (fun j hj => by rw [va_up_s, va_up_n _ _ (by omega), va_up_n _ _ (by omega), gmm, va_up_n _ _ (by omega), gI m (by omega) (by omega)]) (by rw [va_up_s, va_up_n _ _ (by omega), va_up_n _ _ (by omega), gmm, va_up_s]) (by rw [va_up_s, va_up_n _ _ (by omega), wc.2.2.2.2 m (by omega)]) (fun q a b => by rw [va_up_n _ _ a, go _ _ a]) (fun q a b => by rw [va_up_n _ _ a])
                exact ⟨_, I1, J1, _, _, cl_cost_w (CA_of h hk) p3 w1 s3 ct, ml, rc.1, rc.2⟩
              · have hzb := sp_zb_of (H := fun i => I (m + 27) (160 * (4 * k + p) + i)) (R := sg (I (m + 26)) (320 * k + sb * p) sb) (L := L) (sb := sb) (p := pp) (fun i hi => (r9 p i (by omega) hi).2) (fun i => by
                    by_cases e : i < sb
                    · rw [sg_in e]
                      have a := (r8 (sb * p + i) (by omega))
                      rw [a.1] at a
                      rw [Nat.add_assoc]; exact a.2
                    · unfold sg; rw [if_neg e]; exact r16_0) l1 l2 l3
                obtain ⟨z, j, a, b, cc, d, hres, -⟩ := sp_pul_e (wh := 1 = 1) (show 2 ≤ sb by omega) hzb
                obtain ⟨I1, J1, wc, ct⟩ := cx_wc1 (g := g) (J := J) (I := vst I x (nI 0)) (o := o k) (p := p) (fr := p * sb) (H := fun i => I (m + 27) (160 * (4 * k + p) + i)) (R := sg (I (m + 26)) (320 * k + sb * p) sb) hV hv.1.1 hG (st_c_lo hc hgx (fun q hq => hv9 q (by omega))) hgx (by omega) r1 (by rw [hv9 _ (by omega)]; exact r2) hsb.symm (by omega) rfl hH hR hPa (by rw [hv9 _ (by omega)]; exact (r4 p 0 (by omega) (by omega)).trans l4) (by rw [hv9 _ (by omega)]; exact (r4 p 1 (by omega) (by omega)).trans l5) l1 l2 hzb hres
                have gI : ∀ q, q < m + 64 → x + 22 ≤ q → I1 q = I q := fun q a b => by rw [wc.2.2.2.1 q (by omega), hv9 q (by omega)]
                have ma : MA B I1 P m n k := MA_of h hk (gI m (by omega) (by omega))
                obtain ⟨I2, J2, pu, b1, b2, b3, b4⟩ := cx_X12_pulses (g := g) (J := J1) (I := mo_st I1 m (nI 0)) (c := k) (pt := p) (sb := sb) (w := 1) (L := L) (p := nI pp) (H := fun i => I (m + 27) (160 * (4 * k + p) + i)) (R := sg (I (m + 26)) (320 * k + sb * p) sb) hM (by omega) (by omega) (by omega) (by omega) (by omega) l1 l2 hsp (fun i hi => by rw [go _ _ (by omega), gI _ (by omega) (by omega)]) (fun i hi => by rw [go _ _ (by omega), gI _ (by omega) (by omega), sg_in hi]) (by omega) hzb hres
                have ml := ml_cost_1 ma p3 (by rw [gI _ (by omega) (by omega)]; exact s2) (by rw [gI _ (by omega) (by omega)]; exact r3) (by rw [gI _ (by omega) (by omega)]; exact l4) (by rw [gI _ (by omega) (by omega)]; exact l5) pu (by rw [b2, va_up_s])
                have rc := RC_wc h wc (I2 := I2) (J2 := J2) (fun j hj => by rw [b1, gmm]; simp (disch := omega) only [va_up_n, va_up_s]; rw [gI m (by omega) (by omega)]) (by rw [b1, gmm]; simp (disch := omega) only [va_up_n, va_up_s]) (by rw [b2, va_up_n _ _ (by omega), wc.2.2.2.2 m (by omega)]) (fun q a b => by rw [b3 q a (by omega), go _ _ a]) (fun q a b => b4 q a (by omega) (by omega))
                exact ⟨_, I1, J1, I2, J2, cl_cost_w (CA_of h hk) p3 w1 s3 ct, ml, rc.1, rc.2⟩
          · rw [if_neg e] at s3
            have pr := ct_pickRefusal_t (g := g) (J := J) (sp := 0) (CA_of h hk) (by omega) s3
            exact Or.inl ⟨_, _, cl_cost_x hV (Or.inl ⟨rfl, hb⟩) (by decide) (by rw [if_neg (by omega)] at pr; exact pr), fun I1 h1 => ml_cost_s (MA_of h hk (h1 _ (by omega))) p3 w1 (by rw [h1 _ (by omega)]; exact s2) e s1⟩
        · exact absurd hb.2 hw
      · exact absurd hb.1 hp
    · exact Or.inl ⟨_, _, cl_cost_x hV (Or.inr ⟨rfl, hb⟩) (by decide) (ct_pickRefusal_b (CA_of h hk)), fun I1 h1 => ml_cost_b (MA_of h hk (h1 _ (by omega))) hb⟩
  · obtain ⟨b, hb⟩ := key
    exact Or.inl ⟨_, _, cl_cost_x hV hb (by decide) (ct_pickRefusal_f hV hx4 hcc), fun I1 h1 => ml_cost_f hM (by rw [h1 _ (by omega)]; exact hm0) hcc⟩
end CT1
