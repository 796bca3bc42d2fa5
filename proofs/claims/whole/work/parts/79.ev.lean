/-! the encoder, class side: a voice -/
section VEV
variable {g : mm_G} {B : mm_B} {I : mm_TI} {J : mm_TJ} {P : mm_TP} {x o : Nat}
theorem sp_up_at {J : mm_TJ} {q j : Nat} {s : Int64} : sp_up J q j s q j = J q j + s := by
  show va_up J q (va_up (J q) j (J q j + s)) q j = _
  rw [va_up_s, va_up_s]
theorem sp_up_o {J : mm_TJ} {q k j : Nat} {s : Int64} (h : k ≠ q) : sp_up J q j s k = J k := va_up_n _ _ h
theorem cx_X2_encV {rt em N lv nu rd sp spr w1 w2 : Nat} {W X : Nat → Int32} {raw en : Int32} {pr : (Nat → Int32) × Int64} {la : (Nat → Int32) × (Nat → Int32) × Int64} {vV : (Nat → Int32) × (Nat → Int32) × Int64} (hV : lyV B P x) (hC : lyC B P x o) (hG : ly_G g B) (hc : st_c g I) (hgx : ∀ i, i < 3 → g.2.2 i < x) (hxo : x + 22 ≤ o) (hnx : o + 33 ≤ mm_nx B) (hPa : ∀ i, i < 4 → P (o + 6) i = some (o + 7 + i)) (hrt : rt ≤ 1) (r3 : I (o + 4) 10 = nI rt) (hN : N = 160 * (rt + 1)) (hem : I (o + 4) 13 = nI em) (hem1 : em ≤ 1) (hr : I (o + 4) 18 = raw) (hW : I (x + 5) = W)
    (hlv : I (o + 4) 15 = nI lv) (hrd : rd ≤ 1) (hsp : sp ≤ 1) (r1 : I (o + 4) 14 = nI rd) (r2 : I (o + 4) 9 = nI sp) (r4 : I (o + 4) 16 = nI nu) (r5 : I (o + 4) 17 = en) (hnu : nu < 65536) (hspr : spr = if rd = 1 ∧ sp = 1 then 2 else 0)
    (hw1 : w1 ≤ 1) (hw2 : w2 ≤ 1) (k1 : I (o + 4) 11 = nI w1) (k2 : I (o + 4) 12 = nI w2)
    (hz1 : ∀ j, 160 ≤ j → I (o + 14) j = 0) (hHr : ∀ n, n < 160 → r16 (I (o + 14) n)) (hvoi : ¬ sp_fP em W raw N < nI lv)
    (hX : sp_fR em N 0 W raw = X) (hpr : sp_pr X N = pr) (hla : sp_la pr.1 X (I (o + 5), I (o + 11), 0) N = la) (hvV : sp_vV pr.1 la.2.1 (40 * (rt + 1)) w1 w2 (I (o + 14)) (I (o + 15), I (x + 6), 0) 4 = vV) :
    ∃ (I' : mm_TI) (J' : mm_TJ), Ct g mX2_encodeFrame [.ref (o + 4)] B I J P (some (.ref (mm_nx B)), mm_al B 201 (6 + 28 + spr + 1) (6 + 28 + spr + 1), I', J', va_up P (mm_nx B) (fun _ => none)) ∧
      (∀ k, k < 6 + 28 + spr → I' (mm_nx B) k = sp_row 1 (nI rt) (nI nu) 28 spr (sp_fP em W raw N) pr.1 (fun i => I' (o + 7 + i)) (I (o + 10) 0 - nI 20) (I (o + 10) 1) k) ∧
      I' (mm_nx B) (6 + 28 + spr) = b8 (sp_xs (sp_row 1 (nI rt) (nI nu) 28 spr (sp_fP em W raw N) pr.1 (fun i => I' (o + 7 + i)) (I (o + 10) 0 - nI 20) (I (o + 10) 1)) (6 + 28 + spr)) ∧
      I' (o + 14) = sp_vH la.2.1 (40 * (rt + 1)) w1 w2 (I (o + 14)) 4 ∧ (∀ i, i ≤ 4 → ∀ n, n < 160 → I' (o + 12) (40 * (rt + 1) * i + n) = sp_vH la.2.1 (40 * (rt + 1)) w1 w2 (I (o + 14)) i n) ∧ I' (o + 15) = vV.1 ∧ I' (o + 16) = pr.1 ∧ I' (o + 5) = la.1 ∧ I' (o + 11) = la.2.1 ∧
      (∀ i, i < 4 → VPt I' J' (o + 7 + i) (sp_vH la.2.1 (40 * (rt + 1)) w1 w2 (I (o + 14)) i) (sg la.2.1 (40 * (rt + 1) * i) (40 * (rt + 1))) (40 * (rt + 1)) w1 w2) ∧
      I' (o + 13) 3 = nI (vk_L (sp_vH la.2.1 (40 * (rt + 1)) w1 w2 (I (o + 14)) 3) (sg la.2.1 (40 * (rt + 1) * 3) (40 * (rt + 1))) (40 * (rt + 1)) w1) ∧
      J' (x + 1) 3 = J (x + 1) 3 + sp_fT em W raw N + pr.2 + la.2.2 + vV.2.2 ∧
      I' (o + 4) = va_up (va_up (va_up (va_up (va_up (I (o + 4)) 18 (W (N - 1))) 9 (nI 1)) 8 (nI rt)) 17 (en + nI 1)) 16 (nI ((nu + 1) % 65536)) ∧
      I' (x + 3) = va_up (sp_tr (va_up (va_up (va_up (I (x + 3)) 0 (nI 1)) 1 (nI 3)) 2 (nI 4)) 3 w1 w2 4) 15 (nI 15) ∧ I' (x + 1) = va_up (I (x + 1)) 2 (nI 16) ∧
      (∀ k, 5 ≤ k → k ≤ 14 → I' (x + k) = fun _ => 0) ∧ (∀ n, n < 9 → J' (x + 15) n = 0) ∧ (∀ n, n < 8 → J' (x + 16) n = 0) ∧
      (∀ q, q ≠ mm_nx B → q ≠ o + 4 → q ≠ o + 5 → q ≠ o + 11 → q ≠ o + 13 → q ≠ o + 16 → VPf x o q → q < x + 5 ∨ x + 14 < q → I' q = I q) ∧ (∀ q, q ≠ mm_nx B → q ≠ x + 1 → q ≠ x + 15 → q ≠ x + 16 → q ≠ x + 17 → q < o + 7 ∨ o + 10 < q → J' q = J q) := by
  obtain ⟨I1, f1, f2, f3, f4, f5, f6⟩ := lx_X2_ef0 (g := g) (B := B) (I := I) (J := J) (P := P) (x := x) (o := o) (rt := rt) (em := em) (N := N) (W := W) (raw := raw) hV hC hxo hPa hrt r3 hN hem hem1 hr hW
  rw [hX] at f1
  generalize hpk : sp_fP em W raw N = pk at *
  generalize hJ1 : sp_up J (x + 1) 3 (sp_fT em W raw N) = J1 at f6
  obtain ⟨I2, F', K', c2, p1, p2, p3, p4⟩ := cx_X2_predict (g := g) (B := B) (I := I1) (J := J1) (P := P) (x := x) (o := o) (n := N) (t := 1) hV hC hxo (by omega) (by omega) (by rw [f4, va_up_s]) (by omega)
  rw [f1, hpr] at c2 p1
  generalize hJ2 : va_up (va_up (sp_up J1 (x + 1) 3 pr.2) (x + 15) F') (x + 16) K' = J2 at c2
  have e5 : I2 (o + 5) = I (o + 5) := by rw [p4 _ (by omega) (by omega) (by omega), f5 _ (by omega) (by omega) (by omega) (by omega)]
  have e11 : I2 (o + 11) = I (o + 11) := by rw [p4 _ (by omega) (by omega) (by omega), f5 _ (by omega) (by omega) (by omega) (by omega)]
  have ex5 : I2 (x + 5) = X := by rw [p4 _ (by omega) (by omega) (by omega), f1]
  obtain ⟨I3, c3, w1', w2', w3', w4', w5'⟩ := cx_X2_whiten (g := g) (B := B) (I := I2) (J := J2) (P := P) (x := x) (o := o) (n := N) (t := 2) hV hC hxo (by omega) (by rw [p3, va_up_s]) (by omega)
  rw [p1, ex5, e5, e11, hla] at c3 w1' w2'
  generalize hJ3 : sp_up J2 (x + 1) 3 la.2.2 = J3 at c3
  have A3 : ∀ q, q ≠ o + 5 → q ≠ o + 11 → q ≠ o + 16 → q ≠ x + 5 → q ≠ o + 4 → q ≠ x + 3 → q ≠ x + 1 → I3 q = I q := fun q h1 h2 h3 h4 h5 h6 h7 => by
    rw [w5' q h1 h2 h6 h7, p4 q h3 h6 h7, f5 q h4 h5 h6 h7]
  have e34 : I3 (o + 4) = va_up (I (o + 4)) 18 (W (N - 1)) := by rw [w5' _ (by omega) (by omega) (by omega) (by omega), p4 _ (by omega) (by omega) (by omega), f2]
  have t3 : I3 (x + 1) = va_up (I (x + 1)) 2 (nI 3) := by rw [w4', p3, f4, bx_uu, bx_uu]
  obtain ⟨I4, J4, c4, v1, v2, v3, v4, v5, v6, v7, v8, v9, v10⟩ := cx_X2_encodeParts (g := g) (B := B) (I := I3) (J := J3) (P := P) (x := x) (o := o) (sb := 40 * (rt + 1)) (w1 := w1) (w2 := w2) (t := 3) (ix := pr.1) (R := la.2.1) (H0 := I (o + 14)) (V0 := I (o + 15)) (Y0 := I (x + 6)) hV hC hG (st_c_of hc (fun i hi => by have := hgx i hi; exact A3 _ (by omega) (by omega) (by omega) (by omega) (by omega) (by omega) (by omega))) hgx hxo hPa (by omega) hw1 hw2
    (by rw [e34, va_up_n _ _ (by omega)]; exact k1) (by rw [e34, va_up_n _ _ (by omega)]; exact k2) (by rw [w5' _ (by omega) (by omega) (by omega) (by omega)]; exact p1) (fun n hn => by rw [w2']) (fun n hn => by rw [← hla]; exact sp_la_r N n (by omega)) (A3 _ (by omega) (by omega) (by omega) (by omega) (by omega) (by omega) (by omega)) hHr hz1 (A3 _ (by omega) (by omega) (by omega) (by omega) (by omega) (by omega) (by omega)) (A3 _ (by omega) (by omega) (by omega) (by omega) (by omega) (by omega) (by omega)) (by omega) (by rw [t3, va_up_s])
  rw [hvV] at v3 v4
  have e44 : I4 (o + 4) = va_up (I (o + 4)) 18 (W (N - 1)) := by rw [v9 _ (by unfold VPf; omega) (by omega)]; exact e34
  have t4 : I4 (x + 1) = va_up (I (x + 1)) 2 (nI (3 + 12)) := by rw [v8, t3, bx_uu]
  have e416 : I4 (o + 16) = pr.1 := by rw [v9 _ (by unfold VPf; omega) (by omega), w5' _ (by omega) (by omega) (by omega) (by omega)]; exact p1
  obtain ⟨I', J', E, g1, g2, g3, g4, g5, g6, g7, g8, g9, g10⟩ := lx_X2_ef (g := g) (B := B) (I := I4) (J := J4) (P := P) (x := x) (o := o) (N := N) (vo := 1) (rd := rd) (sp := sp) (bd := 28) (spr := spr) (nu := nu) (t := 15) (rt := nI rt) (pk := pk) (sl := I (o + 10) 0 - nI 20) (sh := I (o + 10) 1) (en := en) (ix := pr.1) (pf := fun i => I4 (o + 7 + i)) hV hC hxo hnx (by omega) hrd hsp
    (by rw [e44, va_up_n _ _ (by omega)]; exact r1) (by rw [e44, va_up_n _ _ (by omega)]; exact r2) (by rw [e44, va_up_n _ _ (by omega)]; exact r3) (by rw [e44, va_up_n _ _ (by omega)]; exact r4) (by rw [e44, va_up_n _ _ (by omega)]; exact r5) hnu rfl hspr (by rw [t4, va_up_s]) (by omega) hPa e416 (fun i hi => rfl)
  have hpf : ∀ i, I' (o + 7 + i) = I4 (o + 7 + i) ∨ 4 ≤ i := fun i => by
    by_cases c : i < 4
    · left; exact g9 _ (by omega) (by omega) (by omega) (by omega) (by omega)
    · right; omega
  have hrw : ∀ k, k < 6 + 28 + spr → sp_row 1 (nI rt) (nI nu) 28 spr pk pr.1 (fun i => I4 (o + 7 + i)) (I (o + 10) 0 - nI 20) (I (o + 10) 1) k = sp_row 1 (nI rt) (nI nu) 28 spr pk pr.1 (fun i => I' (o + 7 + i)) (I (o + 10) 0 - nI 20) (I (o + 10) 1) k := fun k hk => by
    by_cases c : 6 ≤ k
    · rw [sp_row_6 c, sp_row_6 c]
      by_cases c2 : k < 34
      · rcases hpf ((k - 14) / 5) with h | h
        · rw [h]
        · omega
      · simp only [if_neg c2]
    · rcases (show k = 0 ∨ k = 1 ∨ k = 2 ∨ k = 3 ∨ k = 4 ∨ k = 5 by omega) with rfl | rfl | rfl | rfl | rfl | rfl <;> (unfold sp_row; simp)
  have A4 : ∀ q, q ≠ o + 5 → q ≠ o + 11 → q ≠ o + 13 → q ≠ o + 16 → q ≠ x + 5 → q ≠ o + 4 → VPf x o q → I4 q = I q := fun q h1 h2 h2' h3 h4 h5 h6 => by
    have h7 := h6
    unfold VPf at h7
    rw [v9 q h6 h2', A3 q h1 h2 h3 h4 h5 (by omega) (by omega)]
  refine ⟨I', J', ?_, ?_, ?_, ?_, ?_, ?_, ?_, ?_, ?_, ?_, ?_, ?_, ?_, ?_, ?_, g6, g7, g8, ?_, ?_⟩
  · refine f6 _ ?_
    refine ev_iload_n 47 dX2_encodeFrame_46 rfl rfl ?_
    refine ev_aload_n 48 dX2_encodeFrame_47 rfl rfl ?_
    refine ev_getI 51 mm_cl2 (j := 15) (Nat.le_of_ble_eq_true rfl) dX2_encodeFrame_48 lk392 (fun _ _ _ => rfl) (hC.1 4 _ rfl) rfl ?_
    refine ev_eqI (y := nI (lv)) ((by rw [f2, va_up_n _ _ (by omega)]; exact hlv)) ?_
    refine ev_icmp_lt 54 58 dX2_encodeFrame_51 (by decide) rfl (fun hx => absurd hx ((by exact hvoi))) (fun hbr => ?_)
    refine ev_iconstN 55 1 dX2_encodeFrame_54 rfl ?_
    refine ev_goto 59 dX2_encodeFrame_55 (by decide) ?_
    refine ev_istore 61 (lv' := [_, _, _, _, some (.int _), _, _]) dX2_encodeFrame_59 (Nat.le_of_ble_eq_true rfl) rfl rfl ?_
    refine ev_iload 63 dX2_encodeFrame_61 rfl rfl ?_
    refine ev_if_eqN 66 86 dX2_encodeFrame_63 (by decide) (by omega) rfl (fun hx => absurd hx ((by omega))) (fun hbr => ?_)
    refine ev_aload_n 67 dX2_encodeFrame_66 rfl rfl ?_
    refine ev_iload_n 68 dX2_encodeFrame_67 rfl rfl ?_
    refine ev_invVv 71 (Mc := mX2_predict) ⟨lk684, lk83, hdX2_predict, (Nat.le_of_ble_eq_true rfl), (Nat.le_of_ble_eq_true rfl)⟩ lk681 lk683 lk3 mm_cl2 rfl dX2_encodeFrame_68 (c2) rfl (hC.1 4 _ rfl) (Nat.le_of_ble_eq_true rfl) rfl rfl ?_
    refine ev_aload_n 72 dX2_encodeFrame_71 rfl rfl ?_
    refine ev_iload_n 73 dX2_encodeFrame_72 rfl rfl ?_
    refine ev_invVv 76 (Mc := mX2_whiten) ⟨lk728, lk83, hdX2_whiten, (Nat.le_of_ble_eq_true rfl), (Nat.le_of_ble_eq_true rfl)⟩ lk725 lk727 lk7 mm_cl2 rfl dX2_encodeFrame_73 (c3) rfl (hC.1 4 _ rfl) (Nat.le_of_ble_eq_true rfl) rfl rfl ?_
    refine ev_aload_n 77 dX2_encodeFrame_76 rfl rfl ?_
    refine ev_iload_n 78 dX2_encodeFrame_77 rfl rfl ?_
    refine ev_iconstN 79 4 dX2_encodeFrame_78 rfl ?_
    refine ev_idivN 80 dX2_encodeFrame_79 (by omega) (by omega) (by omega) rfl ?_
    rw [show N / 4 = 40 * (rt + 1) by omega]
    refine ev_invVv 83 (Mc := mX2_encodeParts) ⟨lk736, lk83, hdX2_encodeParts, (Nat.le_of_ble_eq_true rfl), (Nat.le_of_ble_eq_true rfl)⟩ lk733 lk735 lk9 mm_cl2 rfl dX2_encodeFrame_80 (c4) rfl (hC.1 4 _ rfl) (Nat.le_of_ble_eq_true rfl) rfl rfl ?_
    refine ev_goto 118 dX2_encodeFrame_83 (by decide) ?_
    exact E
  · intro k hk
    rw [g1 k hk]; exact hrw k hk
  · rw [g2, sp_xs_cg _ hrw]
  · rw [g9 _ (by omega) (by omega) (by omega) (by omega) (by omega)]; exact v1
  · intro i hi n hn
    rw [g9 _ (by omega) (by omega) (by omega) (by omega) (by omega)]; exact v2 i hi n hn
  · rw [g9 _ (by omega) (by omega) (by omega) (by omega) (by omega)]; exact v3
  · rw [g9 _ (by omega) (by omega) (by omega) (by omega) (by omega)]; exact e416
  · rw [g9 _ (by omega) (by omega) (by omega) (by omega) (by omega), v9 _ (by unfold VPf; omega) (by omega)]; exact w1'
  · rw [g9 _ (by omega) (by omega) (by omega) (by omega) (by omega), v9 _ (by unfold VPf; omega) (by omega)]; exact w2'
  · intro i hi
    exact VPt_cg (v5 i hi) (g9 _ (by omega) (by omega) (by omega) (by omega) (by omega)) (g10 _ (by omega) (by omega) (by omega))
  · rw [g9 _ (by omega) (by omega) (by omega) (by omega) (by omega)]; exact v6
  · rw [g10 _ (by omega) (by omega) (by omega), v4, ← hJ3, sp_up_at, ← hJ2, va_up_n _ _ (by omega), va_up_n _ _ (by omega), sp_up_at, ← hJ1, sp_up_at]
  · rw [g3, e44]
  · rw [g4, v7, w3', p2, f3]
  · rw [g5, t4, bx_uu]
  · intro q h1 h2 h3 h4 h5 h6 h7 h8
    have h9 := h7
    unfold VPf at h9
    rw [g9 q h1 h2 (by omega) (by omega) h8]; exact A4 q h3 h4 h5 h6 (by omega) h2 h7
  · intro q h1 h2 h3 h4 h5 h6
    rw [g10 q h1 h3 h4, v10 q h6 h2 h5, ← hJ3, sp_up_o h2, ← hJ2, va_up_n _ _ h4, va_up_n _ _ h3, sp_up_o h2, ← hJ1, sp_up_o h2]
end VEV
