/-! encodeParts -/
/-- what was chosen for a PART -/
def VPt (I : mm_TI) (J : mm_TJ) (pt : Nat) (H R : Nat → Int32) (sb w1 w2 : Nat) : Prop :=
  I pt 0 = nI (vk_L H R sb w1) ∧ I pt 1 = nI (vk_p H R sb w1) ∧ I pt 2 = nI (vk_e H R sb w1 w2).1 ∧ I pt 3 = nI (vk_e H R sb w1 w2).2 ∧ I pt 4 = nI (vk_o H R sb w1 w2).1 ∧ I pt 5 = nI (vk_o H R sb w1 w2).2 ∧ I pt 6 = nI (vk_j H R sb w1 w2) ∧
  J pt 7 = (vk_P H R sb w1).1 ∧ J pt 8 = Int64.ofInt (vk_z H R sb w1 w2)
theorem VPt_cg {I I' : mm_TI} {J J' : mm_TJ} {pt : Nat} {H R : Nat → Int32} {sb w1 w2 : Nat} (h : VPt I J pt H R sb w1 w2) (h1 : I' pt = I pt) (h2 : J' pt = J pt) : VPt I' J' pt H R sb w1 w2 := by
  unfold VPt
  rw [h1, h2]
  exact h
def VPf (x o q : Nat) : Prop := (q < o + 7 ∨ o + 10 < q) ∧ q ≠ o + 12 ∧ q ≠ o + 14 ∧ q ≠ o + 15 ∧ q ≠ x + 1 ∧ q ≠ x + 3 ∧ (q < x + 6 ∨ x + 14 < q) ∧ q ≠ x + 17
/-- behind k PARTS -/
def VPs (x o sb w1 w2 t k : Nat) (ix R H0 V0 Y0 : Nat → Int32) (I0 : mm_TI) (J0 : mm_TJ) (I : mm_TI) (J : mm_TJ) : Prop :=
  I (o + 14) = sp_vH R sb w1 w2 H0 k ∧ (∀ i, i ≤ k → ∀ n, n < 160 → I (o + 12) (sb * i + n) = sp_vH R sb w1 w2 H0 i n) ∧
  I (o + 15) = (sp_vV ix R sb w1 w2 H0 (V0, Y0, 0) k).1 ∧ I (x + 6) = (sp_vV ix R sb w1 w2 H0 (V0, Y0, 0) k).2.1 ∧ J (x + 1) 3 = J0 (x + 1) 3 + (sp_vV ix R sb w1 w2 H0 (V0, Y0, 0) k).2.2 ∧
  (∀ i, i < k → VPt I J (o + 7 + i) (sp_vH R sb w1 w2 H0 i) (sg R (sb * i) sb) sb w1 w2) ∧
  I (x + 3) = sp_tr (I0 (x + 3)) t w1 w2 k ∧ I (x + 1) = va_up (I0 (x + 1)) 2 (nI (t + 3 * k)) ∧
  (∀ q, VPf x o q → I q = I0 q) ∧ (∀ q, (q < o + 7 ∨ o + 10 < q) → q ≠ x + 1 → q ≠ x + 17 → J q = J0 q)
section VHP
variable {g : mm_G} {B : mm_B} {I I0 : mm_TI} {J J0 : mm_TJ} {P : mm_TP} {x o : Nat}
theorem lx_X2_ep {sb w1 w2 t k : Nat} {ix R H0 V0 Y0 : Nat → Int32} (hV : lyV B P x) (hC : lyC B P x o) (hG : ly_G g B) (hc : st_c g I0) (hgx : ∀ i, i < 3 → g.2.2 i < x) (hxo : x + 22 ≤ o) (hPa : ∀ i, i < 4 → P (o + 6) i = some (o + 7 + i)) (hb : sb = 40 ∨ sb = 80) (hw1 : w1 ≤ 1) (hw2 : w2 ≤ 1)
    (k1 : I0 (o + 4) 11 = nI w1) (k2 : I0 (o + 4) 12 = nI w2) (hix : I0 (o + 16) = ix) (hR : ∀ n, n < 4 * sb → I0 (o + 11) n = R n) (hRr : ∀ n, n < 4 * sb → r16 (R n)) (hHr : ∀ n, n < 160 → r16 (H0 n)) (hHz : ∀ n, 160 ≤ n → H0 n = 0)
    (ht : t + 12 ≤ 32) (hk : k < 4) (hS : VPs x o sb w1 w2 t k ix R H0 V0 Y0 I0 J0 I J) :
    ∃ (I' : mm_TI) (J' : mm_TJ), VPs x o sb w1 w2 t (k + 1) ix R H0 V0 Y0 I0 J0 I' J' ∧ ∀ Z : mm_Z, Ev g mX2_encodeParts 21 [some (.ref (o + 4)), some (.int (nI sb)), some (.int (nI (k + 1))), none] [] B I' J' P Z → Ev g mX2_encodeParts 21 [some (.ref (o + 4)), some (.int (nI sb)), some (.int (nI k)), none] [] B I J P Z := by
  have hsb : sb ≤ 80 := by omega
  have hsk : sb * k + sb ≤ 4 * sb := by
    have := Nat.mul_le_mul_left sb (show k + 1 ≤ 4 by omega)
    rw [Nat.mul_add] at this; omega
  have hsk2 : sb * k ≤ 240 := by
    have := Nat.mul_le_mul_left sb (show k ≤ 3 by omega)
    omega
  obtain ⟨s1, s2, s3, s4, s5, s6, s7, s8, s9, s10⟩ := hS
  have g0 := hgx 0 (by decide)
  have g1 := hgx 1 (by decide)
  have g2 := hgx 2 (by decide)
  have n11 := hC.2.1 11 _ rfl
  have n12 := hC.2.1 12 _ rfl
  have hRk : ∀ n, r16 (sg R (sb * k) sb n) := fun n => by
    unfold sg
    by_cases c : n < sb
    · rw [if_pos c]; exact hRr _ (by omega)
    · rw [if_neg c]; exact r16_0
  have hHk := sp_vH_r (R := R) (w1 := w1) (w2 := w2) (show sb ≤ 160 by omega) hHr k
  have hHkz := sp_vH_z (R := R) (sb := sb) (w1 := w1) (w2 := w2) hHz k
  have hwk := s2 k (Nat.le_refl _)
  have dvH : sp_vH R sb w1 w2 H0 (k + 1) = sp_sh (sp_vH R sb w1 w2 H0 k) (vk_E (sp_vH R sb w1 w2 H0 k) (sg R (sb * k) sb) sb w1 w2) sb := rfl
  have dvV : sp_vV ix R sb w1 w2 H0 (V0, Y0, 0) (k + 1) = ((sp_sq ix (vk_E (sp_vH R sb w1 w2 H0 k) (sg R (sb * k) sb) sb w1 w2) (sb * k) ((sp_vV ix R sb w1 w2 H0 (V0, Y0, 0) k).1, (sp_vV ix R sb w1 w2 H0 (V0, Y0, 0) k).2.1, 0) sb).1,
      (sp_sq ix (vk_E (sp_vH R sb w1 w2 H0 k) (sg R (sb * k) sb) sb w1 w2) (sb * k) ((sp_vV ix R sb w1 w2 H0 (V0, Y0, 0) k).1, (sp_vV ix R sb w1 w2 H0 (V0, Y0, 0) k).2.1, 0) sb).2.1,
      (sp_vV ix R sb w1 w2 H0 (V0, Y0, 0) k).2.2 + (vk_T (sp_vH R sb w1 w2 H0 k) (sg R (sb * k) sb) sb w1 w2 + (sp_sq ix (vk_E (sp_vH R sb w1 w2 H0 k) (sg R (sb * k) sb) sb w1 w2) (sb * k) ((sp_vV ix R sb w1 w2 H0 (V0, Y0, 0) k).1, (sp_vV ix R sb w1 w2 H0 (V0, Y0, 0) k).2.1, 0) sb).2.2)) := rfl
  have dtr : sp_tr (I0 (x + 3)) t w1 w2 (k + 1) = va_up (va_up (va_up (sp_tr (I0 (x + 3)) t w1 w2 k) (t + 3 * k) (nI (10 + w1))) (t + 3 * k + 1) (nI (12 + w2))) (t + 3 * k + 2) (nI 14) := rfl
  generalize hHg : sp_vH R sb w1 w2 H0 k = H at *
  generalize hVg : sp_vV ix R sb w1 w2 H0 (V0, Y0, 0) k = VV at *
  generalize hRg : sg R (sb * k) sb = Rk at *
  obtain ⟨l1, l2, l3, l4, l5⟩ := vk_P_e H Rk sb w1
  obtain ⟨q1, q2, q3, q4, q5, q6⟩ := vk_Q_e (w1 := w1) (w2 := w2) (show 2 ≤ sb by omega) hHk hRk
  generalize hpt : o + 7 + k = pt
  have tp : mm_T B pt = 107 := by
    subst hpt
    have hk4 : k = 0 ∨ k = 1 ∨ k = 2 ∨ k = 3 := by omega
    rcases hk4 with rfl | rfl | rfl | rfl
    · exact hC.1 7 _ rfl
    · exact hC.1 8 _ rfl
    · exact hC.1 9 _ rfl
    · exact hC.1 10 _ rfl
  have ptP : P (o + 6) k = some pt := by rw [hPa k hk, hpt]
  have ptl : o + 7 ≤ pt ∧ pt ≤ o + 10 := by omega
  -- load
  generalize hI1 : va_up (va_up (va_up I (x + 17) (va_up (I (x + 17)) 2 (nI sb))) (x + 11) (va_cpy (I (o + 11)) (I (x + 11)) (k * sb) 0 sb)) (x + 10) (va_cpy (I (o + 12)) (I (x + 10)) (k * sb) 0 160) = I1
  have a1 : ∀ q, q ≠ x + 17 → q ≠ x + 11 → q ≠ x + 10 → I1 q = I q := fun q h h' h'' => by rw [← hI1, va_up_n _ _ h'', va_up_n _ _ h', va_up_n _ _ h]
  have b1 : I1 (x + 17) 2 = nI sb := by rw [← hI1, va_up_n _ _ (by omega), va_up_n _ _ (by omega), va_up_s, va_up_s]
  have b2 : ∀ n, n < sb → I1 (x + 11) n = Rk n := fun n hn => by
    rw [← hI1, va_up_n _ _ (by omega), va_up_s, cpy_0 hn, s9 (o + 11) (by unfold VPf; omega), Nat.mul_comm k sb, hR _ (by omega), ← hRg, sg_in hn]
  have b3 : ∀ n, n < 160 → I1 (x + 10) n = H n := fun n hn => by
    rw [← hI1, va_up_s, cpy_0 hn, Nat.mul_comm k sb]; exact hwk n hn
  -- mark
  generalize hI2 : va_up (va_up I1 (x + 3) (va_up (I1 (x + 3)) (t + 3 * k) (nI (10 + w1)))) (x + 1) (va_up (I1 (x + 1)) 2 (nI (t + 3 * k + 1))) = I2
  have a2 : ∀ q, q ≠ x + 1 → q ≠ x + 3 → I2 q = I1 q := fun q h h' => by rw [← hI2, va_up_n _ _ h, va_up_n _ _ h']
  -- pitch
  obtain ⟨A', c3⟩ := cx_X9_findPitch (g := g) (B := B) (I := I2) (J := J) (P := P) (x := x) (pt := pt) (sb := sb) (w := w1) (H := H) (R := Rk) hV tp (by omega) hsb (by rw [a2 _ (by omega) (by omega)]; exact b1) (fun n hn => by rw [a2 _ (by omega) (by omega)]; exact b3 n hn) (fun n hn => by rw [a2 _ (by omega) (by omega)]; exact b2 n hn) hw1
  rw [show sp_pit H Rk sb (w1 = 1) = vk_P H Rk sb w1 from rfl, l4, l5] at c3
  generalize hI3 : va_up (va_up I2 (x + 7) A') pt (va_up (va_up (I2 pt) 0 (nI (vk_L H Rk sb w1))) 1 (nI (vk_p H Rk sb w1))) = I3 at c3
  have a3 : ∀ q, q ≠ x + 7 → q ≠ pt → I3 q = I2 q := fun q h h' => by rw [← hI3, va_up_n _ _ h', va_up_n _ _ h]
  have p3 : I3 pt = va_up (va_up (I2 pt) 0 (nI (vk_L H Rk sb w1))) 1 (nI (vk_p H Rk sb w1)) := by rw [← hI3, va_up_s]
  generalize hJ3 : va_up J pt (va_up (J pt) 7 (vk_P H Rk sb w1).1) = J3 at c3
  have j3 : ∀ q, q ≠ pt → J3 q = J q := fun q h => by rw [← hJ3, va_up_n _ _ h]
  -- mark
  generalize hI4 : va_up (va_up I3 (x + 3) (va_up (I3 (x + 3)) (t + 3 * k + 1) (nI (12 + w2)))) (x + 1) (va_up (I3 (x + 1)) 2 (nI (t + 3 * k + 1 + 1))) = I4
  have a4 : ∀ q, q ≠ x + 1 → q ≠ x + 3 → I4 q = I3 q := fun q h h' => by rw [← hI4, va_up_n _ _ h, va_up_n _ _ h']
  have sc4 : st_c g I4 := st_c_of hc (fun i hi => by
    have := hgx i hi
    rw [a4 _ (by omega) (by omega), a3 _ (by omega) (by omega), a2 _ (by omega) (by omega), a1 _ (by omega) (by omega) (by omega)]
    exact s9 _ (by unfold VPf; omega))
  -- pulses
  obtain ⟨I5, J5, c5, p5, pj5, b5, a5, j5⟩ := cx_X9_findPulses (g := g) (B := B) (I := I4) (J := J3) (P := P) (x := x) (pt := pt) (sb := sb) (L := vk_L H Rk sb w1) (w := w2) (p := nI (vk_p H Rk sb w1)) (H := H) (R := Rk) hV hG sc4 hgx tp (by omega) hsb (by omega) (by omega)
    (by rw [a4 _ (by omega) (by omega), a3 _ (by omega) (by omega), a2 _ (by omega) (by omega)]; exact b1)
    (by rw [a4 _ (by omega) (by omega), p3, va_up_s]) (by rw [a4 _ (by omega) (by omega), p3, va_up_n _ _ (by omega), va_up_s]) l1 l2
    (fun n hn => by rw [a4 _ (by omega) (by omega), a3 _ (by omega) (by omega), a2 _ (by omega) (by omega)]; exact b3 n hn)
    (fun n hn => by rw [a4 _ (by omega) (by omega), a3 _ (by omega) (by omega), a2 _ (by omega) (by omega)]; exact b2 n hn) hw2 (vk_zb hHk hRk) q1
  -- mark
  generalize hI6 : va_up (va_up I5 (x + 3) (va_up (I5 (x + 3)) (t + 3 * k + 1 + 1) (nI 14))) (x + 1) (va_up (I5 (x + 1)) 2 (nI (t + 3 * k + 1 + 1 + 1))) = I6
  have a6 : ∀ q, q ≠ x + 1 → q ≠ x + 3 → I6 q = I5 q := fun q h h' => by rw [← hI6, va_up_n _ _ h, va_up_n _ _ h']
  have A6 : ∀ q, q ≠ pt → q ≠ x + 1 → q ≠ x + 3 → (q < x + 7 ∨ x + 14 < q) → q ≠ x + 17 → I6 q = I q := fun q h1 h2 h3 h4 h5 => by
    rw [a6 _ h2 h3, a5 _ h1 (by omega) (by omega) (by omega) (by omega) h5, a4 _ h2 h3, a3 _ (by omega) h1, a2 _ h2 h3, a1 _ h5 (by omega) (by omega)]
  have sc6 : st_c g I6 := st_c_of hc (fun i hi => by
    have := hgx i hi
    rw [A6 _ (by omega) (by omega) (by omega) (by omega) (by omega)]
    exact s9 _ (by unfold VPf; omega))
  have p6 : I6 pt = va_up (va_up (va_up (va_up (va_up (va_up (va_up (I2 pt) 0 (nI (vk_L H Rk sb w1))) 1 (nI (vk_p H Rk sb w1))) 2 (nI (vk_e H Rk sb w1 w2).1)) 3 (nI (vk_e H Rk sb w1 w2).2)) 4 (nI (vk_o H Rk sb w1 w2).1)) 5 (nI (vk_o H Rk sb w1 w2).2)) 6 (nI (vk_j H Rk sb w1 w2)) := by
    rw [a6 _ (by omega) (by omega), p5, a4 _ (by omega) (by omega), p3]
  have e14 : I6 (o + 14) = H := by rw [A6 _ (by omega) (by omega) (by omega) (by omega) (by omega)]; exact s1
  have e15 : I6 (o + 15) = VV.1 := by rw [A6 _ (by omega) (by omega) (by omega) (by omega) (by omega)]; exact s3
  have e16 : I6 (o + 16) = ix := by rw [A6 _ (by omega) (by omega) (by omega) (by omega) (by omega), s9 _ (by unfold VPf; omega)]; exact hix
  have e06 : I6 (x + 6) = VV.2.1 := by rw [A6 _ (by omega) (by omega) (by omega) (by omega) (by omega)]; exact s4
  have f0 : I6 pt 0 = nI (vk_L H Rk sb w1) := by rw [p6, va_up_n _ _ (by omega), va_up_n _ _ (by omega), va_up_n _ _ (by omega), va_up_n _ _ (by omega), va_up_n _ _ (by omega), va_up_n _ _ (by omega), va_up_s]
  have f1 : I6 pt 1 = nI (vk_p H Rk sb w1) := by rw [p6, va_up_n _ _ (by omega), va_up_n _ _ (by omega), va_up_n _ _ (by omega), va_up_n _ _ (by omega), va_up_n _ _ (by omega), va_up_s]
  have f2 : I6 pt 2 = nI (vk_e H Rk sb w1 w2).1 := by rw [p6, va_up_n _ _ (by omega), va_up_n _ _ (by omega), va_up_n _ _ (by omega), va_up_n _ _ (by omega), va_up_s]
  have f3 : I6 pt 3 = nI (vk_e H Rk sb w1 w2).2 := by rw [p6, va_up_n _ _ (by omega), va_up_n _ _ (by omega), va_up_n _ _ (by omega), va_up_s]
  have f4 : I6 pt 4 = nI (vk_o H Rk sb w1 w2).1 := by rw [p6, va_up_n _ _ (by omega), va_up_n _ _ (by omega), va_up_s]
  have f5 : I6 pt 5 = nI (vk_o H Rk sb w1 w2).2 := by rw [p6, va_up_n _ _ (by omega), va_up_s]
  have f6 : I6 pt 6 = nI (vk_j H Rk sb w1 w2) := by rw [p6, va_up_s]
  -- speak
  obtain ⟨I7, c7, y1, y2, y3, y4, a7⟩ := cx_X6_speak (g := g) (B := B) (I := I6) (J := J5) (P := P) (x := x) (b := o + 13) (pt := pt) (sb := sb) (fr := k * sb) (L := vk_L H Rk sb w1) (ev := (vk_e H Rk sb w1 w2).1) (es := (vk_e H Rk sb w1 w2).2) (od := (vk_o H Rk sb w1 w2).1) (os := (vk_o H Rk sb w1 w2).2) (j := vk_j H Rk sb w1 w2) (p := nI (vk_p H Rk sb w1)) hV (lyK_of13 hC) hG sc6 (by omega) hgx tp (by omega) hsb (by rw [Nat.mul_comm]; omega) l1 l2 q2 (by omega) (by omega) (by omega) (by omega)
    (by rw [show o + 13 + 1 = o + 14 from rfl, e14]; exact hHkz) f0 f1 f2 f3 f4 f5 f6
  simp only [show o + 13 + 1 = o + 14 from rfl, show o + 13 + 2 = o + 15 from rfl, show o + 13 + 3 = o + 16 from rfl, e14, e15, e16, e06, Nat.mul_comm k sb] at c7 y1 y2 y3 y4 a7
  rw [show sp_eE (nI (vk_p H Rk sb w1)) (nI (sp_gn (vk_j H Rk sb w1 w2))) (sp_beh H (vk_L H Rk sb w1)) (sp_pv sb (vk_e H Rk sb w1 w2).1 (vk_e H Rk sb w1 w2).2 (vk_o H Rk sb w1 w2).1 (vk_o H Rk sb w1 w2).2) = vk_E H Rk sb w1 w2 from rfl] at c7 y1 y2 y3
  rw [show sp_eT (nI (vk_p H Rk sb w1)) (nI (sp_gn (vk_j H Rk sb w1 w2))) (sp_beh H (vk_L H Rk sb w1)) (sp_pv sb (vk_e H Rk sb w1 w2).1 (vk_e H Rk sb w1 w2).2 (vk_o H Rk sb w1 w2).1 (vk_o H Rk sb w1 w2).2) sb = vk_T H Rk sb w1 w2 from rfl] at c7
  have y4' : ∀ n, n < sb → I7 (x + 9) n = vk_E H Rk sb w1 w2 n := y4
  have A7 : ∀ q, VPf x o q → I7 q = I0 q := fun q h => by
    have h' := h
    unfold VPf at h'
    rw [a7 q (by omega) (by omega) (by omega) (by omega) (by omega) (by omega), A6 q (by omega) (by omega) (by omega) (by omega) (by omega)]
    exact s9 q h
  have A7q : ∀ q, q ≠ pt → q ≠ o + 14 → q ≠ o + 15 → q ≠ x + 1 → q ≠ x + 3 → (q < x + 6 ∨ x + 14 < q) → q ≠ x + 17 → I7 q = I q := fun q h1 h2 h3 h4 h5 h6 h7 => by
    rw [a7 q (by omega) (by omega) (by omega) (by omega) (by omega) (by omega)]
    exact A6 q h1 h4 h5 (by omega) h7
  have T1 : I1 (x + 1) = va_up (I0 (x + 1)) 2 (nI (t + 3 * k)) := by rw [a1 _ (by omega) (by omega) (by omega)]; exact s8
  have T3 : I1 (x + 3) = sp_tr (I0 (x + 3)) t w1 w2 k := by rw [a1 _ (by omega) (by omega) (by omega)]; exact s7
  have T1' : I3 (x + 1) = va_up (I0 (x + 1)) 2 (nI (t + 3 * k + 1)) := by rw [a3 _ (by omega) (by omega), ← hI2, va_up_s, T1, bx_uu]
  have T3' : I3 (x + 3) = va_up (sp_tr (I0 (x + 3)) t w1 w2 k) (t + 3 * k) (nI (10 + w1)) := by rw [a3 _ (by omega) (by omega), ← hI2, va_up_n _ _ (by omega), va_up_s, T3]
  have T1'' : I5 (x + 1) = va_up (I0 (x + 1)) 2 (nI (t + 3 * k + 1 + 1)) := by rw [a5 _ (by omega) (by omega) (by omega) (by omega) (by omega) (by omega), ← hI4, va_up_s, T1', bx_uu]
  have T3'' : I5 (x + 3) = va_up (va_up (sp_tr (I0 (x + 3)) t w1 w2 k) (t + 3 * k) (nI (10 + w1))) (t + 3 * k + 1) (nI (12 + w2)) := by rw [a5 _ (by omega) (by omega) (by omega) (by omega) (by omega) (by omega), ← hI4, va_up_n _ _ (by omega), va_up_s, T3']
  have j5o : ∀ q, q ≠ pt → q ≠ x + 17 → J5 q = J q := fun q h h' => by rw [j5 q h h', j3 q h]
  refine ⟨va_up I7 (o + 12) (va_cpy (I7 (x + 9)) (I7 (o + 12)) 0 (160 + sb * k) sb), sp_up J5 (x + 1) 3 (vk_T H Rk sb w1 w2 + (sp_sq ix (vk_E H Rk sb w1 w2) (sb * k) (VV.1, VV.2.1, 0) sb).2.2), ⟨?_, ?_, ?_, ?_, ?_, ?_, ?_, ?_, ?_, ?_⟩, fun Z e => ?_⟩
  · rw [va_up_n _ _ (by omega), y1, dvH]
  · intro i hi n hn
    rw [va_up_s]
    have old : I7 (o + 12) = I (o + 12) := A7q _ (by omega) (by omega) (by omega) (by omega) (by omega) (by omega) (by omega)
    by_cases c : i ≤ k
    · have hik := Nat.mul_le_mul_left sb c
      by_cases c2 : sb * i + n < 160 + sb * k
      · rw [cpy_out (Or.inl c2), old]; exact s2 i c n hn
      · exact absurd hn (by omega)
    · obtain rfl : i = k + 1 := by omega
      rw [dvH]
      have e1 : sb * (k + 1) + n = sb * k + (sb + n) := by rw [Nat.mul_add]; omega
      rw [e1]
      unfold sp_sh
      by_cases c2 : n < 160 - sb
      · rw [if_pos c2, cpy_out (Or.inl (by omega)), old, hwk _ (by omega), Nat.add_comm sb n]
      · rw [if_neg c2, if_pos hn, show sb * k + (sb + n) = 160 + sb * k + (n - (160 - sb)) by omega, cpy_in (by omega), Nat.zero_add]
        exact y4' _ (by omega)
  · rw [va_up_n _ _ (by omega), y2, dvV]
  · rw [va_up_n _ _ (by omega), y3, dvV]
  · show va_up J5 (x + 1) (va_up (J5 (x + 1)) 3 (J5 (x + 1) 3 + _)) (x + 1) 3 = _
    rw [va_up_s, va_up_s, j5o _ (by omega) (by omega), s5, dvV, Int64.add_assoc]
  · intro i hi
    by_cases c : i = k
    · subst c
      rw [hpt, hHg, hRg]
      have hJ : sp_up J5 (x + 1) 3 (vk_T H Rk sb w1 w2 + (sp_sq ix (vk_E H Rk sb w1 w2) (sb * i) (VV.1, VV.2.1, 0) sb).2.2) pt = J5 pt := va_up_n _ _ (by omega)
      have hI : va_up I7 (o + 12) (va_cpy (I7 (x + 9)) (I7 (o + 12)) 0 (160 + sb * i) sb) pt = I6 pt := by
        rw [va_up_n _ _ (by omega)]; exact a7 _ (by omega) (by omega) (by omega) (by omega) (by omega) (by omega)
      refine VPt_cg (I := I6) (J := J5) ⟨f0, f1, f2, f3, f4, f5, f6, ?_, ?_⟩ hI hJ
      · rw [pj5, va_up_n _ _ (by omega), ← hJ3, va_up_s, va_up_s]
      · rw [pj5, va_up_s]
    · refine VPt_cg (s6 i (by omega)) ?_ ?_
      · rw [va_up_n _ _ (by omega)]; exact A7q _ (by omega) (by omega) (by omega) (by omega) (by omega) (by omega) (by omega)
      · show va_up J5 (x + 1) _ _ = _
        rw [va_up_n _ _ (by omega)]; exact j5o _ (by omega) (by omega)
  · rw [va_up_n _ _ (by omega), a7 _ (by omega) (by omega) (by omega) (by omega) (by omega) (by omega), ← hI6, va_up_n _ _ (by omega), va_up_s, T3'', dtr]
  · rw [va_up_n _ _ (by omega), a7 _ (by omega) (by omega) (by omega) (by omega) (by omega) (by omega), ← hI6, va_up_s, T1'', bx_uu, show t + 3 * k + 1 + 1 + 1 = t + 3 * (k + 1) by omega]
  · intro q h
    have h' := h
    unfold VPf at h'
    rw [va_up_n _ _ (by omega)]; exact A7 q h
  · intro q h1 h2 h3
    show va_up J5 (x + 1) _ q = _
    rw [va_up_n _ _ h2, j5o q (by omega) h3]; exact s10 q h1 h2 h3
  · have ld := ct_X9_load (g := g) (I := I) (J := J) (qr := o + 11) (qh := o + 12) (fr := k * sb) (sb := sb) hV (hC.1 11 _ rfl) (hC.1 12 _ rfl) (by rw [n11, Nat.mul_comm]; omega) (by rw [n12, Nat.mul_comm]; omega) hsb (by omega) (by omega) (by omega)
    rw [hI1] at ld
    have m2 := ct_X10_mark (g := g) (I := I1) (J := J) (P := P) (a := nI (10 + w1)) (t := t + 3 * k) hV (by rw [T1, va_up_s]) (by omega)
    rw [hI2] at m2
    have m4 := ct_X10_mark (g := g) (I := I3) (J := J3) (P := P) (a := nI (12 + w2)) (t := t + 3 * k + 1) hV (by rw [T1', va_up_s]) (by omega)
    rw [hI4] at m4
    have m6 := ct_X10_mark (g := g) (I := I5) (J := J5) (P := P) (a := nI 14) (t := t + 3 * k + 1 + 1) hV (by rw [T1'', va_up_s]) (by omega)
    rw [hI6] at m6
    have z1 : I1 (o + 4) = I0 (o + 4) := by rw [a1 _ (by omega) (by omega) (by omega)]; exact s9 _ (by unfold VPf; omega)
    have z2 : I2 (o + 4) = I0 (o + 4) := by rw [a2 _ (by omega) (by omega)]; exact z1
    have z3 : I3 (o + 4) = I0 (o + 4) := by rw [a3 _ (by omega) (by omega)]; exact z2
    have z4 : I4 (o + 4) = I0 (o + 4) := by rw [a4 _ (by omega) (by omega)]; exact z3
    -- behind the pitch's kind
    have tail2 : Ev g mX2_encodeParts 118 [some (.ref (o + 4)), some (.int (nI sb)), some (.int (nI k)), some (.ref pt)] [.int (nI w2), .ref (x + 17)] B I4 J3 P Z := by
      refine ev_aload_n 119 dX2_encodeParts_118 rfl rfl ?_
      refine ev_invVv 122 (Mc := mX9_findPulses) ⟨lk764, lk78, hdX9_findPulses, (Nat.le_of_ble_eq_true rfl), (Nat.le_of_ble_eq_true rfl)⟩ lk761 lk762 lk763 mm_cl9 rfl dX2_encodeParts_119 (c5) rfl (hV.1 17 _ rfl) (Nat.le_of_ble_eq_true rfl) rfl rfl ?_
      refine ev_aload_n 123 dX2_encodeParts_122 rfl rfl ?_
      refine ev_getP 126 mm_cl2 (j := 0) (Nat.le_of_ble_eq_true rfl) dX2_encodeParts_123 lk369 (fun _ _ _ => rfl) (hC.1 4 _ rfl) (a := (x + 1)) (hC.2.2.2 0 _ _ _ rfl) rfl ?_
      refine ev_bipushN 128 14 dX2_encodeParts_126 (by decide +kernel) rfl ?_
      refine ev_invVv 131 (Mc := mX10_mark) ⟨lk665, lk76, hdX10_mark, (Nat.le_of_ble_eq_true rfl), (Nat.le_of_ble_eq_true rfl)⟩ lk662 lk663 lk664 mm_cl10 rfl dX2_encodeParts_128 (m6) rfl (hV.1 1 _ rfl) (Nat.le_of_ble_eq_true rfl) rfl rfl ?_
      refine ev_aload_n 132 dX2_encodeParts_131 rfl rfl ?_
      refine ev_getP 135 mm_cl2 (j := 3) (Nat.le_of_ble_eq_true rfl) dX2_encodeParts_132 lk372 (fun _ _ _ => rfl) (hC.1 4 _ rfl) (a := (o + 13)) (hC.2.2.1 5 _ _ _ rfl) rfl ?_
      refine ev_aload_n 136 dX2_encodeParts_135 rfl rfl ?_
      refine ev_iload_n 137 dX2_encodeParts_136 rfl rfl ?_
      refine ev_iload_n 138 dX2_encodeParts_137 rfl rfl ?_
      refine ev_iload_n 139 dX2_encodeParts_138 rfl rfl ?_
      refine ev_imulN 140 dX2_encodeParts_139 rfl ?_
      rw [Nat.mul_comm k sb]
      refine ev_invVv 143 (Mc := mX6_speak) ⟨lk802, lk84, hdX6_speak, (Nat.le_of_ble_eq_true rfl), (Nat.le_of_ble_eq_true rfl)⟩ lk799 lk800 lk801 mm_cl6 rfl dX2_encodeParts_140 (c7) rfl (hC.1 13 _ rfl) (Nat.le_of_ble_eq_true rfl) rfl rfl ?_
      refine ev_aload_n 144 dX2_encodeParts_143 rfl rfl ?_
      refine ev_getP 147 mm_cl2 (j := 1) (Nat.le_of_ble_eq_true rfl) dX2_encodeParts_144 lk370 (fun _ _ _ => rfl) (hC.1 4 _ rfl) (a := (x + 4)) (hC.2.2.2 1 _ _ _ rfl) rfl ?_
      refine ev_getP 150 mm_cl8 (j := 4) (Nat.le_of_ble_eq_true rfl) dX2_encodeParts_147 lk145 (fun _ _ _ => rfl) (hV.1 4 _ rfl) (a := (x + 9)) (hV.2.2 12 _ _ _ rfl) rfl ?_
      refine ev_iconstN 151 0 dX2_encodeParts_150 rfl ?_
      refine ev_aload_n 152 dX2_encodeParts_151 rfl rfl ?_
      refine ev_getP 155 mm_cl2 (j := 7) (Nat.le_of_ble_eq_true rfl) dX2_encodeParts_152 lk378 (fun _ _ _ => rfl) (hC.1 4 _ rfl) (a := (o + 12)) (hC.2.2.1 9 _ _ _ rfl) rfl ?_
      refine ev_sipushN 158 160 dX2_encodeParts_155 (by decide +kernel) rfl ?_
      refine ev_iload_n 159 dX2_encodeParts_158 rfl rfl ?_
      refine ev_iload_n 160 dX2_encodeParts_159 rfl rfl ?_
      refine ev_imulN 161 dX2_encodeParts_160 rfl ?_
      refine ev_iaddN 162 dX2_encodeParts_161 rfl ?_
      refine ev_iload_n 163 dX2_encodeParts_162 rfl rfl ?_
      rw [Nat.mul_comm k sb]
      refine ev_copyI 166 (0) (160 + sb * k) (sb) 0 dX2_encodeParts_163 lk697 lk650 lk649 lk88 (by decide) (hV.1 9 _ rfl) (hC.1 12 _ rfl) rfl rfl rfl (by have hNN := hV.2.1 9 _ rfl; have hNM := hC.2.1 12 _ rfl; omega) (by have hNN := hV.2.1 9 _ rfl; have hNM := hC.2.1 12 _ rfl; omega) (fun _ _ => rfl) (Nat.le_of_ble_eq_true rfl) (Nat.le_of_ble_eq_true rfl) (Nat.le_of_ble_eq_true rfl) rfl ?_
      refine ev_iincN 169 (lv' := [_, some (.int _), _, _]) 1 dX2_encodeParts_166 rfl (Nat.le_of_ble_eq_true rfl) rfl rfl ?_
      refine ev_goto 21 dX2_encodeParts_169 (by decide) ?_
      refine ev_le (mle_s (mle_s (mle_s (mle_n (mle_0))))) ?_
      exact e
    have tail1 : Ev g mX2_encodeParts 83 [some (.ref (o + 4)), some (.int (nI sb)), some (.int (nI k)), some (.ref pt)] [.int (nI w1), .ref (x + 17)] B I2 J P Z := by
      refine ev_aload_n 84 dX2_encodeParts_83 rfl rfl ?_
      refine ev_invVv 87 (Mc := mX9_findPitch) ⟨lk745, lk78, hdX9_findPitch, (Nat.le_of_ble_eq_true rfl), (Nat.le_of_ble_eq_true rfl)⟩ lk742 lk743 lk744 mm_cl9 rfl dX2_encodeParts_84 (c3) rfl (hV.1 17 _ rfl) (Nat.le_of_ble_eq_true rfl) rfl rfl ?_
      refine ev_aload_n 88 dX2_encodeParts_87 rfl rfl ?_
      refine ev_getP 91 mm_cl2 (j := 0) (Nat.le_of_ble_eq_true rfl) dX2_encodeParts_88 lk369 (fun _ _ _ => rfl) (hC.1 4 _ rfl) (a := (x + 1)) (hC.2.2.2 0 _ _ _ rfl) rfl ?_
      refine ev_bipushN 93 12 dX2_encodeParts_91 (by decide +kernel) rfl ?_
      refine ev_aload_n 94 dX2_encodeParts_93 rfl rfl ?_
      refine ev_getI 97 mm_cl2 (j := 12) (Nat.le_of_ble_eq_true rfl) dX2_encodeParts_94 lk387 (fun _ _ _ => rfl) (hC.1 4 _ rfl) rfl ?_
      refine ev_eqI (y := nI (w2)) ((by rw [z3]; exact k2)) ?_
      refine ev_iaddN 98 dX2_encodeParts_97 rfl ?_
      refine ev_invVv 101 (Mc := mX10_mark) ⟨lk665, lk76, hdX10_mark, (Nat.le_of_ble_eq_true rfl), (Nat.le_of_ble_eq_true rfl)⟩ lk662 lk663 lk664 mm_cl10 rfl dX2_encodeParts_98 (m4) rfl (hV.1 1 _ rfl) (Nat.le_of_ble_eq_true rfl) rfl rfl ?_
      refine ev_aload_n 102 dX2_encodeParts_101 rfl rfl ?_
      refine ev_getP 105 mm_cl2 (j := 2) (Nat.le_of_ble_eq_true rfl) dX2_encodeParts_102 lk371 (fun _ _ _ => rfl) (hC.1 4 _ rfl) (a := (x + 17)) (hC.2.2.2 2 _ _ _ rfl) rfl ?_
      refine ev_aload_n 106 dX2_encodeParts_105 rfl rfl ?_
      refine ev_getI 109 mm_cl2 (j := 12) (Nat.le_of_ble_eq_true rfl) dX2_encodeParts_106 lk387 (fun _ _ _ => rfl) (hC.1 4 _ rfl) rfl ?_
      refine ev_eqI (y := nI (w2)) ((by rw [z4]; exact k2)) ?_
      refine ev_iconstN 110 1 dX2_encodeParts_109 rfl ?_
      refine ev_icmp_neN 113 117 dX2_encodeParts_110 (by decide) (by omega) (by omega) rfl (fun hw => ?_) (fun hw => ?_)
      · obtain rfl : w2 = 0 := by omega
        refine ev_iconstN 118 0 dX2_encodeParts_117 rfl ?_
        exact tail2
      · obtain rfl : w2 = 1 := by omega
        refine ev_iconstN 114 1 dX2_encodeParts_113 rfl ?_
        refine ev_goto 118 dX2_encodeParts_114 (by decide) ?_
        exact tail2
    refine ev_iload_n 22 dX2_encodeParts_21 rfl rfl ?_
    refine ev_iconstN 23 4 dX2_encodeParts_22 rfl ?_
    refine ev_icmp_geN 26 172 dX2_encodeParts_23 (by decide) (by omega) (by omega) rfl (fun hx => absurd hx ((by omega))) (fun hbr => ?_)
    refine ev_aload_n 27 dX2_encodeParts_26 rfl rfl ?_
    refine ev_getP 30 mm_cl2 (j := 5) (Nat.le_of_ble_eq_true rfl) dX2_encodeParts_27 lk375 (fun _ _ _ => rfl) (hC.1 4 _ rfl) (a := (o + 6)) (hC.2.2.1 7 _ _ _ rfl) rfl ?_
    refine ev_iload_n 31 dX2_encodeParts_30 rfl rfl ?_
    refine ev_aald 32 _ 7 dX2_encodeParts_31 (hC.1 6 _ rfl) rfl (by have hNN := hC.2.1 6 _ rfl; omega) rfl ?_
    refine ev_eqR (a := pt) (ptP) ?_
    refine ev_astore_n 33 (lv' := [_, _, some (.int _), _]) dX2_encodeParts_32 (Nat.le_of_ble_eq_true rfl) rfl rfl ?_
    refine ev_aload_n 34 dX2_encodeParts_33 rfl rfl ?_
    refine ev_getP 37 mm_cl2 (j := 2) (Nat.le_of_ble_eq_true rfl) dX2_encodeParts_34 lk371 (fun _ _ _ => rfl) (hC.1 4 _ rfl) (a := (x + 17)) (hC.2.2.2 2 _ _ _ rfl) rfl ?_
    refine ev_aload_n 38 dX2_encodeParts_37 rfl rfl ?_
    refine ev_getP 41 mm_cl2 (j := 6) (Nat.le_of_ble_eq_true rfl) dX2_encodeParts_38 lk377 (fun _ _ _ => rfl) (hC.1 4 _ rfl) (a := (o + 11)) (hC.2.2.1 8 _ _ _ rfl) rfl ?_
    refine ev_aload_n 42 dX2_encodeParts_41 rfl rfl ?_
    refine ev_getP 45 mm_cl2 (j := 7) (Nat.le_of_ble_eq_true rfl) dX2_encodeParts_42 lk378 (fun _ _ _ => rfl) (hC.1 4 _ rfl) (a := (o + 12)) (hC.2.2.1 9 _ _ _ rfl) rfl ?_
    refine ev_iload_n 46 dX2_encodeParts_45 rfl rfl ?_
    refine ev_iload_n 47 dX2_encodeParts_46 rfl rfl ?_
    refine ev_imulN 48 dX2_encodeParts_47 rfl ?_
    refine ev_iload_n 49 dX2_encodeParts_48 rfl rfl ?_
    refine ev_invVv 52 (Mc := mX9_load) ⟨lk740, lk78, hdX9_load, (Nat.le_of_ble_eq_true rfl), (Nat.le_of_ble_eq_true rfl)⟩ lk737 lk738 lk739 mm_cl9 rfl dX2_encodeParts_49 (ld) rfl (hV.1 17 _ rfl) (Nat.le_of_ble_eq_true rfl) rfl rfl ?_
    refine ev_aload_n 53 dX2_encodeParts_52 rfl rfl ?_
    refine ev_getP 56 mm_cl2 (j := 0) (Nat.le_of_ble_eq_true rfl) dX2_encodeParts_53 lk369 (fun _ _ _ => rfl) (hC.1 4 _ rfl) (a := (x + 1)) (hC.2.2.2 0 _ _ _ rfl) rfl ?_
    refine ev_bipushN 58 10 dX2_encodeParts_56 (by decide +kernel) rfl ?_
    refine ev_aload_n 59 dX2_encodeParts_58 rfl rfl ?_
    refine ev_getI 62 mm_cl2 (j := 11) (Nat.le_of_ble_eq_true rfl) dX2_encodeParts_59 lk385 (fun _ _ _ => rfl) (hC.1 4 _ rfl) rfl ?_
    refine ev_eqI (y := nI (w1)) ((by rw [z1]; exact k1)) ?_
    refine ev_iaddN 63 dX2_encodeParts_62 rfl ?_
    refine ev_invVv 66 (Mc := mX10_mark) ⟨lk665, lk76, hdX10_mark, (Nat.le_of_ble_eq_true rfl), (Nat.le_of_ble_eq_true rfl)⟩ lk662 lk663 lk664 mm_cl10 rfl dX2_encodeParts_63 (m2) rfl (hV.1 1 _ rfl) (Nat.le_of_ble_eq_true rfl) rfl rfl ?_
    refine ev_aload_n 67 dX2_encodeParts_66 rfl rfl ?_
    refine ev_getP 70 mm_cl2 (j := 2) (Nat.le_of_ble_eq_true rfl) dX2_encodeParts_67 lk371 (fun _ _ _ => rfl) (hC.1 4 _ rfl) (a := (x + 17)) (hC.2.2.2 2 _ _ _ rfl) rfl ?_
    refine ev_aload_n 71 dX2_encodeParts_70 rfl rfl ?_
    refine ev_getI 74 mm_cl2 (j := 11) (Nat.le_of_ble_eq_true rfl) dX2_encodeParts_71 lk385 (fun _ _ _ => rfl) (hC.1 4 _ rfl) rfl ?_
    refine ev_eqI (y := nI (w1)) ((by rw [z2]; exact k1)) ?_
    refine ev_iconstN 75 1 dX2_encodeParts_74 rfl ?_
    refine ev_icmp_neN 78 82 dX2_encodeParts_75 (by decide) (by omega) (by omega) rfl (fun hw => ?_) (fun hw => ?_)
    · obtain rfl : w1 = 0 := by omega
      refine ev_iconstN 83 0 dX2_encodeParts_82 rfl ?_
      exact tail1
    · obtain rfl : w1 = 1 := by omega
      refine ev_iconstN 79 1 dX2_encodeParts_78 rfl ?_
      refine ev_goto 83 dX2_encodeParts_79 (by decide) ?_
      exact tail1
end VHP
