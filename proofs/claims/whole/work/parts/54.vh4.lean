/-- EXCITED: the number before S, the excitation, the saturations of n of them -/
def sp_ew (p G : Int32) (A V : Nat → Int32) (n : Nat) : Int64 := (((nI 5 * p * A n) >>> (nI 5 &&& 31)) + ((G * V n) >>> (nI 5 &&& 31))).toInt64
def sp_eE (p G : Int32) (A V : Nat → Int32) : Nat → Int32 := fun n => sp_S (sp_ew p G A V n)
def sp_eT (p G : Int32) (A V : Nat → Int32) : Nat → Int64
  | 0 => 0
  | n + 1 => sp_eT p G A V n + sp_t (sp_ew p G A V n)
section VH4
variable {g : mm_G} {B : mm_B} {I : mm_TI} {J : mm_TJ} {P : mm_TP} {x b : Nat}
theorem lp_X6_speak {pt sb fr : Nat} {p G : Int32} {A V : Nat → Int32} {Z : mm_Z} (hV : lyV B P x) (hK : lyK B P x b) (tp : mm_T B pt = 107) (hpt : pt ≠ x + 9) (hb : sb ≤ 80) (ep : I pt 1 = p) (eA : ∀ n, n < sb → I (x + 7) n = A n) (eV : ∀ n, n < sb → I (x + 8) n = V n)
    (k : Ev g mX6_speak 113 [some (.ref b), some (.ref pt), some (.int (nI sb)), some (.int (nI fr)), none, none, none] [] B (va_up I (x + 9) (sgp (I (x + 9)) 0 sb (sp_eE p G A V))) (sp_up J (x + 1) 3 (sp_eT p G A V sb)) P Z) : ∀ (d n : Nat), n + d = sb →
    Ev g mX6_speak 44 [some (.ref b), some (.ref pt), some (.int (nI sb)), some (.int (nI fr)), some (.int G), some (.int (nI n)), none] [] B (va_up I (x + 9) (sgp (I (x + 9)) 0 n (sp_eE p G A V))) (sp_up J (x + 1) 3 (sp_eT p G A V n)) P Z := by
  intro d
  induction d with
  | zero =>
    intro n hn
    refine ev_iload 46 dX6_speak_44 rfl rfl ?_
    refine ev_iload_n 47 dX6_speak_46 rfl rfl ?_
    refine ev_icmp_geN 50 113 dX6_speak_47 (by decide) (by omega) (by omega) rfl (fun hbr => ?_) (fun hx => absurd ((by omega)) hx)
    obtain rfl : n = sb := by omega
    refine ev_le (mle_s (mle_s (mle_s (mle_s (mle_n (mle_n (mle_n (mle_0)))))))) ?_
    exact k
  | succ d ih =>
    intro n hn
    have e3 := ih (n + 1) (by omega)
    have e2 := sgp_grow (f := I (x + 9)) (off := 0) (n := n) (v := sp_eE p G A V) (x := sp_S (sp_ew p G A V n)) rfl
    simp only [Nat.zero_add] at e2
    rw [← e2] at e3
    refine ev_iload 46 dX6_speak_44 rfl rfl ?_
    refine ev_iload_n 47 dX6_speak_46 rfl rfl ?_
    refine ev_icmp_geN 50 113 dX6_speak_47 (by decide) (by omega) (by omega) rfl (fun hx => absurd hx ((by omega))) (fun hbr => ?_)
    refine ev_iconstN 51 5 dX6_speak_50 rfl ?_
    refine ev_aload_n 52 dX6_speak_51 rfl rfl ?_
    refine ev_getI 55 mm_cl7 (j := 1) (Nat.le_of_ble_eq_true rfl) dX6_speak_52 lk205 (fun _ _ _ => rfl) tp rfl ?_
    refine ev_eqI (y := (p)) ((by rw [va_up_n _ _ hpt]; exact ep)) ?_
    refine ev_imul 56 dX6_speak_55 rfl ?_
    refine ev_aload_n 57 dX6_speak_56 rfl rfl ?_
    refine ev_getP 60 mm_cl6 (j := 5) (Nat.le_of_ble_eq_true rfl) dX6_speak_57 lk355 (fun _ _ _ => rfl) (hK.1 0 _ rfl) (a := (x + 4)) (hK.2.2.2 1 _ _ _ rfl) rfl ?_
    refine ev_getP 63 mm_cl8 (j := 2) (Nat.le_of_ble_eq_true rfl) dX6_speak_60 lk139 (fun _ _ _ => rfl) (hV.1 4 _ rfl) (a := (x + 7)) (hV.2.2 10 _ _ _ rfl) rfl ?_
    refine ev_iload 65 dX6_speak_63 rfl rfl ?_
    refine ev_iald 66 _ dX6_speak_65 (hV.1 7 _ rfl) rfl (by have hNN := hV.2.1 7 _ rfl; omega) rfl ?_
    refine ev_eqI (y := (A n)) ((by rw [va_up_n _ _ (by omega)]; exact eA n (by omega))) ?_
    refine ev_imul 67 dX6_speak_66 rfl ?_
    refine ev_iconstN 68 5 dX6_speak_67 rfl ?_
    refine ev_ishr 69 dX6_speak_68 rfl ?_
    refine ev_istore 71 (lv' := [_, _, _, _, _, some (.int _), _]) dX6_speak_69 (Nat.le_of_ble_eq_true rfl) rfl rfl ?_
    refine ev_aload_n 72 dX6_speak_71 rfl rfl ?_
    refine ev_getP 75 mm_cl6 (j := 5) (Nat.le_of_ble_eq_true rfl) dX6_speak_72 lk355 (fun _ _ _ => rfl) (hK.1 0 _ rfl) (a := (x + 4)) (hK.2.2.2 1 _ _ _ rfl) rfl ?_
    refine ev_getP 78 mm_cl8 (j := 4) (Nat.le_of_ble_eq_true rfl) dX6_speak_75 lk144 (fun _ _ _ => rfl) (hV.1 4 _ rfl) (a := (x + 9)) (hV.2.2 12 _ _ _ rfl) rfl ?_
    refine ev_iload 80 dX6_speak_78 rfl rfl ?_
    refine ev_aload_n 81 dX6_speak_80 rfl rfl ?_
    refine ev_getP 84 mm_cl6 (j := 4) (Nat.le_of_ble_eq_true rfl) dX6_speak_81 lk354 (fun _ _ _ => rfl) (hK.1 0 _ rfl) (a := (x + 1)) (hK.2.2.2 0 _ _ _ rfl) rfl ?_
    refine ev_iload 86 dX6_speak_84 rfl rfl ?_
    refine ev_iload 88 dX6_speak_86 rfl rfl ?_
    refine ev_aload_n 89 dX6_speak_88 rfl rfl ?_
    refine ev_getP 92 mm_cl6 (j := 5) (Nat.le_of_ble_eq_true rfl) dX6_speak_89 lk355 (fun _ _ _ => rfl) (hK.1 0 _ rfl) (a := (x + 4)) (hK.2.2.2 1 _ _ _ rfl) rfl ?_
    refine ev_getP 95 mm_cl8 (j := 3) (Nat.le_of_ble_eq_true rfl) dX6_speak_92 lk142 (fun _ _ _ => rfl) (hV.1 4 _ rfl) (a := (x + 8)) (hV.2.2 11 _ _ _ rfl) rfl ?_
    refine ev_iload 97 dX6_speak_95 rfl rfl ?_
    refine ev_iald 98 _ dX6_speak_97 (hV.1 8 _ rfl) rfl (by have hNN := hV.2.1 8 _ rfl; omega) rfl ?_
    refine ev_eqI (y := (V n)) ((by rw [va_up_n _ _ (by omega)]; exact eV n (by omega))) ?_
    refine ev_imul 99 dX6_speak_98 rfl ?_
    refine ev_iconstN 100 5 dX6_speak_99 rfl ?_
    refine ev_ishr 101 dX6_speak_100 rfl ?_
    refine ev_iadd 102 dX6_speak_101 rfl ?_
    refine ev_i2l 103 dX6_speak_102 rfl ?_
    refine ev_invV 106 (Mc := mX10_narrow) ⟨lk674, lk76, hdX10_narrow, (Nat.le_of_ble_eq_true rfl), (Nat.le_of_ble_eq_true rfl)⟩ lk814 lk672 lk673 mm_cl10 rfl dX6_speak_103 (ct_X10_narrow hV) rfl (hV.1 1 _ rfl) (Nat.le_of_ble_eq_true rfl) rfl rfl ?_
    rw [sp_up_up]
    refine ev_iast 107 _ dX6_speak_106 (hV.1 9 _ rfl) rfl (by have hNN := hV.2.1 9 _ rfl; omega) rfl ?_
    refine ev_iincN 110 (lv' := [_, _, _, _, some (.int _), _, _]) 1 dX6_speak_107 rfl (Nat.le_of_ble_eq_true rfl) rfl rfl ?_
    refine ev_goto 44 dX6_speak_110 (by decide) ?_
    refine ev_le (mle_s (mle_s (mle_s (mle_s (mle_s (mle_s (mle_n (mle_0)))))))) ?_
    rw [va_up_s, bx_uu]
    exact e3
/-- EXCITED in the class: H, V, y; the working rows besides -/
theorem cx_X6_speak {pt sb fr L ev es od os j : Nat} {p : Int32} (hV : lyV B P x) (hK : lyK B P x b) (hG : ly_G g B) (hc : st_c g I) (hxb : x + 22 ≤ b) (hgx : ∀ i, i < 3 → g.2.2 i < x) (tp : mm_T B pt = 107) (hpt : pt ≠ x + 7 ∧ pt ≠ x + 8 ∧ pt ≠ x + 9) (hb : sb ≤ 80) (hfr : fr + sb ≤ 321)
    (hL : 20 ≤ L) (hL2 : L ≤ 147) (hj : j < 52) (p1 : ev < 2 ^ 30) (p2 : es < 2 ^ 31) (p3 : od < 2 ^ 30) (p4 : os < 2 ^ 31) (hz : ∀ j, 160 ≤ j → I (b + 1) j = 0)
    (f0 : I pt 0 = nI L) (f1 : I pt 1 = p) (f2 : I pt 2 = nI ev) (f3 : I pt 3 = nI es) (f4 : I pt 4 = nI od) (f5 : I pt 5 = nI os) (f6 : I pt 6 = nI j) : ∃ I' : mm_TI, Ct g mX6_speak [.ref b, .ref pt, .int (nI sb), .int (nI fr)] B I J P
    (none, B, I', sp_up J (x + 1) 3 (sp_eT p (nI (sp_gn j)) (sp_beh (I (b + 1)) L) (sp_pv sb ev es od os) sb + (sp_sq (I (b + 3)) (sp_eE p (nI (sp_gn j)) (sp_beh (I (b + 1)) L) (sp_pv sb ev es od os)) fr (I (b + 2), I (x + 6), 0) sb).2.2), P) ∧
    I' (b + 1) = sp_sh (I (b + 1)) (sp_eE p (nI (sp_gn j)) (sp_beh (I (b + 1)) L) (sp_pv sb ev es od os)) sb ∧
    I' (b + 2) = (sp_sq (I (b + 3)) (sp_eE p (nI (sp_gn j)) (sp_beh (I (b + 1)) L) (sp_pv sb ev es od os)) fr (I (b + 2), I (x + 6), 0) sb).1 ∧
    I' (x + 6) = (sp_sq (I (b + 3)) (sp_eE p (nI (sp_gn j)) (sp_beh (I (b + 1)) L) (sp_pv sb ev es od os)) fr (I (b + 2), I (x + 6), 0) sb).2.1 ∧
    (∀ n, n < sb → I' (x + 9) n = sp_eE p (nI (sp_gn j)) (sp_beh (I (b + 1)) L) (sp_pv sb ev es od os) n) ∧
    (∀ q, q ≠ b + 1 → q ≠ b + 2 → q ≠ x + 6 → q ≠ x + 7 → q ≠ x + 8 → q ≠ x + 9 → I' q = I q) := by
  have g0 := hgx 0 (by decide)
  have g1 := hgx 1 (by decide)
  have g2 := hgx 2 (by decide)
  obtain ⟨q7, q8, q9⟩ := hpt
  have n160 := hK.2.1 1 _ rfl
  have n7 := hV.2.1 7 _ rfl
  have n8 := hV.2.1 8 _ rfl
  generalize hEE : sp_eE p (nI (sp_gn j)) (sp_beh (I (b + 1)) L) (sp_pv sb ev es od os) = E
  generalize hI1 : va_up I (x + 7) (sgp (I (x + 7)) 0 sb (sp_beh (I (b + 1)) L)) = I1
  have a1 : ∀ q, q ≠ x + 7 → I1 q = I q := fun q h => by rw [← hI1, va_up_n _ _ h]
  generalize hI2 : va_up I1 (x + 8) (sp_pv sb ev es od os) = I2
  have a2 : ∀ q, q ≠ x + 7 → q ≠ x + 8 → I2 q = I q := fun q h h' => by rw [← hI2, va_up_n _ _ h']; exact a1 q h
  obtain ⟨I', c', r1, r2, r3, r4⟩ := cx_X6_settle (g := g) (I := va_up I2 (x + 9) (sgp (I2 (x + 9)) 0 sb E)) (J := sp_up J (x + 1) 3 (sp_eT p (nI (sp_gn j)) (sp_beh (I (b + 1)) L) (sp_pv sb ev es od os) sb)) (fr := fr) (sb := sb) (E := E) (H := I (b + 1)) hV hK hxb hb hfr
    (fun n hn => by rw [va_up_s]; have e := sgp_in (f := I2 (x + 9)) (v := E) (off := 0) hn; rw [Nat.zero_add] at e; exact e)
    (by rw [va_up_n _ _ (by omega)]; exact a2 _ (by omega) (by omega)) hz
  simp only [va_up_n I2 (k := x + 9) (j := b + 2) _ (by omega), va_up_n I2 (k := x + 9) (j := b + 3) _ (by omega), va_up_n I2 (k := x + 9) (j := x + 6) _ (by omega), a2 (b + 2) (by omega) (by omega), a2 (b + 3) (by omega) (by omega), a2 (x + 6) (by omega) (by omega), sp_up_up] at c' r1 r2 r3
  refine ⟨I', ?_, r1, r2, r3, fun n hn => ?_, fun q h1 h2 h3 h4 h5 h6 => ?_⟩
  · refine ct_of (lv := [some (.ref b), some (.ref pt), some (.int (nI sb)), some (.int (nI fr)), none, none, none]) (by decide +kernel) (Nat.le_of_ble_eq_true rfl) rfl ?_
    refine ev_aload_n 1 dX6_speak_0 rfl rfl ?_
    refine ev_getP 4 mm_cl6 (j := 0) (Nat.le_of_ble_eq_true rfl) dX6_speak_1 lk341 (fun _ _ _ => rfl) (hK.1 0 _ rfl) (a := (b + 1)) (hK.2.2.1 0 _ _ _ rfl) rfl ?_
    refine ev_aload_n 5 dX6_speak_4 rfl rfl ?_
    refine ev_getI 8 mm_cl7 (j := 0) (Nat.le_of_ble_eq_true rfl) dX6_speak_5 lk199 (fun _ _ _ => rfl) tp rfl ?_
    refine ev_eqI (y := nI (L)) (f0) ?_
    refine ev_aload_n 9 dX6_speak_8 rfl rfl ?_
    refine ev_getP 12 mm_cl6 (j := 5) (Nat.le_of_ble_eq_true rfl) dX6_speak_9 lk355 (fun _ _ _ => rfl) (hK.1 0 _ rfl) (a := (x + 4)) (hK.2.2.2 1 _ _ _ rfl) rfl ?_
    refine ev_getP 15 mm_cl8 (j := 2) (Nat.le_of_ble_eq_true rfl) dX6_speak_12 lk139 (fun _ _ _ => rfl) (hV.1 4 _ rfl) (a := (x + 7)) (hV.2.2 10 _ _ _ rfl) rfl ?_
    refine ev_iload_n 16 dX6_speak_15 rfl rfl ?_
    refine ev_invSNv 19 (Mc := mX11_lookBehind) ⟨lk756, lk75, hdX11_lookBehind, (Nat.le_of_ble_eq_true rfl), (Nat.le_of_ble_eq_true rfl)⟩ lk803 lk755 dX6_speak_16 (ct_X11_lookBehind (qh := b + 1) (qa := x + 7) (by omega) (hK.1 1 _ rfl) (hV.1 7 _ rfl) (by omega) (by omega) hb hL hL2) rfl (Nat.le_of_ble_eq_true rfl) rfl rfl ?_
    rw [hI1]
    refine ev_aload_n 20 dX6_speak_19 rfl rfl ?_
    refine ev_aload_n 21 dX6_speak_20 rfl rfl ?_
    refine ev_getP 24 mm_cl6 (j := 5) (Nat.le_of_ble_eq_true rfl) dX6_speak_21 lk355 (fun _ _ _ => rfl) (hK.1 0 _ rfl) (a := (x + 4)) (hK.2.2.2 1 _ _ _ rfl) rfl ?_
    refine ev_getP 27 mm_cl8 (j := 3) (Nat.le_of_ble_eq_true rfl) dX6_speak_24 lk142 (fun _ _ _ => rfl) (hV.1 4 _ rfl) (a := (x + 8)) (hV.2.2 11 _ _ _ rfl) rfl ?_
    refine ev_iload_n 28 dX6_speak_27 rfl rfl ?_
    refine ev_invVv 31 (Mc := mX7_drawPulses) ⟨lk807, lk79, hdX7_drawPulses, (Nat.le_of_ble_eq_true rfl), (Nat.le_of_ble_eq_true rfl)⟩ lk804 lk805 lk806 mm_cl7 rfl dX6_speak_28 (ct_X7_drawPulses (qa := x + 8) hG (by rw [← hI1]; exact st_c_up hc (by omega) (by omega) (by omega)) tp q8 (by omega) (by omega) (by omega) (hV.1 8 _ rfl) (by omega) (by omega) hb (by rw [a1 pt q7]; exact f2) (by rw [a1 pt q7]; exact f3) (by rw [a1 pt q7]; exact f4) (by rw [a1 pt q7]; exact f5) p1 p2 p3 p4) rfl tp (Nat.le_of_ble_eq_true rfl) rfl rfl ?_
    rw [hI2]
    refine ev_getsN 34 (i := 1) rfl dX6_speak_31 lk813 rfl ?_
    refine ev_aload_n 35 dX6_speak_34 rfl rfl ?_
    refine ev_getI 38 mm_cl7 (j := 6) (Nat.le_of_ble_eq_true rfl) dX6_speak_35 lk215 (fun _ _ _ => rfl) tp rfl ?_
    refine ev_eqI (y := nI (j)) ((by rw [a2 pt q7 q8]; exact f6)) ?_
    refine ev_ialdR 39 _ dX6_speak_38 (hG 1 _ rfl).1 rfl (by have hNN := (hG 1 _ rfl).2; omega) rfl ?_
    refine ev_eqI (y := (nI (sp_gn j))) ((by rw [a2 _ (by omega) (by omega)]; exact hc.2.1 j hj)) ?_
    refine ev_istore 41 (lv' := [_, _, _, some (.int _), _, _, _]) dX6_speak_39 (Nat.le_of_ble_eq_true rfl) rfl rfl ?_
    refine ev_iconstN 42 0 dX6_speak_41 rfl ?_
    refine ev_istore 44 (lv' := [_, _, _, _, some (.int _), _, _]) dX6_speak_42 (Nat.le_of_ble_eq_true rfl) rfl rfl ?_
    have e := lp_X6_speak (g := g) (I := I2) (J := J) (pt := pt) (sb := sb) (fr := fr) (p := p) (G := nI (sp_gn j)) (A := sp_beh (I (b + 1)) L) (V := sp_pv sb ev es od os) (Z := (none, B, I', sp_up J (x + 1) 3 (sp_eT p (nI (sp_gn j)) (sp_beh (I (b + 1)) L) (sp_pv sb ev es od os) sb + (sp_sq (I (b + 3)) E fr (I (b + 2), I (x + 6), 0) sb).2.2), P)) hV hK tp q9 hb (by rw [a2 pt q7 q8]; exact f1)
      (fun n hn => by rw [← hI2, va_up_n _ _ (by omega), ← hI1, va_up_s]; have e := sgp_in (f := I (x + 7)) (v := sp_beh (I (b + 1)) L) (off := 0) hn; rw [Nat.zero_add] at e; exact e) (fun n hn => by rw [← hI2, va_up_s]) ?_ sb 0 (by omega)
    · rw [sgp_0, va_up_id, show sp_eT p (nI (sp_gn j)) (sp_beh (I (b + 1)) L) (sp_pv sb ev es od os) 0 = 0 from rfl, sp_up_0] at e
      exact e
    rw [hEE]
    refine ev_aload_n 114 dX6_speak_113 rfl rfl ?_
    refine ev_iload_n 115 dX6_speak_114 rfl rfl ?_
    refine ev_iload_n 116 dX6_speak_115 rfl rfl ?_
    refine ev_invVv 119 (Mc := mX6_settle) ⟨lk818, lk84, hdX6_settle, (Nat.le_of_ble_eq_true rfl), (Nat.le_of_ble_eq_true rfl)⟩ lk815 lk817 lk18 mm_cl6 rfl dX6_speak_116 (c') rfl (hK.1 0 _ rfl) (Nat.le_of_ble_eq_true rfl) rfl rfl ?_
    exact ev_vret dX6_speak_119 rfl (rfl)
  · rw [r4 _ (by omega) (by omega) (by omega), va_up_s]
    have e := sgp_in (f := I2 (x + 9)) (v := E) (off := 0) hn
    rw [Nat.zero_add] at e
    exact e
  · rw [r4 q h1 h2 h3, va_up_n _ _ h6]
    exact a2 q h4 h5
end VH4
