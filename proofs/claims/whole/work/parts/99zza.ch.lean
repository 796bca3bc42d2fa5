/-! THE HOUSE is made -/
section CH0
variable {g : mm_G} {B : mm_B} {I : mm_TI} {J : mm_TJ} {P : mm_TP}
def lX11 : List (Nat × Nat × Nat) := [(111, 0, 10), (110, 0, 4), (200, 8, 8), (200, 32, 32), (108, 0, 12), (200, 320, 320), (200, 321, 321), (200, 80, 80), (200, 80, 80), (200, 80, 80), (200, 160, 160), (200, 80, 80), (200, 80, 80), (200, 80, 80), (200, 80, 80), (204, 9, 9), (204, 8, 8), (109, 0, 5), (107, 0, 9), (205, 8, 8), (201, 64, 64), (200, 1284, 1284)]
/-- a new house at z -/
def NewV (z : Nat) (I : mm_TI) (J : mm_TJ) (P : mm_TP) : Prop :=
  I z = (fun _ => 0) ∧ I (z + 1) = (fun _ => 0) ∧ J (z + 1) = (fun _ => 0) ∧ I (z + 2) = (fun _ => 0) ∧ (∀ k, 5 ≤ k → k ≤ 14 → I (z + k) = fun _ => 0) ∧ J (z + 15) = (fun _ => 0) ∧ J (z + 16) = (fun _ => 0) ∧ ly_P P z z lyV_P
theorem cx_X11_init (hI : I (mm_nx B) = fun _ => 0) : ∃ (I' : mm_TI) (J' : mm_TJ) (P' : mm_TP), Ct g mX11_init [.ref (mm_nx B)] (als B (lX11.take 1)) I J P (none, als B lX11, I', J', P') ∧ NewV (mm_nx B) I' J' P' ∧ (∀ q, q < mm_nx B → I' q = I q ∧ J' q = J q ∧ P' q = P q) := by
  generalize hz : mm_nx B = z at hI ⊢
  obtain ⟨Ia, Ja, Pa, ba, a1, a2, a3, a4⟩ : ∃ (I' : mm_TI) (J' : mm_TJ) (P' : mm_TP), (∀ Z : mm_Z, Ev g mX11_init 9 [some (.ref z)] [.ref (z + 1), .ref (z + 1), .ref z] (als B (lX11.take 2)) I' J' P' Z → Ev g mX11_init 0 [some (.ref z)] [] (als B (lX11.take 1)) I J P Z) ∧ I' (z + 1) = (fun _ => 0) ∧ J' (z + 1) = (fun _ => 0) ∧ (∀ q, q < z + 1 → I' q = I q ∧ J' q = J q) ∧ (∀ q, q < z + 1 → P' q = P q) := ⟨_, _, _, by
    intro Z K
    have T0_1 : mm_T (als B (lX11.take 1)) z = 111 := als_t (i := 0) hz rfl rfl rfl
    have X1 : mm_nx (als B (lX11.take 1)) = z + 1 := by rw [als_x, hz]; rfl
    refine ev_aload_n 1 dX11_init_0 rfl rfl ?_
    refine ev_objInit 4 dX11_init_1 lk96 lk97 lk98 (Nat.le_of_ble_eq_true rfl) (Nat.le_of_ble_eq_true rfl) (Nat.le_of_ble_eq_true rfl) rfl ?_
    refine ev_aload_n 5 dX11_init_4 rfl rfl ?_
    refine ev_new 8 mm_cl10 dX11_init_5 lk99 lk100 lk76 rfl ?_
    rw [X1]
    have T0_2 : mm_T (als B (lX11.take 2)) z = 111 := als_t (i := 0) hz rfl rfl rfl
    have T1_2 : mm_T (als B (lX11.take 2)) (z + 1) = 110 := als_t (i := 1) hz rfl rfl rfl
    have X2 : mm_nx (als B (lX11.take 2)) = z + 2 := by rw [als_x, hz]; rfl
    show Ev g _ 8 _ _ (als B (lX11.take 2)) _ _ _ _
    refine ev_dup 9 dX11_init_8 rfl rfl ?_
    exact K
    , by
    refine ⟨?_, ?_, fun q hq => ⟨?_, ?_⟩, fun q hq => ?_⟩ <;> simp (disch := omega) only [va_up_s, va_up_n]⟩
  have x1 : mm_nx (als B (lX11.take 1)) = z + 1 := by rw [als_x, hz]; rfl
  obtain ⟨I5, J5, P5, c5, h1, h2, h3, h4⟩ := cx_X10_init (g := g) (B := als B (lX11.take 1)) (I := Ia) (J := Ja) (P := Pa)
  rw [x1] at c5 h1 h2 h3 h4
  simp only [als_app] at c5
  rw [show lX11.take 1 ++ lX10_init.take 1 = lX11.take 2 from rfl, show lX11.take 1 ++ lX10_init = lX11.take 4 from rfl] at c5
  obtain ⟨Ib, Jb, Pb, bb, b2, b3, b4⟩ : ∃ (I' : mm_TI) (J' : mm_TJ) (P' : mm_TP), (∀ Z : mm_Z, Ev g mX11_init 20 [some (.ref z)] [.ref (z + 4), .ref (z + 4), .ref z] (als B (lX11.take 5)) I' J' P' Z → Ev g mX11_init 12 [some (.ref z)] [.ref (z + 1), .ref z] (als B (lX11.take 4)) I5 J5 P5 Z) ∧ (∀ q, q < z + 4 → I' q = I5 q ∧ J' q = J5 q) ∧ P' z = va_up (P5 z) 0 (some (z + 1)) ∧ (∀ q, q < z + 4 → q ≠ z → P' q = P5 q) := ⟨_, _, _, by
    intro Z K
    have T0_4 : mm_T (als B (lX11.take 4)) z = 111 := als_t (i := 0) hz rfl rfl rfl
    have T1_4 : mm_T (als B (lX11.take 4)) (z + 1) = 110 := als_t (i := 1) hz rfl rfl rfl
    have T2_4 : mm_T (als B (lX11.take 4)) (z + 2) = 200 := als_t (i := 2) hz rfl rfl rfl
    have T3_4 : mm_T (als B (lX11.take 4)) (z + 3) = 200 := als_t (i := 3) hz rfl rfl rfl
    have X4 : mm_nx (als B (lX11.take 4)) = z + 4 := by rw [als_x, hz]; rfl
    refine ev_putFP 15 mm_cl11 (j := 0) (Nat.le_of_ble_eq_true rfl) dX11_init_12 lk261 rfl rfl rfl (fun _ _ _ => rfl) rfl rfl T0_4 rfl ?_
    refine ev_aload_n 16 dX11_init_15 rfl rfl ?_
    refine ev_new 19 mm_cl8 dX11_init_16 lk126 lk127 lk77 rfl ?_
    rw [X4]
    have T0_5 : mm_T (als B (lX11.take 5)) z = 111 := als_t (i := 0) hz rfl rfl rfl
    have T1_5 : mm_T (als B (lX11.take 5)) (z + 1) = 110 := als_t (i := 1) hz rfl rfl rfl
    have T2_5 : mm_T (als B (lX11.take 5)) (z + 2) = 200 := als_t (i := 2) hz rfl rfl rfl
    have T3_5 : mm_T (als B (lX11.take 5)) (z + 3) = 200 := als_t (i := 3) hz rfl rfl rfl
    have T4_5 : mm_T (als B (lX11.take 5)) (z + 4) = 108 := als_t (i := 4) hz rfl rfl rfl
    have X5 : mm_nx (als B (lX11.take 5)) = z + 5 := by rw [als_x, hz]; rfl
    show Ev g _ 19 _ _ (als B (lX11.take 5)) _ _ _ _
    refine ev_dup 20 dX11_init_19 rfl rfl ?_
    exact K
    , by
    refine ⟨fun q hq => ⟨?_, ?_⟩, ?_, fun q hq hn => ?_⟩ <;> simp (disch := omega) only [va_up_s, va_up_n]⟩
  have x4 : mm_nx (als B (lX11.take 4)) = z + 4 := by rw [als_x, hz]; rfl
  obtain ⟨I2, J2, P2, c2, e1, e2, e3, e4⟩ := cx_X8_init (g := g) (B := als B (lX11.take 4)) (I := Ib) (J := Jb) (P := Pb)
  rw [x4] at c2 e1 e2 e3 e4
  simp only [als_app] at c2
  rw [show lX11.take 4 ++ lX8_init.take 1 = lX11.take 5 from rfl, show lX11.take 4 ++ lX8_init = lX11.take 17 from rfl] at c2
  obtain ⟨Ic, Jc, Pc, bc, d2, d3, d4⟩ : ∃ (I' : mm_TI) (J' : mm_TJ) (P' : mm_TP), (∀ Z : mm_Z, Ev g mX11_init 35 [some (.ref z)] [.ref (z + 4), .ref (z + 17), .ref (z + 17), .ref z] (als B (lX11.take 18)) I' J' P' Z → Ev g mX11_init 23 [some (.ref z)] [.ref (z + 4), .ref z] (als B (lX11.take 17)) I2 J2 P2 Z) ∧ (∀ q, q < z + 17 → I' q = I2 q ∧ J' q = J2 q) ∧ P' z = va_up (P2 z) 1 (some (z + 4)) ∧ (∀ q, q < z + 17 → q ≠ z → P' q = P2 q) := ⟨_, _, _, by
    intro Z K
    have T0_17 : mm_T (als B (lX11.take 17)) z = 111 := als_t (i := 0) hz rfl rfl rfl
    have T1_17 : mm_T (als B (lX11.take 17)) (z + 1) = 110 := als_t (i := 1) hz rfl rfl rfl
    have T2_17 : mm_T (als B (lX11.take 17)) (z + 2) = 200 := als_t (i := 2) hz rfl rfl rfl
    have T3_17 : mm_T (als B (lX11.take 17)) (z + 3) = 200 := als_t (i := 3) hz rfl rfl rfl
    have T4_17 : mm_T (als B (lX11.take 17)) (z + 4) = 108 := als_t (i := 4) hz rfl rfl rfl
    have T5_17 : mm_T (als B (lX11.take 17)) (z + 5) = 200 := als_t (i := 5) hz rfl rfl rfl
    have T6_17 : mm_T (als B (lX11.take 17)) (z + 6) = 200 := als_t (i := 6) hz rfl rfl rfl
    have T7_17 : mm_T (als B (lX11.take 17)) (z + 7) = 200 := als_t (i := 7) hz rfl rfl rfl
    have T8_17 : mm_T (als B (lX11.take 17)) (z + 8) = 200 := als_t (i := 8) hz rfl rfl rfl
    have T9_17 : mm_T (als B (lX11.take 17)) (z + 9) = 200 := als_t (i := 9) hz rfl rfl rfl
    have T10_17 : mm_T (als B (lX11.take 17)) (z + 10) = 200 := als_t (i := 10) hz rfl rfl rfl
    have T11_17 : mm_T (als B (lX11.take 17)) (z + 11) = 200 := als_t (i := 11) hz rfl rfl rfl
    have T12_17 : mm_T (als B (lX11.take 17)) (z + 12) = 200 := als_t (i := 12) hz rfl rfl rfl
    have T13_17 : mm_T (als B (lX11.take 17)) (z + 13) = 200 := als_t (i := 13) hz rfl rfl rfl
    have T14_17 : mm_T (als B (lX11.take 17)) (z + 14) = 200 := als_t (i := 14) hz rfl rfl rfl
    have T15_17 : mm_T (als B (lX11.take 17)) (z + 15) = 204 := als_t (i := 15) hz rfl rfl rfl
    have T16_17 : mm_T (als B (lX11.take 17)) (z + 16) = 204 := als_t (i := 16) hz rfl rfl rfl
    have X17 : mm_nx (als B (lX11.take 17)) = z + 17 := by rw [als_x, hz]; rfl
    refine ev_putFP 26 mm_cl11 (j := 1) (Nat.le_of_ble_eq_true rfl) dX11_init_23 lk262 rfl rfl rfl (fun _ _ _ => rfl) rfl rfl T0_17 rfl ?_
    refine ev_aload_n 27 dX11_init_26 rfl rfl ?_
    refine ev_new 30 mm_cl9 dX11_init_27 lk186 lk187 lk78 rfl ?_
    rw [X17]
    have T0_18 : mm_T (als B (lX11.take 18)) z = 111 := als_t (i := 0) hz rfl rfl rfl
    have T1_18 : mm_T (als B (lX11.take 18)) (z + 1) = 110 := als_t (i := 1) hz rfl rfl rfl
    have T2_18 : mm_T (als B (lX11.take 18)) (z + 2) = 200 := als_t (i := 2) hz rfl rfl rfl
    have T3_18 : mm_T (als B (lX11.take 18)) (z + 3) = 200 := als_t (i := 3) hz rfl rfl rfl
    have T4_18 : mm_T (als B (lX11.take 18)) (z + 4) = 108 := als_t (i := 4) hz rfl rfl rfl
    have T5_18 : mm_T (als B (lX11.take 18)) (z + 5) = 200 := als_t (i := 5) hz rfl rfl rfl
    have T6_18 : mm_T (als B (lX11.take 18)) (z + 6) = 200 := als_t (i := 6) hz rfl rfl rfl
    have T7_18 : mm_T (als B (lX11.take 18)) (z + 7) = 200 := als_t (i := 7) hz rfl rfl rfl
    have T8_18 : mm_T (als B (lX11.take 18)) (z + 8) = 200 := als_t (i := 8) hz rfl rfl rfl
    have T9_18 : mm_T (als B (lX11.take 18)) (z + 9) = 200 := als_t (i := 9) hz rfl rfl rfl
    have T10_18 : mm_T (als B (lX11.take 18)) (z + 10) = 200 := als_t (i := 10) hz rfl rfl rfl
    have T11_18 : mm_T (als B (lX11.take 18)) (z + 11) = 200 := als_t (i := 11) hz rfl rfl rfl
    have T12_18 : mm_T (als B (lX11.take 18)) (z + 12) = 200 := als_t (i := 12) hz rfl rfl rfl
    have T13_18 : mm_T (als B (lX11.take 18)) (z + 13) = 200 := als_t (i := 13) hz rfl rfl rfl
    have T14_18 : mm_T (als B (lX11.take 18)) (z + 14) = 200 := als_t (i := 14) hz rfl rfl rfl
    have T15_18 : mm_T (als B (lX11.take 18)) (z + 15) = 204 := als_t (i := 15) hz rfl rfl rfl
    have T16_18 : mm_T (als B (lX11.take 18)) (z + 16) = 204 := als_t (i := 16) hz rfl rfl rfl
    have T17_18 : mm_T (als B (lX11.take 18)) (z + 17) = 109 := als_t (i := 17) hz rfl rfl rfl
    have X18 : mm_nx (als B (lX11.take 18)) = z + 18 := by rw [als_x, hz]; rfl
    show Ev g _ 30 _ _ (als B (lX11.take 18)) _ _ _ _
    refine ev_dup 31 dX11_init_30 rfl rfl ?_
    refine ev_aload_n 32 dX11_init_31 rfl rfl ?_
    refine ev_getP 35 mm_cl11 (j := 1) (Nat.le_of_ble_eq_true rfl) dX11_init_32 lk262 (fun _ _ _ => rfl) T0_18 (a := (z + 4)) ((by simp (disch := omega) only [va_up_s, va_up_n])) rfl ?_
    exact K
    , by
    refine ⟨fun q hq => ⟨?_, ?_⟩, ?_, fun q hq hn => ?_⟩ <;> simp (disch := omega) only [va_up_s, va_up_n]⟩
  have x17 : mm_nx (als B (lX11.take 17)) = z + 17 := by rw [als_x, hz]; rfl
  obtain ⟨I1, J1, P1, c1, k1, k2, k7⟩ := cx_X9_init (g := g) (B := als B (lX11.take 17)) (I := Ic) (J := Jc) (P := Pc) (rw := z + 4)
  rw [x17] at c1 k1 k2 k7
  simp only [als_app] at c1
  rw [show lX11.take 17 ++ lX9.take 1 = lX11.take 18 from rfl, show lX11.take 17 ++ lX9 = lX11.take 19 from rfl] at c1
  obtain ⟨Id, Jd, Pd, bd, g2, g3, g4⟩ : ∃ (I' : mm_TI) (J' : mm_TJ) (P' : mm_TP), Ev g mX11_init 38 [some (.ref z)] [.ref (z + 17), .ref z] (als B (lX11.take 19)) I1 J1 P1 (none, als B lX11, I', J', P') ∧ (∀ q, q < z + 19 → I' q = I1 q ∧ J' q = J1 q) ∧ P' z = va_up (va_up (va_up (va_up (P1 z) 2 (some (z + 17))) 3 (some (z + 19))) 5 (some (z + 20))) 7 (some (z + 21)) ∧ (∀ q, q < z + 19 → q ≠ z → P' q = P1 q) := ⟨_, _, _, by
    have T0_19 : mm_T (als B (lX11.take 19)) z = 111 := als_t (i := 0) hz rfl rfl rfl
    have T1_19 : mm_T (als B (lX11.take 19)) (z + 1) = 110 := als_t (i := 1) hz rfl rfl rfl
    have T2_19 : mm_T (als B (lX11.take 19)) (z + 2) = 200 := als_t (i := 2) hz rfl rfl rfl
    have T3_19 : mm_T (als B (lX11.take 19)) (z + 3) = 200 := als_t (i := 3) hz rfl rfl rfl
    have T4_19 : mm_T (als B (lX11.take 19)) (z + 4) = 108 := als_t (i := 4) hz rfl rfl rfl
    have T5_19 : mm_T (als B (lX11.take 19)) (z + 5) = 200 := als_t (i := 5) hz rfl rfl rfl
    have T6_19 : mm_T (als B (lX11.take 19)) (z + 6) = 200 := als_t (i := 6) hz rfl rfl rfl
    have T7_19 : mm_T (als B (lX11.take 19)) (z + 7) = 200 := als_t (i := 7) hz rfl rfl rfl
    have T8_19 : mm_T (als B (lX11.take 19)) (z + 8) = 200 := als_t (i := 8) hz rfl rfl rfl
    have T9_19 : mm_T (als B (lX11.take 19)) (z + 9) = 200 := als_t (i := 9) hz rfl rfl rfl
    have T10_19 : mm_T (als B (lX11.take 19)) (z + 10) = 200 := als_t (i := 10) hz rfl rfl rfl
    have T11_19 : mm_T (als B (lX11.take 19)) (z + 11) = 200 := als_t (i := 11) hz rfl rfl rfl
    have T12_19 : mm_T (als B (lX11.take 19)) (z + 12) = 200 := als_t (i := 12) hz rfl rfl rfl
    have T13_19 : mm_T (als B (lX11.take 19)) (z + 13) = 200 := als_t (i := 13) hz rfl rfl rfl
    have T14_19 : mm_T (als B (lX11.take 19)) (z + 14) = 200 := als_t (i := 14) hz rfl rfl rfl
    have T15_19 : mm_T (als B (lX11.take 19)) (z + 15) = 204 := als_t (i := 15) hz rfl rfl rfl
    have T16_19 : mm_T (als B (lX11.take 19)) (z + 16) = 204 := als_t (i := 16) hz rfl rfl rfl
    have T17_19 : mm_T (als B (lX11.take 19)) (z + 17) = 109 := als_t (i := 17) hz rfl rfl rfl
    have T18_19 : mm_T (als B (lX11.take 19)) (z + 18) = 107 := als_t (i := 18) hz rfl rfl rfl
    have X19 : mm_nx (als B (lX11.take 19)) = z + 19 := by rw [als_x, hz]; rfl
    refine ev_putFP 41 mm_cl11 (j := 2) (Nat.le_of_ble_eq_true rfl) dX11_init_38 lk263 rfl rfl rfl (fun _ _ _ => rfl) rfl rfl T0_19 rfl ?_
    refine ev_aload_n 42 dX11_init_41 rfl rfl ?_
    refine ev_bipushN 44 8 dX11_init_42 (by decide +kernel) rfl ?_
    refine ev_anew 47 (8) 0 dX11_init_44 rfl lk259 lk260 rfl (by omega) rfl ?_
    rw [X19]
    have T0_20 : mm_T (als B (lX11.take 20)) z = 111 := als_t (i := 0) hz rfl rfl rfl
    have T1_20 : mm_T (als B (lX11.take 20)) (z + 1) = 110 := als_t (i := 1) hz rfl rfl rfl
    have T2_20 : mm_T (als B (lX11.take 20)) (z + 2) = 200 := als_t (i := 2) hz rfl rfl rfl
    have T3_20 : mm_T (als B (lX11.take 20)) (z + 3) = 200 := als_t (i := 3) hz rfl rfl rfl
    have T4_20 : mm_T (als B (lX11.take 20)) (z + 4) = 108 := als_t (i := 4) hz rfl rfl rfl
    have T5_20 : mm_T (als B (lX11.take 20)) (z + 5) = 200 := als_t (i := 5) hz rfl rfl rfl
    have T6_20 : mm_T (als B (lX11.take 20)) (z + 6) = 200 := als_t (i := 6) hz rfl rfl rfl
    have T7_20 : mm_T (als B (lX11.take 20)) (z + 7) = 200 := als_t (i := 7) hz rfl rfl rfl
    have T8_20 : mm_T (als B (lX11.take 20)) (z + 8) = 200 := als_t (i := 8) hz rfl rfl rfl
    have T9_20 : mm_T (als B (lX11.take 20)) (z + 9) = 200 := als_t (i := 9) hz rfl rfl rfl
    have T10_20 : mm_T (als B (lX11.take 20)) (z + 10) = 200 := als_t (i := 10) hz rfl rfl rfl
    have T11_20 : mm_T (als B (lX11.take 20)) (z + 11) = 200 := als_t (i := 11) hz rfl rfl rfl
    have T12_20 : mm_T (als B (lX11.take 20)) (z + 12) = 200 := als_t (i := 12) hz rfl rfl rfl
    have T13_20 : mm_T (als B (lX11.take 20)) (z + 13) = 200 := als_t (i := 13) hz rfl rfl rfl
    have T14_20 : mm_T (als B (lX11.take 20)) (z + 14) = 200 := als_t (i := 14) hz rfl rfl rfl
    have T15_20 : mm_T (als B (lX11.take 20)) (z + 15) = 204 := als_t (i := 15) hz rfl rfl rfl
    have T16_20 : mm_T (als B (lX11.take 20)) (z + 16) = 204 := als_t (i := 16) hz rfl rfl rfl
    have T17_20 : mm_T (als B (lX11.take 20)) (z + 17) = 109 := als_t (i := 17) hz rfl rfl rfl
    have T18_20 : mm_T (als B (lX11.take 20)) (z + 18) = 107 := als_t (i := 18) hz rfl rfl rfl
    have T19_20 : mm_T (als B (lX11.take 20)) (z + 19) = 205 := als_t (i := 19) hz rfl rfl rfl
    have N19_20 : mm_N (als B (lX11.take 20)) (z + 19) = 8 := als_n (i := 19) hz rfl rfl rfl
    have X20 : mm_nx (als B (lX11.take 20)) = z + 20 := by rw [als_x, hz]; rfl
    show Ev g _ 47 _ _ (als B (lX11.take 20)) _ _ _ _
    refine ev_putFP 50 mm_cl11 (j := 3) (Nat.le_of_ble_eq_true rfl) dX11_init_47 lk264 rfl rfl rfl (fun _ _ _ => rfl) rfl rfl T0_20 rfl ?_
    refine ev_aload_n 51 dX11_init_50 rfl rfl ?_
    refine ev_bipushN 53 64 dX11_init_51 (by decide +kernel) rfl ?_
    refine ev_newa 55 (64) 1 dX11_init_53 rfl (by decide) lk292 rfl (by omega) rfl ?_
    rw [X20]
    have T0_21 : mm_T (als B (lX11.take 21)) z = 111 := als_t (i := 0) hz rfl rfl rfl
    have T1_21 : mm_T (als B (lX11.take 21)) (z + 1) = 110 := als_t (i := 1) hz rfl rfl rfl
    have T2_21 : mm_T (als B (lX11.take 21)) (z + 2) = 200 := als_t (i := 2) hz rfl rfl rfl
    have T3_21 : mm_T (als B (lX11.take 21)) (z + 3) = 200 := als_t (i := 3) hz rfl rfl rfl
    have T4_21 : mm_T (als B (lX11.take 21)) (z + 4) = 108 := als_t (i := 4) hz rfl rfl rfl
    have T5_21 : mm_T (als B (lX11.take 21)) (z + 5) = 200 := als_t (i := 5) hz rfl rfl rfl
    have T6_21 : mm_T (als B (lX11.take 21)) (z + 6) = 200 := als_t (i := 6) hz rfl rfl rfl
    have T7_21 : mm_T (als B (lX11.take 21)) (z + 7) = 200 := als_t (i := 7) hz rfl rfl rfl
    have T8_21 : mm_T (als B (lX11.take 21)) (z + 8) = 200 := als_t (i := 8) hz rfl rfl rfl
    have T9_21 : mm_T (als B (lX11.take 21)) (z + 9) = 200 := als_t (i := 9) hz rfl rfl rfl
    have T10_21 : mm_T (als B (lX11.take 21)) (z + 10) = 200 := als_t (i := 10) hz rfl rfl rfl
    have T11_21 : mm_T (als B (lX11.take 21)) (z + 11) = 200 := als_t (i := 11) hz rfl rfl rfl
    have T12_21 : mm_T (als B (lX11.take 21)) (z + 12) = 200 := als_t (i := 12) hz rfl rfl rfl
    have T13_21 : mm_T (als B (lX11.take 21)) (z + 13) = 200 := als_t (i := 13) hz rfl rfl rfl
    have T14_21 : mm_T (als B (lX11.take 21)) (z + 14) = 200 := als_t (i := 14) hz rfl rfl rfl
    have T15_21 : mm_T (als B (lX11.take 21)) (z + 15) = 204 := als_t (i := 15) hz rfl rfl rfl
    have T16_21 : mm_T (als B (lX11.take 21)) (z + 16) = 204 := als_t (i := 16) hz rfl rfl rfl
    have T17_21 : mm_T (als B (lX11.take 21)) (z + 17) = 109 := als_t (i := 17) hz rfl rfl rfl
    have T18_21 : mm_T (als B (lX11.take 21)) (z + 18) = 107 := als_t (i := 18) hz rfl rfl rfl
    have T19_21 : mm_T (als B (lX11.take 21)) (z + 19) = 205 := als_t (i := 19) hz rfl rfl rfl
    have N19_21 : mm_N (als B (lX11.take 21)) (z + 19) = 8 := als_n (i := 19) hz rfl rfl rfl
    have T20_21 : mm_T (als B (lX11.take 21)) (z + 20) = 201 := als_t (i := 20) hz rfl rfl rfl
    have X21 : mm_nx (als B (lX11.take 21)) = z + 21 := by rw [als_x, hz]; rfl
    show Ev g _ 55 _ _ (als B (lX11.take 21)) _ _ _ _
    refine ev_putFP 58 mm_cl11 (j := 5) (Nat.le_of_ble_eq_true rfl) dX11_init_55 lk266 rfl rfl rfl (fun _ _ _ => rfl) rfl rfl T0_21 rfl ?_
    refine ev_aload_n 59 dX11_init_58 rfl rfl ?_
    refine ev_sipushN 62 1284 dX11_init_59 (by decide +kernel) rfl ?_
    refine ev_newa 64 (1284) 0 dX11_init_62 rfl (by decide) lk125 rfl (by omega) rfl ?_
    rw [X21]
    have T0_22 : mm_T (als B (lX11.take 22)) z = 111 := als_t (i := 0) hz rfl rfl rfl
    have T1_22 : mm_T (als B (lX11.take 22)) (z + 1) = 110 := als_t (i := 1) hz rfl rfl rfl
    have T2_22 : mm_T (als B (lX11.take 22)) (z + 2) = 200 := als_t (i := 2) hz rfl rfl rfl
    have T3_22 : mm_T (als B (lX11.take 22)) (z + 3) = 200 := als_t (i := 3) hz rfl rfl rfl
    have T4_22 : mm_T (als B (lX11.take 22)) (z + 4) = 108 := als_t (i := 4) hz rfl rfl rfl
    have T5_22 : mm_T (als B (lX11.take 22)) (z + 5) = 200 := als_t (i := 5) hz rfl rfl rfl
    have T6_22 : mm_T (als B (lX11.take 22)) (z + 6) = 200 := als_t (i := 6) hz rfl rfl rfl
    have T7_22 : mm_T (als B (lX11.take 22)) (z + 7) = 200 := als_t (i := 7) hz rfl rfl rfl
    have T8_22 : mm_T (als B (lX11.take 22)) (z + 8) = 200 := als_t (i := 8) hz rfl rfl rfl
    have T9_22 : mm_T (als B (lX11.take 22)) (z + 9) = 200 := als_t (i := 9) hz rfl rfl rfl
    have T10_22 : mm_T (als B (lX11.take 22)) (z + 10) = 200 := als_t (i := 10) hz rfl rfl rfl
    have T11_22 : mm_T (als B (lX11.take 22)) (z + 11) = 200 := als_t (i := 11) hz rfl rfl rfl
    have T12_22 : mm_T (als B (lX11.take 22)) (z + 12) = 200 := als_t (i := 12) hz rfl rfl rfl
    have T13_22 : mm_T (als B (lX11.take 22)) (z + 13) = 200 := als_t (i := 13) hz rfl rfl rfl
    have T14_22 : mm_T (als B (lX11.take 22)) (z + 14) = 200 := als_t (i := 14) hz rfl rfl rfl
    have T15_22 : mm_T (als B (lX11.take 22)) (z + 15) = 204 := als_t (i := 15) hz rfl rfl rfl
    have T16_22 : mm_T (als B (lX11.take 22)) (z + 16) = 204 := als_t (i := 16) hz rfl rfl rfl
    have T17_22 : mm_T (als B (lX11.take 22)) (z + 17) = 109 := als_t (i := 17) hz rfl rfl rfl
    have T18_22 : mm_T (als B (lX11.take 22)) (z + 18) = 107 := als_t (i := 18) hz rfl rfl rfl
    have T19_22 : mm_T (als B (lX11.take 22)) (z + 19) = 205 := als_t (i := 19) hz rfl rfl rfl
    have N19_22 : mm_N (als B (lX11.take 22)) (z + 19) = 8 := als_n (i := 19) hz rfl rfl rfl
    have T20_22 : mm_T (als B (lX11.take 22)) (z + 20) = 201 := als_t (i := 20) hz rfl rfl rfl
    have T21_22 : mm_T (als B (lX11.take 22)) (z + 21) = 200 := als_t (i := 21) hz rfl rfl rfl
    have X22 : mm_nx (als B (lX11.take 22)) = z + 22 := by rw [als_x, hz]; rfl
    show Ev g _ 64 _ _ (als B (lX11.take 22)) _ _ _ _
    refine ev_putFP 67 mm_cl11 (j := 7) (Nat.le_of_ble_eq_true rfl) dX11_init_64 lk268 rfl rfl rfl (fun _ _ _ => rfl) rfl rfl T0_22 rfl ?_
    exact ev_vret dX11_init_67 rfl (rfl)
    , by
    refine ⟨fun q hq => ⟨?_, ?_⟩, ?_, fun q hq hn => ?_⟩ <;> simp (disch := omega) only [va_up_s, va_up_n, bx_uu]⟩
  have Ta : mm_T (als B (lX11.take 2)) z = 111 := als_t (i := 0) hz rfl rfl rfl
  have Tb : mm_T (als B (lX11.take 2)) (z + 1) = 110 := als_t (i := 1) hz rfl rfl rfl
  have Tc : mm_T (als B (lX11.take 5)) z = 111 := als_t (i := 0) hz rfl rfl rfl
  have Td : mm_T (als B (lX11.take 5)) (z + 4) = 108 := als_t (i := 4) hz rfl rfl rfl
  have Te : mm_T (als B (lX11.take 18)) z = 111 := als_t (i := 0) hz rfl rfl rfl
  have Tf : mm_T (als B (lX11.take 18)) (z + 17) = 109 := als_t (i := 17) hz rfl rfl rfl
  have Tg : mm_T (als B (lX11.take 18)) (z + 4) = 108 := als_t (i := 4) hz rfl rfl rfl
  have gI : ∀ q, q < z + 17 → Id q = I2 q ∧ Jd q = J2 q := fun q hq => by rw [(g2 q (by omega)).1, (g2 q (by omega)).2, (k7 q hq).1, (k7 q hq).2.1, (d2 q hq).1, (d2 q hq).2]; exact ⟨rfl, rfl⟩
  have gI4 : ∀ q, q < z + 4 → Id q = I5 q ∧ Jd q = J5 q := fun q hq => by rw [(gI q (by omega)).1, (gI q (by omega)).2, (e2 q (by omega)).1, (e2 q (by omega)).2, (b2 q hq).1, (b2 q hq).2]; exact ⟨rfl, rfl⟩
  have gI1 : ∀ q, q < z + 2 → Id q = Ia q ∧ Jd q = Ja q := fun q hq => by rw [(gI4 q (by omega)).1, (gI4 q (by omega)).2, (h2 q (by omega)).1, (h2 q (by omega)).2]; exact ⟨rfl, rfl⟩
  have gP : ∀ q, q < z + 17 → q ≠ z → Pd q = P2 q := fun q hq hn => by rw [g4 q (by omega) hn, (k7 q hq).2.2, d4 q hq hn]
  have gPz : Pd z = va_up (va_up (va_up (va_up (va_up (va_up (P5 z) 0 (some (z + 1))) 1 (some (z + 4))) 2 (some (z + 17))) 3 (some (z + 19))) 5 (some (z + 20))) 7 (some (z + 21)) := by rw [g3, (k7 z (by omega)).2.2, d3, e4 z (by omega), b3]
  have gP1 : Pd (z + 1) = va_up (va_up (Pa (z + 1)) 0 (some (z + 2))) 1 (some (z + 3)) := by rw [gP _ (by omega) (by omega), e4 _ (by omega), b4 _ (by omega) (by omega), h3]
  have gP4 := gP (z + 4) (by omega) (by omega)
  rw [e3] at gP4
  refine ⟨Id, Jd, Pd, ?_, ⟨?_, ?_, ?_, ?_, fun k k1 k2 => ?_, ?_, ?_, ?_⟩, fun q hq => ⟨?_, ?_, ?_⟩⟩
  · refine ct_of (lv := [some (.ref z)]) (by decide +kernel) (Nat.le_of_ble_eq_true rfl) rfl ?_
    refine ba _ ?_
    refine ev_invINv 12 (Mc := mX10_init) ⟨lk103, lk76, hdX10_init, (Nat.le_of_ble_eq_true rfl), (Nat.le_of_ble_eq_true rfl)⟩ lk101 lk102 rfl rfl dX11_init_9 (c5) rfl (Nat.le_of_ble_eq_true rfl) rfl rfl ?_
    refine bb _ ?_
    refine ev_invINv 23 (Mc := mX8_init) ⟨lk130, lk77, hdX8_init, (Nat.le_of_ble_eq_true rfl), (Nat.le_of_ble_eq_true rfl)⟩ lk128 lk129 rfl rfl dX11_init_20 (c2) rfl (Nat.le_of_ble_eq_true rfl) rfl rfl ?_
    refine bc _ ?_
    refine ev_invIv 38 (Mc := mX9_init) ⟨lk190, lk78, hdX9_init, (Nat.le_of_ble_eq_true rfl), (Nat.le_of_ble_eq_true rfl)⟩ lk188 lk189 rfl rfl dX11_init_35 (c1) rfl (Nat.le_of_ble_eq_true rfl) rfl rfl ?_
    exact bd
  · rw [(gI1 z (by omega)).1, (a3 z (by omega)).1]; exact hI
  · rw [(gI1 _ (by omega)).1]; exact a1
  · rw [(gI1 _ (by omega)).2]; exact a2
  · rw [(gI4 _ (by omega)).1]; exact (h1 _ (by omega) (by omega)).1
  · rw [(gI _ (by omega)).1]; exact (e1 _ (by omega) (by omega)).1
  · rw [(gI _ (by omega)).2]; exact (e1 _ (by omega) (by omega)).2
  · rw [(gI _ (by omega)).2]; exact (e1 _ (by omega) (by omega)).2
  · have key : ∀ r ∈ lyV_P, Pd (z + r.1) r.2.1 = some (z + r.2.2) := by
      intro r hr
      simp only [lyV_P, List.mem_cons, List.not_mem_nil, or_false] at hr
      rcases hr with rfl | rfl | rfl | rfl | rfl | rfl | rfl | rfl | rfl | rfl | rfl | rfl | rfl | rfl | rfl | rfl | rfl | rfl | rfl | rfl | rfl | rfl
      · show Pd z 0 = _; rw [gPz]; simp (disch := omega) only [va_up_s, va_up_n]
      · show Pd z 1 = _; rw [gPz]; simp (disch := omega) only [va_up_s, va_up_n]
      · show Pd z 2 = _; rw [gPz]; simp (disch := omega) only [va_up_s, va_up_n]
      · show Pd z 3 = _; rw [gPz]; simp (disch := omega) only [va_up_s, va_up_n]
      · show Pd z 5 = _; rw [gPz]; simp (disch := omega) only [va_up_s, va_up_n]
      · show Pd z 7 = _; rw [gPz]; simp (disch := omega) only [va_up_s, va_up_n]
      · show Pd (z + 1) 0 = _; rw [gP1]; simp (disch := omega) only [va_up_s, va_up_n]
      · show Pd (z + 1) 1 = _; rw [gP1]; simp (disch := omega) only [va_up_s, va_up_n]
      · show Pd (z + 4) 0 = _; rw [gP4]; simp (disch := omega) only [va_up_s, va_up_n]
      · show Pd (z + 4) 1 = _; rw [gP4]; simp (disch := omega) only [va_up_s, va_up_n]
      · show Pd (z + 4) 2 = _; rw [gP4]; simp (disch := omega) only [va_up_s, va_up_n]
      · show Pd (z + 4) 3 = _; rw [gP4]; simp (disch := omega) only [va_up_s, va_up_n]
      · show Pd (z + 4) 4 = _; rw [gP4]; simp (disch := omega) only [va_up_s, va_up_n]
      · show Pd (z + 4) 5 = _; rw [gP4]; simp (disch := omega) only [va_up_s, va_up_n]
      · show Pd (z + 4) 6 = _; rw [gP4]; simp (disch := omega) only [va_up_s, va_up_n]
      · show Pd (z + 4) 7 = _; rw [gP4]; simp (disch := omega) only [va_up_s, va_up_n]
      · show Pd (z + 4) 8 = _; rw [gP4]; simp (disch := omega) only [va_up_s, va_up_n]
      · show Pd (z + 4) 9 = _; rw [gP4]; simp (disch := omega) only [va_up_s, va_up_n]
      · show Pd (z + 4) 10 = _; rw [gP4]; simp (disch := omega) only [va_up_s, va_up_n]
      · show Pd (z + 4) 11 = _; rw [gP4]; simp (disch := omega) only [va_up_s, va_up_n]
      · show Pd (z + 17) 0 = _; rw [g4 _ (by omega) (by omega)]; exact k1
      · show Pd (z + 17) 1 = _; rw [g4 _ (by omega) (by omega)]; exact k2
    exact fun i k j t e => key _ (List.mem_of_getElem? e)
  · rw [(gI1 q (by omega)).1]; exact (a3 q (by omega)).1
  · rw [(gI1 q (by omega)).2]; exact (a3 q (by omega)).2
  · rw [gP q (by omega) (by omega), e4 q (by omega), b4 q (by omega) (by omega), h4 q (by omega)]; exact a4 q (by omega)
end CH0
