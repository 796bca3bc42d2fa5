/-! CODERS are made -/
section CK0
variable {g : mm_G} {B : mm_B} {I : mm_TI} {J : mm_TJ} {P : mm_TP} {p tl rw sk : Nat} {rt : Int32}
def lX0 : List (Nat × Nat × Nat) := [(100, 0, 5), (200, 640, 640), (105, 0, 2), (209, 250, 250), (102, 0, 19), (200, 8, 8), (212, 4, 4), (107, 0, 9), (107, 0, 9), (107, 0, 9), (107, 0, 9), (200, 320, 320), (200, 480, 480), (106, 0, 6), (200, 160, 160), (200, 8, 8), (200, 8, 8), (101, 0, 19), (107, 0, 9), (208, 4, 4), (103, 0, 5), (200, 0, 0), (103, 0, 5), (200, 0, 0), (103, 0, 5), (200, 0, 0), (103, 0, 5), (200, 0, 0), (200, 321, 321), (106, 0, 6), (200, 160, 160), (200, 8, 8), (200, 8, 8)]
theorem als_app : ∀ (l1 l2 : List (Nat × Nat × Nat)) (B : mm_B), als (als B l1) l2 = als B (l1 ++ l2) := by
  intro l1
  induction l1 with
  | nil => intro l2 B; rfl
  | cons r l ih => intro l2 B; exact ih l2 _
/-- a new coder at z -/
def NewC (z tl rw sk : Nat) (rt : Int32) (I : mm_TI) (P : mm_TP) : Prop :=
  I z = (fun _ => 0) ∧ I (z + 2) = (fun _ => 0) ∧ I (z + 4) = va_up (fun _ => 0) 10 rt ∧ I (z + 5) = (fun _ => 0) ∧ I (z + 13) 3 = nI 40 ∧ (∀ i, 1 ≤ i → i ≤ 3 → I (z + 13 + i) = fun _ => 0) ∧ I (z + 17) = va_up (va_up (fun _ => 0) 10 (nI 2000)) 7 rt ∧ (∀ i, i < 4 → I (z + 20 + 2 * i) 0 = nI 0) ∧ I (z + 29) 3 = nI 40 ∧ (∀ i, 1 ≤ i → i ≤ 3 → I (z + 29 + i) = fun _ => 0) ∧
  ly_P P z z lyC_P ∧ P (z + 4) 0 = some tl ∧ P (z + 4) 1 = some rw ∧ P (z + 4) 2 = some sk ∧ P (z + 13) 4 = some tl ∧ P (z + 13) 5 = some rw ∧ P (z + 17) 0 = some tl ∧ P (z + 17) 1 = some rw ∧ P (z + 29) 4 = some tl ∧ P (z + 29) 5 = some rw ∧
  (∀ i, i < 4 → P (z + 6) i = some (z + 7 + i)) ∧ (∀ i, i < 4 → P (z + 19) i = some (z + 20 + 2 * i)) ∧ (∀ i, i < 4 → P (z + 20 + 2 * i) 1 = some (z + 21 + 2 * i))
theorem cx_X0_init (hI : I (mm_nx B) = fun _ => 0) : ∃ (I' : mm_TI) (J' : mm_TJ) (P' : mm_TP), Ct g mX0_init [.ref (mm_nx B), .int rt, .ref tl, .ref rw, .ref sk] (als B (lX0.take 1)) I J P (none, als B lX0, I', J', P') ∧ NewC (mm_nx B) tl rw sk rt I' P' ∧ (∀ q, q < mm_nx B → I' q = I q ∧ J' q = J q ∧ P' q = P q) := by
  generalize hz : mm_nx B = z at hI ⊢
  obtain ⟨Ia, Ja, Pa, ba, a1, a2, a3, a4⟩ : ∃ (I' : mm_TI) (J' : mm_TJ) (P' : mm_TP), (∀ Z : mm_Z, Ev g mX0_init 18 [some (.ref z), some (.int rt), some (.ref tl), some (.ref rw), some (.ref sk)] [.ref (z + 2), .ref (z + 2), .ref z] (als B (lX0.take 3)) I' J' P' Z → Ev g mX0_init 0 [some (.ref z), some (.int rt), some (.ref tl), some (.ref rw), some (.ref sk)] [] (als B (lX0.take 1)) I J P Z) ∧ I' z = I z ∧ I' (z + 2) = (fun _ => 0) ∧ P' z 0 = some (z + 1) ∧ (∀ q, q < z → I' q = I q ∧ J' q = J q ∧ P' q = P q) := ⟨_, _, _, by
    intro Z K
    have T0_1 : mm_T (als B (lX0.take 1)) z = 100 := als_t (i := 0) hz rfl rfl rfl
    have X1 : mm_nx (als B (lX0.take 1)) = z + 1 := by rw [als_x, hz]; rfl
    refine ev_aload_n 1 dX0_init_0 rfl rfl ?_
    refine ev_objInit 4 dX0_init_1 lk308 lk97 lk98 (Nat.le_of_ble_eq_true rfl) (Nat.le_of_ble_eq_true rfl) (Nat.le_of_ble_eq_true rfl) rfl ?_
    refine ev_aload_n 5 dX0_init_4 rfl rfl ?_
    refine ev_sipushN 8 640 dX0_init_5 (by decide +kernel) rfl ?_
    refine ev_newa 10 (640) 0 dX0_init_8 rfl (by decide) lk125 rfl (by omega) rfl ?_
    rw [X1]
    have T0_2 : mm_T (als B (lX0.take 2)) z = 100 := als_t (i := 0) hz rfl rfl rfl
    have T1_2 : mm_T (als B (lX0.take 2)) (z + 1) = 200 := als_t (i := 1) hz rfl rfl rfl
    have X2 : mm_nx (als B (lX0.take 2)) = z + 2 := by rw [als_x, hz]; rfl
    show Ev g _ 10 _ _ (als B (lX0.take 2)) _ _ _ _
    refine ev_putFP 13 mm_cl0 (j := 0) (Nat.le_of_ble_eq_true rfl) dX0_init_10 lk543 rfl rfl rfl (fun _ _ _ => rfl) rfl rfl T0_2 rfl ?_
    refine ev_aload_n 14 dX0_init_13 rfl rfl ?_
    refine ev_new 17 mm_cl5 dX0_init_14 lk309 lk310 lk82 rfl ?_
    rw [X2]
    have T0_3 : mm_T (als B (lX0.take 3)) z = 100 := als_t (i := 0) hz rfl rfl rfl
    have T1_3 : mm_T (als B (lX0.take 3)) (z + 1) = 200 := als_t (i := 1) hz rfl rfl rfl
    have T2_3 : mm_T (als B (lX0.take 3)) (z + 2) = 105 := als_t (i := 2) hz rfl rfl rfl
    have X3 : mm_nx (als B (lX0.take 3)) = z + 3 := by rw [als_x, hz]; rfl
    show Ev g _ 17 _ _ (als B (lX0.take 3)) _ _ _ _
    refine ev_dup 18 dX0_init_17 rfl rfl ?_
    exact K
    , by
    refine ⟨?_, ?_, ?_, fun q hq => ⟨?_, ?_, ?_⟩⟩ <;> simp (disch := omega) only [va_up_s, va_up_n]⟩
  have x2 : mm_nx (als B (lX0.take 2)) = z + 2 := by rw [als_x, hz]; rfl
  obtain ⟨I5, J5, P5, c5, h1, h2, h3⟩ := cx_X5_init (g := g) (B := als B (lX0.take 2)) (I := Ia) (J := Ja) (P := Pa)
  rw [x2] at c5 h1 h2 h3
  simp only [als_app] at c5
  rw [show lX0.take 2 ++ lX5.take 1 = lX0.take 3 from rfl, show lX0.take 2 ++ lX5 = lX0.take 4 from rfl] at c5
  obtain ⟨Ib, Jb, Pb, bb, b1, b2, b3, b4⟩ : ∃ (I' : mm_TI) (J' : mm_TJ) (P' : mm_TP), (∀ Z : mm_Z, Ev g mX0_init 34 [some (.ref z), some (.int rt), some (.ref tl), some (.ref rw), some (.ref sk)] [.ref sk, .ref rw, .ref tl, .int rt, .ref (z + 4), .ref (z + 4), .ref z] (als B (lX0.take 5)) I' J' P' Z → Ev g mX0_init 21 [some (.ref z), some (.int rt), some (.ref tl), some (.ref rw), some (.ref sk)] [.ref (z + 2), .ref z] (als B (lX0.take 4)) I5 J5 P5 Z) ∧ I' (z + 4) = (fun _ => 0) ∧ (∀ q, q < z + 4 → I' q = I5 q ∧ J' q = J5 q) ∧ P' z = va_up (P5 z) 2 (some (z + 2)) ∧ (∀ q, q < z + 4 → q ≠ z → P' q = P5 q) := ⟨_, _, _, by
    intro Z K
    have T0_4 : mm_T (als B (lX0.take 4)) z = 100 := als_t (i := 0) hz rfl rfl rfl
    have T1_4 : mm_T (als B (lX0.take 4)) (z + 1) = 200 := als_t (i := 1) hz rfl rfl rfl
    have T2_4 : mm_T (als B (lX0.take 4)) (z + 2) = 105 := als_t (i := 2) hz rfl rfl rfl
    have T3_4 : mm_T (als B (lX0.take 4)) (z + 3) = 209 := als_t (i := 3) hz rfl rfl rfl
    have N3_4 : mm_N (als B (lX0.take 4)) (z + 3) = 250 := als_n (i := 3) hz rfl rfl rfl
    have X4 : mm_nx (als B (lX0.take 4)) = z + 4 := by rw [als_x, hz]; rfl
    refine ev_putFP 24 mm_cl0 (j := 2) (Nat.le_of_ble_eq_true rfl) dX0_init_21 lk546 rfl rfl rfl (fun _ _ _ => rfl) rfl rfl T0_4 rfl ?_
    refine ev_aload_n 25 dX0_init_24 rfl rfl ?_
    refine ev_new 28 mm_cl2 dX0_init_25 lk326 lk327 lk83 rfl ?_
    rw [X4]
    have T0_5 : mm_T (als B (lX0.take 5)) z = 100 := als_t (i := 0) hz rfl rfl rfl
    have T1_5 : mm_T (als B (lX0.take 5)) (z + 1) = 200 := als_t (i := 1) hz rfl rfl rfl
    have T2_5 : mm_T (als B (lX0.take 5)) (z + 2) = 105 := als_t (i := 2) hz rfl rfl rfl
    have T3_5 : mm_T (als B (lX0.take 5)) (z + 3) = 209 := als_t (i := 3) hz rfl rfl rfl
    have N3_5 : mm_N (als B (lX0.take 5)) (z + 3) = 250 := als_n (i := 3) hz rfl rfl rfl
    have T4_5 : mm_T (als B (lX0.take 5)) (z + 4) = 102 := als_t (i := 4) hz rfl rfl rfl
    have X5 : mm_nx (als B (lX0.take 5)) = z + 5 := by rw [als_x, hz]; rfl
    show Ev g _ 28 _ _ (als B (lX0.take 5)) _ _ _ _
    refine ev_dup 29 dX0_init_28 rfl rfl ?_
    refine ev_iload_n 30 dX0_init_29 rfl rfl ?_
    refine ev_aload_n 31 dX0_init_30 rfl rfl ?_
    refine ev_aload_n 32 dX0_init_31 rfl rfl ?_
    refine ev_aload 34 dX0_init_32 rfl rfl ?_
    exact K
    , by
    refine ⟨?_, fun q hq => ⟨?_, ?_⟩, ?_, fun q hq hn => ?_⟩ <;> simp (disch := omega) only [va_up_s, va_up_n]⟩
  have x4 : mm_nx (als B (lX0.take 4)) = z + 4 := by rw [als_x, hz]; rfl
  obtain ⟨I2, J2, P2, c2, e1, e2, e3, e4, f0, f1, f2, f3, f4, f5, f6, f7, f8, f9, f10, f11, f12, e5, e6⟩ := cx_X2_init (g := g) (B := als B (lX0.take 4)) (I := Ib) (J := Jb) (P := Pb) (tl := tl) (rw := rw) (sk := sk) (rt := rt)
  rw [x4] at c2 e1 e2 e3 e4 f0 f1 f2 f3 f4 f5 f6 f7 f8 f9 f10 f11 f12 e5 e6
  simp only [als_app] at c2
  rw [show lX0.take 4 ++ lX2.take 1 = lX0.take 5 from rfl, show lX0.take 4 ++ lX2 = lX0.take 17 from rfl] at c2
  obtain ⟨Ic, Jc, Pc, bc, d1, d2, d3, d4⟩ : ∃ (I' : mm_TI) (J' : mm_TJ) (P' : mm_TP), (∀ Z : mm_Z, Ev g mX0_init 48 [some (.ref z), some (.int rt), some (.ref tl), some (.ref rw), some (.ref sk)] [.ref rw, .ref tl, .int rt, .ref (z + 17), .ref (z + 17), .ref z] (als B (lX0.take 18)) I' J' P' Z → Ev g mX0_init 37 [some (.ref z), some (.int rt), some (.ref tl), some (.ref rw), some (.ref sk)] [.ref (z + 4), .ref z] (als B (lX0.take 17)) I2 J2 P2 Z) ∧ I' (z + 17) = (fun _ => 0) ∧ (∀ q, q < z + 17 → I' q = I2 q ∧ J' q = J2 q) ∧ P' z = va_up (P2 z) 3 (some (z + 4)) ∧ (∀ q, q < z + 17 → q ≠ z → P' q = P2 q) := ⟨_, _, _, by
    intro Z K
    have T0_17 : mm_T (als B (lX0.take 17)) z = 100 := als_t (i := 0) hz rfl rfl rfl
    have T1_17 : mm_T (als B (lX0.take 17)) (z + 1) = 200 := als_t (i := 1) hz rfl rfl rfl
    have T2_17 : mm_T (als B (lX0.take 17)) (z + 2) = 105 := als_t (i := 2) hz rfl rfl rfl
    have T3_17 : mm_T (als B (lX0.take 17)) (z + 3) = 209 := als_t (i := 3) hz rfl rfl rfl
    have N3_17 : mm_N (als B (lX0.take 17)) (z + 3) = 250 := als_n (i := 3) hz rfl rfl rfl
    have T4_17 : mm_T (als B (lX0.take 17)) (z + 4) = 102 := als_t (i := 4) hz rfl rfl rfl
    have T5_17 : mm_T (als B (lX0.take 17)) (z + 5) = 200 := als_t (i := 5) hz rfl rfl rfl
    have T6_17 : mm_T (als B (lX0.take 17)) (z + 6) = 212 := als_t (i := 6) hz rfl rfl rfl
    have N6_17 : mm_N (als B (lX0.take 17)) (z + 6) = 4 := als_n (i := 6) hz rfl rfl rfl
    have T7_17 : mm_T (als B (lX0.take 17)) (z + 7) = 107 := als_t (i := 7) hz rfl rfl rfl
    have T8_17 : mm_T (als B (lX0.take 17)) (z + 8) = 107 := als_t (i := 8) hz rfl rfl rfl
    have T9_17 : mm_T (als B (lX0.take 17)) (z + 9) = 107 := als_t (i := 9) hz rfl rfl rfl
    have T10_17 : mm_T (als B (lX0.take 17)) (z + 10) = 107 := als_t (i := 10) hz rfl rfl rfl
    have T11_17 : mm_T (als B (lX0.take 17)) (z + 11) = 200 := als_t (i := 11) hz rfl rfl rfl
    have T12_17 : mm_T (als B (lX0.take 17)) (z + 12) = 200 := als_t (i := 12) hz rfl rfl rfl
    have T13_17 : mm_T (als B (lX0.take 17)) (z + 13) = 106 := als_t (i := 13) hz rfl rfl rfl
    have T14_17 : mm_T (als B (lX0.take 17)) (z + 14) = 200 := als_t (i := 14) hz rfl rfl rfl
    have T15_17 : mm_T (als B (lX0.take 17)) (z + 15) = 200 := als_t (i := 15) hz rfl rfl rfl
    have T16_17 : mm_T (als B (lX0.take 17)) (z + 16) = 200 := als_t (i := 16) hz rfl rfl rfl
    have X17 : mm_nx (als B (lX0.take 17)) = z + 17 := by rw [als_x, hz]; rfl
    refine ev_putFP 40 mm_cl0 (j := 3) (Nat.le_of_ble_eq_true rfl) dX0_init_37 lk548 rfl rfl rfl (fun _ _ _ => rfl) rfl rfl T0_17 rfl ?_
    refine ev_aload_n 41 dX0_init_40 rfl rfl ?_
    refine ev_new 44 mm_cl1 dX0_init_41 lk438 lk439 lk85 rfl ?_
    rw [X17]
    have T0_18 : mm_T (als B (lX0.take 18)) z = 100 := als_t (i := 0) hz rfl rfl rfl
    have T1_18 : mm_T (als B (lX0.take 18)) (z + 1) = 200 := als_t (i := 1) hz rfl rfl rfl
    have T2_18 : mm_T (als B (lX0.take 18)) (z + 2) = 105 := als_t (i := 2) hz rfl rfl rfl
    have T3_18 : mm_T (als B (lX0.take 18)) (z + 3) = 209 := als_t (i := 3) hz rfl rfl rfl
    have N3_18 : mm_N (als B (lX0.take 18)) (z + 3) = 250 := als_n (i := 3) hz rfl rfl rfl
    have T4_18 : mm_T (als B (lX0.take 18)) (z + 4) = 102 := als_t (i := 4) hz rfl rfl rfl
    have T5_18 : mm_T (als B (lX0.take 18)) (z + 5) = 200 := als_t (i := 5) hz rfl rfl rfl
    have T6_18 : mm_T (als B (lX0.take 18)) (z + 6) = 212 := als_t (i := 6) hz rfl rfl rfl
    have N6_18 : mm_N (als B (lX0.take 18)) (z + 6) = 4 := als_n (i := 6) hz rfl rfl rfl
    have T7_18 : mm_T (als B (lX0.take 18)) (z + 7) = 107 := als_t (i := 7) hz rfl rfl rfl
    have T8_18 : mm_T (als B (lX0.take 18)) (z + 8) = 107 := als_t (i := 8) hz rfl rfl rfl
    have T9_18 : mm_T (als B (lX0.take 18)) (z + 9) = 107 := als_t (i := 9) hz rfl rfl rfl
    have T10_18 : mm_T (als B (lX0.take 18)) (z + 10) = 107 := als_t (i := 10) hz rfl rfl rfl
    have T11_18 : mm_T (als B (lX0.take 18)) (z + 11) = 200 := als_t (i := 11) hz rfl rfl rfl
    have T12_18 : mm_T (als B (lX0.take 18)) (z + 12) = 200 := als_t (i := 12) hz rfl rfl rfl
    have T13_18 : mm_T (als B (lX0.take 18)) (z + 13) = 106 := als_t (i := 13) hz rfl rfl rfl
    have T14_18 : mm_T (als B (lX0.take 18)) (z + 14) = 200 := als_t (i := 14) hz rfl rfl rfl
    have T15_18 : mm_T (als B (lX0.take 18)) (z + 15) = 200 := als_t (i := 15) hz rfl rfl rfl
    have T16_18 : mm_T (als B (lX0.take 18)) (z + 16) = 200 := als_t (i := 16) hz rfl rfl rfl
    have T17_18 : mm_T (als B (lX0.take 18)) (z + 17) = 101 := als_t (i := 17) hz rfl rfl rfl
    have X18 : mm_nx (als B (lX0.take 18)) = z + 18 := by rw [als_x, hz]; rfl
    show Ev g _ 44 _ _ (als B (lX0.take 18)) _ _ _ _
    refine ev_dup 45 dX0_init_44 rfl rfl ?_
    refine ev_iload_n 46 dX0_init_45 rfl rfl ?_
    refine ev_aload_n 47 dX0_init_46 rfl rfl ?_
    refine ev_aload_n 48 dX0_init_47 rfl rfl ?_
    exact K
    , by
    refine ⟨?_, fun q hq => ⟨?_, ?_⟩, ?_, fun q hq hn => ?_⟩ <;> simp (disch := omega) only [va_up_s, va_up_n]⟩
  have x17 : mm_nx (als B (lX0.take 17)) = z + 17 := by rw [als_x, hz]; rfl
  obtain ⟨I1, J1, P1, c1, k1, k2, k3, k4, u0, u1, u2, u3, u4, u5, u6, u7, u8, u9, u10, k5, k6, k7⟩ := cx_X1_init (g := g) (B := als B (lX0.take 17)) (I := Ic) (J := Jc) (P := Pc) (tl := tl) (rw := rw) (rt := rt)
  rw [x17] at c1 k1 k2 k3 k4 u0 u1 u2 u3 u4 u5 u6 u7 u8 u9 u10 k5 k6 k7
  simp only [als_app] at c1
  rw [show lX0.take 17 ++ lX1.take 1 = lX0.take 18 from rfl, show lX0.take 17 ++ lX1 = lX0 from rfl] at c1
  have T0 : mm_T (als B lX0) z = 100 := als_t (i := 0) hz rfl rfl rfl
  have Ta : mm_T (als B (lX0.take 3)) z = 100 := als_t (i := 0) hz rfl rfl rfl
  have Tb : mm_T (als B (lX0.take 3)) (z + 2) = 105 := als_t (i := 2) hz rfl rfl rfl
  have Tc : mm_T (als B (lX0.take 5)) z = 100 := als_t (i := 0) hz rfl rfl rfl
  have Td : mm_T (als B (lX0.take 5)) (z + 4) = 102 := als_t (i := 4) hz rfl rfl rfl
  have Te : mm_T (als B (lX0.take 18)) z = 100 := als_t (i := 0) hz rfl rfl rfl
  have Tf : mm_T (als B (lX0.take 18)) (z + 17) = 101 := als_t (i := 17) hz rfl rfl rfl
  have gI : ∀ q, q < z + 17 → I1 q = I2 q := fun q hq => by rw [(k7 q hq).1, (d2 q hq).1]
  have gI4 : ∀ q, q < z + 4 → I1 q = I5 q := fun q hq => by rw [gI q (by omega), (e6 q hq).1, (b2 q hq).1]
  have gP : ∀ q, q < z + 17 → q ≠ z → P1 q = P2 q := fun q hq hn => by rw [(k7 q hq).2.2, d4 q hq hn]
  have gPz : P1 z = va_up (va_up (P5 z) 2 (some (z + 2))) 3 (some (z + 4)) := by rw [(k7 z (by omega)).2.2, d3, (e6 z (by omega)).2.2, b3]
  have gP5 : P5 z 0 = some (z + 1) := by rw [(h3 z (by omega)).2.2]; exact a3
  have gP2 : P1 (z + 2) 0 = some (z + 3) := by rw [gP _ (by omega) (by omega), (e6 _ (by omega)).2.2, b4 _ (by omega) (by omega)]; exact h2
  generalize hP' : va_up P1 z (va_up (P1 z) 4 (some (z + 17))) = P'
  have pz : P' z = va_up (va_up (va_up (P5 z) 2 (some (z + 2))) 3 (some (z + 4))) 4 (some (z + 17)) := by rw [← hP', va_up_s, gPz]
  have pn : ∀ q, q ≠ z → P' q = P1 q := fun q hq => by rw [← hP', va_up_n _ _ hq]
  refine ⟨I1, J1, P', ?_, ⟨?_, ?_, ?_, ?_, ?_, fun i i1 i2 => ?_, ?_, fun i hi => ?_, ?_, fun i i1 i2 => ?_, ?_, ?_, ?_, ?_, ?_, ?_, ?_, ?_, ?_, ?_, fun i hi => ?_, fun i hi => ?_, fun i hi => ?_⟩, fun q hq => ⟨?_, ?_, ?_⟩⟩
  · refine ct_of (lv := [some (.ref z), some (.int rt), some (.ref tl), some (.ref rw), some (.ref sk)]) (by decide +kernel) (Nat.le_of_ble_eq_true rfl) rfl ?_
    refine ba _ ?_
    refine ev_invINv 21 (Mc := mX5_init) ⟨lk313, lk82, hdX5_init, (Nat.le_of_ble_eq_true rfl), (Nat.le_of_ble_eq_true rfl)⟩ lk311 lk312 rfl rfl dX0_init_18 (c5) rfl (Nat.le_of_ble_eq_true rfl) rfl rfl ?_
    refine bb _ ?_
    refine ev_invIv 37 (Mc := mX2_init) ⟨lk330, lk83, hdX2_init, (Nat.le_of_ble_eq_true rfl), (Nat.le_of_ble_eq_true rfl)⟩ lk328 lk329 rfl rfl dX0_init_34 (c2) rfl (Nat.le_of_ble_eq_true rfl) rfl rfl ?_
    refine bc _ ?_
    refine ev_invIv 51 (Mc := mX1_init) ⟨lk442, lk85, hdX1_init, (Nat.le_of_ble_eq_true rfl), (Nat.le_of_ble_eq_true rfl)⟩ lk440 lk441 rfl rfl dX0_init_48 (c1) rfl (Nat.le_of_ble_eq_true rfl) rfl rfl ?_
    show Ev g _ 51 _ _ (als B lX0) _ _ _ _
    refine ev_putFP 54 mm_cl0 (j := 4) (Nat.le_of_ble_eq_true rfl) dX0_init_51 lk550 rfl rfl rfl (fun _ _ _ => rfl) rfl rfl T0 rfl ?_
    rw [hP']
    exact ev_vret dX0_init_54 rfl (rfl)
  · rw [gI4 z (by omega), (h3 z (by omega)).1, a1]; exact hI
  · rw [gI4 _ (by omega), h1]; exact a2
  · rw [gI _ (by omega), e1, b1]
  · rw [gI _ (by omega)]; exact e2
  · rw [gI _ (by omega)]; exact e3
  · rw [gI _ (by omega)]; exact e4 i i1 i2
  · rw [k1, d1]
  · exact k2 i hi
  · exact k3
  · exact k4 i i1 i2
  · have key : ∀ r ∈ lyC_P, P' (z + r.1) r.2.1 = some (z + r.2.2) := by
      intro r hr
      simp only [lyC_P, List.mem_cons, List.not_mem_nil, or_false] at hr
      rcases hr with rfl | rfl | rfl | rfl | rfl | rfl | rfl | rfl | rfl | rfl | rfl | rfl | rfl | rfl | rfl | rfl | rfl | rfl | rfl | rfl
      · show P' z 0 = _; rw [pz]; simp (disch := omega) only [va_up_n]; exact gP5
      · show P' z 2 = _; rw [pz]; simp (disch := omega) only [va_up_s, va_up_n]
      · show P' z 3 = _; rw [pz]; simp (disch := omega) only [va_up_s, va_up_n]
      · show P' z 4 = _; rw [pz]; simp (disch := omega) only [va_up_s, va_up_n]
      · show P' (z + 2) 0 = _; rw [pn _ (by omega)]; exact gP2
      · show P' (z + 4) 3 = _; rw [pn _ (by omega), gP _ (by omega) (by omega)]; exact f3
      · show P' (z + 4) 4 = _; rw [pn _ (by omega), gP _ (by omega) (by omega)]; exact f4
      · show P' (z + 4) 5 = _; rw [pn _ (by omega), gP _ (by omega) (by omega)]; exact f5
      · show P' (z + 4) 6 = _; rw [pn _ (by omega), gP _ (by omega) (by omega)]; exact f6
      · show P' (z + 4) 7 = _; rw [pn _ (by omega), gP _ (by omega) (by omega)]; exact f7
      · show P' (z + 13) 0 = _; rw [pn _ (by omega), gP _ (by omega) (by omega)]; exact f8
      · show P' (z + 13) 1 = _; rw [pn _ (by omega), gP _ (by omega) (by omega)]; exact f9
      · show P' (z + 13) 2 = _; rw [pn _ (by omega), gP _ (by omega) (by omega)]; exact f10
      · show P' (z + 17) 2 = _; rw [pn _ (by omega)]; exact u2
      · show P' (z + 17) 3 = _; rw [pn _ (by omega)]; exact u3
      · show P' (z + 17) 4 = _; rw [pn _ (by omega)]; exact u4
      · show P' (z + 17) 5 = _; rw [pn _ (by omega)]; exact u5
      · show P' (z + 29) 0 = _; rw [pn _ (by omega)]; exact u6
      · show P' (z + 29) 1 = _; rw [pn _ (by omega)]; exact u7
      · show P' (z + 29) 2 = _; rw [pn _ (by omega)]; exact u8
    exact fun i k j t e => key _ (List.mem_of_getElem? e)
  · rw [pn _ (by omega), gP _ (by omega) (by omega)]; exact f0
  · rw [pn _ (by omega), gP _ (by omega) (by omega)]; exact f1
  · rw [pn _ (by omega), gP _ (by omega) (by omega)]; exact f2
  · rw [pn _ (by omega), gP _ (by omega) (by omega)]; exact f11
  · rw [pn _ (by omega), gP _ (by omega) (by omega)]; exact f12
  · rw [pn _ (by omega)]; exact u0
  · rw [pn _ (by omega)]; exact u1
  · rw [pn _ (by omega)]; exact u9
  · rw [pn _ (by omega)]; exact u10
  · rw [pn _ (by omega), gP _ (by omega) (by omega)]; exact e5 i hi
  · rw [pn _ (by omega)]; exact k5 i hi
  · rw [pn _ (by omega)]; exact k6 i hi
  · rw [gI4 q (by omega), (h3 q (by omega)).1]; exact (a4 q hq).1
  · rw [(k7 q (by omega)).2.1, (d2 q (by omega)).2, (e6 q (by omega)).2.1, (b2 q (by omega)).2, (h3 q (by omega)).2.1]; exact (a4 q hq).2.1
  · rw [pn q (by omega), gP q (by omega) (by omega), (e6 q (by omega)).2.2, b4 q (by omega) (by omega), (h3 q (by omega)).2.2]; exact (a4 q hq).2.2
end CK0
