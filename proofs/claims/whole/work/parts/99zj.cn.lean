/-! CONSTRUCTORS: coders and the house -/
section CN0
variable {g : mm_G} {B : mm_B} {I : mm_TI} {J : mm_TJ} {P : mm_TP} {p tl rw sk : Nat} {rt : Int32}
theorem ct_X7_init (tp : mm_T B p = 107) : Ct g mX7_init [.ref p] B I J P (none, B, va_up I p (va_up (va_up (I p) 0 (nI 20)) 4 (nI 1)), J, P) := by
  refine ct_of (lv := [some (.ref p)]) (by decide +kernel) (Nat.le_of_ble_eq_true rfl) rfl ?_
  refine ev_aload_n 1 dX7_init_0 rfl rfl ?_
  refine ev_objInit 4 dX7_init_1 lk197 lk97 lk98 (Nat.le_of_ble_eq_true rfl) (Nat.le_of_ble_eq_true rfl) (Nat.le_of_ble_eq_true rfl) rfl ?_
  refine ev_aload_n 5 dX7_init_4 rfl rfl ?_
  refine ev_bipushN 7 20 dX7_init_5 (by decide +kernel) rfl ?_
  refine ev_putI 10 mm_cl7 (j := 0) (Nat.le_of_ble_eq_true rfl) dX7_init_7 lk198 rfl (fun _ _ _ => rfl) rfl rfl tp rfl ?_
  refine ev_aload_n 11 dX7_init_10 rfl rfl ?_
  refine ev_iconstN 12 1 dX7_init_11 rfl ?_
  refine ev_putI 15 mm_cl7 (j := 4) (Nat.le_of_ble_eq_true rfl) dX7_init_12 lk211 rfl (fun _ _ _ => rfl) rfl rfl tp rfl ?_
  rw [va_up_s, bx_uu]
  exact ev_vret dX7_init_15 rfl (rfl)
def lX5 : List (Nat × Nat × Nat) := [(105, 0, 2), (209, 250, 250)]
theorem cx_X5_init : ∃ (I' : mm_TI) (J' : mm_TJ) (P' : mm_TP), Ct g mX5_init [.ref (mm_nx B)] (als B (lX5.take 1)) I J P (none, als B lX5, I', J', P') ∧ I' (mm_nx B) = I (mm_nx B) ∧ P' (mm_nx B) 0 = some (mm_nx B + 1) ∧ (∀ q, q < mm_nx B → I' q = I q ∧ J' q = J q ∧ P' q = P q) := by
  generalize hz : mm_nx B = z
  exact ⟨_, _, _, by
    have T0_1 : mm_T (als B (lX5.take 1)) z = 105 := als_t (i := 0) hz rfl rfl rfl
    have X1 : mm_nx (als B (lX5.take 1)) = z + 1 := by rw [als_x, hz]; rfl
    refine ct_of (lv := [some (.ref z)]) (by decide +kernel) (Nat.le_of_ble_eq_true rfl) rfl ?_
    refine ev_aload_n 1 dX5_init_0 rfl rfl ?_
    refine ev_objInit 4 dX5_init_1 lk314 lk97 lk98 (Nat.le_of_ble_eq_true rfl) (Nat.le_of_ble_eq_true rfl) (Nat.le_of_ble_eq_true rfl) rfl ?_
    refine ev_aload_n 5 dX5_init_4 rfl rfl ?_
    refine ev_sipushN 8 250 dX5_init_5 (by decide +kernel) rfl ?_
    refine ev_anew 11 (250) 4 dX5_init_8 rfl lk315 lk316 rfl (by omega) rfl ?_
    rw [X1]
    have T0_2 : mm_T (als B (lX5.take 2)) z = 105 := als_t (i := 0) hz rfl rfl rfl
    have T1_2 : mm_T (als B (lX5.take 2)) (z + 1) = 209 := als_t (i := 1) hz rfl rfl rfl
    have N1_2 : mm_N (als B (lX5.take 2)) (z + 1) = 250 := als_n (i := 1) hz rfl rfl rfl
    have X2 : mm_nx (als B (lX5.take 2)) = z + 2 := by rw [als_x, hz]; rfl
    show Ev g _ 11 _ _ (als B (lX5.take 2)) _ _ _ _
    refine ev_putFP 14 mm_cl5 (j := 0) (Nat.le_of_ble_eq_true rfl) dX5_init_11 lk317 rfl rfl rfl (fun _ _ _ => rfl) rfl rfl T0_2 rfl ?_
    exact ev_vret dX5_init_14 rfl (rfl)
    , by
    refine ⟨?_, ?_, fun q hq => ⟨?_, ?_, ?_⟩⟩ <;> simp (disch := omega) only [va_up_s, va_up_n]⟩
def lX9 : List (Nat × Nat × Nat) := [(109, 0, 5), (107, 0, 9)]
theorem cx_X9_init : ∃ (I' : mm_TI) (J' : mm_TJ) (P' : mm_TP), Ct g mX9_init [.ref (mm_nx B), .ref rw] (als B (lX9.take 1)) I J P (none, als B lX9, I', J', P') ∧ P' (mm_nx B) 0 = some rw ∧ P' (mm_nx B) 1 = some (mm_nx B + 1) ∧ (∀ q, q < mm_nx B → I' q = I q ∧ J' q = J q ∧ P' q = P q) := by
  generalize hz : mm_nx B = z
  exact ⟨_, _, _, by
    have T0_1 : mm_T (als B (lX9.take 1)) z = 109 := als_t (i := 0) hz rfl rfl rfl
    have X1 : mm_nx (als B (lX9.take 1)) = z + 1 := by rw [als_x, hz]; rfl
    refine ct_of (lv := [some (.ref z), some (.ref rw)]) (by decide +kernel) (Nat.le_of_ble_eq_true rfl) rfl ?_
    refine ev_aload_n 1 dX9_init_0 rfl rfl ?_
    refine ev_objInit 4 dX9_init_1 lk191 lk97 lk98 (Nat.le_of_ble_eq_true rfl) (Nat.le_of_ble_eq_true rfl) (Nat.le_of_ble_eq_true rfl) rfl ?_
    refine ev_aload_n 5 dX9_init_4 rfl rfl ?_
    refine ev_new 8 mm_cl7 dX9_init_5 lk192 lk193 lk79 rfl ?_
    rw [X1]
    have T0_2 : mm_T (als B (lX9.take 2)) z = 109 := als_t (i := 0) hz rfl rfl rfl
    have T1_2 : mm_T (als B (lX9.take 2)) (z + 1) = 107 := als_t (i := 1) hz rfl rfl rfl
    have X2 : mm_nx (als B (lX9.take 2)) = z + 2 := by rw [als_x, hz]; rfl
    show Ev g _ 8 _ _ (als B (lX9.take 2)) _ _ _ _
    refine ev_dup 9 dX9_init_8 rfl rfl ?_
    refine ev_invINv 12 (Mc := mX7_init) ⟨lk196, lk79, hdX7_init, (Nat.le_of_ble_eq_true rfl), (Nat.le_of_ble_eq_true rfl)⟩ lk194 lk195 rfl rfl dX9_init_9 (ct_X7_init T1_2) rfl (Nat.le_of_ble_eq_true rfl) rfl rfl ?_
    refine ev_putFP 15 mm_cl9 (j := 1) (Nat.le_of_ble_eq_true rfl) dX9_init_12 lk243 rfl rfl rfl (fun _ _ _ => rfl) rfl rfl T0_2 rfl ?_
    refine ev_aload_n 16 dX9_init_15 rfl rfl ?_
    refine ev_aload_n 17 dX9_init_16 rfl rfl ?_
    refine ev_putFP 20 mm_cl9 (j := 0) (Nat.le_of_ble_eq_true rfl) dX9_init_17 lk242 rfl rfl rfl (fun _ _ _ => rfl) rfl rfl T0_2 rfl ?_
    exact ev_vret dX9_init_20 rfl (rfl)
    , by
    refine ⟨?_, ?_, fun q hq => ⟨?_, ?_, ?_⟩⟩ <;> simp (disch := omega) only [va_up_s, va_up_n]⟩
def lX2 : List (Nat × Nat × Nat) := [(102, 0, 19), (200, 8, 8), (212, 4, 4), (107, 0, 9), (107, 0, 9), (107, 0, 9), (107, 0, 9), (200, 320, 320), (200, 480, 480), (106, 0, 6), (200, 160, 160), (200, 8, 8), (200, 8, 8)]
theorem cx_X2_init : ∃ (I' : mm_TI) (J' : mm_TJ) (P' : mm_TP), Ct g mX2_init [.ref (mm_nx B), .int rt, .ref tl, .ref rw, .ref sk] (als B (lX2.take 1)) I J P (none, als B lX2, I', J', P') ∧ I' (mm_nx B) = va_up (I (mm_nx B)) 10 rt ∧ I' (mm_nx B + 1) = (fun _ => 0) ∧ I' (mm_nx B + 9) 3 = nI 40 ∧ (∀ i, 1 ≤ i → i ≤ 3 → I' (mm_nx B + 9 + i) = fun _ => 0) ∧ P' (mm_nx B) 0 = some tl ∧ P' (mm_nx B) 1 = some rw ∧ P' (mm_nx B) 2 = some sk ∧ P' (mm_nx B) 3 = some ((mm_nx B) + 9) ∧ P' (mm_nx B) 4 = some ((mm_nx B) + 1) ∧ P' (mm_nx B) 5 = some ((mm_nx B) + 2) ∧ P' (mm_nx B) 6 = some ((mm_nx B) + 7) ∧ P' (mm_nx B) 7 = some ((mm_nx B) + 8) ∧ P' (mm_nx B + 9) 0 = some (mm_nx B + 10) ∧ P' (mm_nx B + 9) 1 = some (mm_nx B + 11) ∧ P' (mm_nx B + 9) 2 = some (mm_nx B + 12) ∧ P' (mm_nx B + 9) 4 = some tl ∧ P' (mm_nx B + 9) 5 = some rw ∧ (∀ i, i < 4 → P' (mm_nx B + 2) i = some (mm_nx B + 3 + i)) ∧ (∀ q, q < mm_nx B → I' q = I q ∧ J' q = J q ∧ P' q = P q) := by
  generalize hz : mm_nx B = z
  obtain ⟨I1, J1, P1, b1, i0, i1, i9, pz, pa, fo⟩ : ∃ (I' : mm_TI) (J' : mm_TJ) (P' : mm_TP), (∀ Z : mm_Z, Ev g mX2_init 106 [some (.ref z), some (.int rt), some (.ref tl), some (.ref rw), some (.ref sk)] [.ref rw, .ref tl, .ref (z + 9), .ref (z + 9), .ref z] (als B (lX2.take 10)) I' J' P' Z → Ev g mX2_init 0 [some (.ref z), some (.int rt), some (.ref tl), some (.ref rw), some (.ref sk)] [] (als B (lX2.take 1)) I J P Z) ∧ I' z = va_up (I z) 10 rt ∧ I' (z + 1) = (fun _ => 0) ∧ I' (z + 9) = (fun _ => 0) ∧ (P' z 0 = some tl ∧ P' z 1 = some rw ∧ P' z 2 = some sk ∧ P' z 4 = some (z + 1) ∧ P' z 5 = some (z + 2) ∧ P' z 6 = some (z + 7) ∧ P' z 7 = some (z + 8)) ∧ (∀ i, i < 4 → P' (z + 2) i = some (z + 3 + i)) ∧ (∀ q, q < z → I' q = I q ∧ J' q = J q ∧ P' q = P q) := ⟨_, _, _, by
    intro Z K
    have T0_1 : mm_T (als B (lX2.take 1)) z = 102 := als_t (i := 0) hz rfl rfl rfl
    have X1 : mm_nx (als B (lX2.take 1)) = z + 1 := by rw [als_x, hz]; rfl
    refine ev_aload_n 1 dX2_init_0 rfl rfl ?_
    refine ev_objInit 4 dX2_init_1 lk331 lk97 lk98 (Nat.le_of_ble_eq_true rfl) (Nat.le_of_ble_eq_true rfl) (Nat.le_of_ble_eq_true rfl) rfl ?_
    refine ev_aload_n 5 dX2_init_4 rfl rfl ?_
    refine ev_bipushN 7 8 dX2_init_5 (by decide +kernel) rfl ?_
    refine ev_newa 9 (8) 0 dX2_init_7 rfl (by decide) lk125 rfl (by omega) rfl ?_
    rw [X1]
    have T0_2 : mm_T (als B (lX2.take 2)) z = 102 := als_t (i := 0) hz rfl rfl rfl
    have T1_2 : mm_T (als B (lX2.take 2)) (z + 1) = 200 := als_t (i := 1) hz rfl rfl rfl
    have X2 : mm_nx (als B (lX2.take 2)) = z + 2 := by rw [als_x, hz]; rfl
    show Ev g _ 9 _ _ (als B (lX2.take 2)) _ _ _ _
    refine ev_putFP 12 mm_cl2 (j := 4) (Nat.le_of_ble_eq_true rfl) dX2_init_9 lk374 rfl rfl rfl (fun _ _ _ => rfl) rfl rfl T0_2 rfl ?_
    refine ev_aload_n 13 dX2_init_12 rfl rfl ?_
    refine ev_iconstN 14 4 dX2_init_13 rfl ?_
    refine ev_anew 17 (4) 7 dX2_init_14 rfl lk332 lk333 rfl (by omega) rfl ?_
    rw [X2]
    have T0_3 : mm_T (als B (lX2.take 3)) z = 102 := als_t (i := 0) hz rfl rfl rfl
    have T1_3 : mm_T (als B (lX2.take 3)) (z + 1) = 200 := als_t (i := 1) hz rfl rfl rfl
    have T2_3 : mm_T (als B (lX2.take 3)) (z + 2) = 212 := als_t (i := 2) hz rfl rfl rfl
    have N2_3 : mm_N (als B (lX2.take 3)) (z + 2) = 4 := als_n (i := 2) hz rfl rfl rfl
    have X3 : mm_nx (als B (lX2.take 3)) = z + 3 := by rw [als_x, hz]; rfl
    show Ev g _ 17 _ _ (als B (lX2.take 3)) _ _ _ _
    refine ev_dup 18 dX2_init_17 rfl rfl ?_
    refine ev_iconstN 19 0 dX2_init_18 rfl ?_
    refine ev_new 22 mm_cl7 dX2_init_19 lk332 lk193 lk79 rfl ?_
    rw [X3]
    have T0_4 : mm_T (als B (lX2.take 4)) z = 102 := als_t (i := 0) hz rfl rfl rfl
    have T1_4 : mm_T (als B (lX2.take 4)) (z + 1) = 200 := als_t (i := 1) hz rfl rfl rfl
    have T2_4 : mm_T (als B (lX2.take 4)) (z + 2) = 212 := als_t (i := 2) hz rfl rfl rfl
    have N2_4 : mm_N (als B (lX2.take 4)) (z + 2) = 4 := als_n (i := 2) hz rfl rfl rfl
    have T3_4 : mm_T (als B (lX2.take 4)) (z + 3) = 107 := als_t (i := 3) hz rfl rfl rfl
    have X4 : mm_nx (als B (lX2.take 4)) = z + 4 := by rw [als_x, hz]; rfl
    show Ev g _ 22 _ _ (als B (lX2.take 4)) _ _ _ _
    refine ev_dup 23 dX2_init_22 rfl rfl ?_
    refine ev_invINv 26 (Mc := mX7_init) ⟨lk196, lk79, hdX7_init, (Nat.le_of_ble_eq_true rfl), (Nat.le_of_ble_eq_true rfl)⟩ lk334 lk195 rfl rfl dX2_init_23 (ct_X7_init T3_4) rfl (Nat.le_of_ble_eq_true rfl) rfl rfl ?_
    refine ev_aast 27 _ 7 dX2_init_26 T2_4 rfl (by omega) (by decide) rfl T3_4 rfl ?_
    refine ev_dup 28 dX2_init_27 rfl rfl ?_
    refine ev_iconstN 29 1 dX2_init_28 rfl ?_
    refine ev_new 32 mm_cl7 dX2_init_29 lk332 lk193 lk79 rfl ?_
    rw [X4]
    have T0_5 : mm_T (als B (lX2.take 5)) z = 102 := als_t (i := 0) hz rfl rfl rfl
    have T1_5 : mm_T (als B (lX2.take 5)) (z + 1) = 200 := als_t (i := 1) hz rfl rfl rfl
    have T2_5 : mm_T (als B (lX2.take 5)) (z + 2) = 212 := als_t (i := 2) hz rfl rfl rfl
    have N2_5 : mm_N (als B (lX2.take 5)) (z + 2) = 4 := als_n (i := 2) hz rfl rfl rfl
    have T3_5 : mm_T (als B (lX2.take 5)) (z + 3) = 107 := als_t (i := 3) hz rfl rfl rfl
    have T4_5 : mm_T (als B (lX2.take 5)) (z + 4) = 107 := als_t (i := 4) hz rfl rfl rfl
    have X5 : mm_nx (als B (lX2.take 5)) = z + 5 := by rw [als_x, hz]; rfl
    show Ev g _ 32 _ _ (als B (lX2.take 5)) _ _ _ _
    refine ev_dup 33 dX2_init_32 rfl rfl ?_
    refine ev_invINv 36 (Mc := mX7_init) ⟨lk196, lk79, hdX7_init, (Nat.le_of_ble_eq_true rfl), (Nat.le_of_ble_eq_true rfl)⟩ lk334 lk195 rfl rfl dX2_init_33 (ct_X7_init T4_5) rfl (Nat.le_of_ble_eq_true rfl) rfl rfl ?_
    refine ev_aast 37 _ 7 dX2_init_36 T2_5 rfl (by omega) (by decide) rfl T4_5 rfl ?_
    refine ev_dup 38 dX2_init_37 rfl rfl ?_
    refine ev_iconstN 39 2 dX2_init_38 rfl ?_
    refine ev_new 42 mm_cl7 dX2_init_39 lk332 lk193 lk79 rfl ?_
    rw [X5]
    have T0_6 : mm_T (als B (lX2.take 6)) z = 102 := als_t (i := 0) hz rfl rfl rfl
    have T1_6 : mm_T (als B (lX2.take 6)) (z + 1) = 200 := als_t (i := 1) hz rfl rfl rfl
    have T2_6 : mm_T (als B (lX2.take 6)) (z + 2) = 212 := als_t (i := 2) hz rfl rfl rfl
    have N2_6 : mm_N (als B (lX2.take 6)) (z + 2) = 4 := als_n (i := 2) hz rfl rfl rfl
    have T3_6 : mm_T (als B (lX2.take 6)) (z + 3) = 107 := als_t (i := 3) hz rfl rfl rfl
    have T4_6 : mm_T (als B (lX2.take 6)) (z + 4) = 107 := als_t (i := 4) hz rfl rfl rfl
    have T5_6 : mm_T (als B (lX2.take 6)) (z + 5) = 107 := als_t (i := 5) hz rfl rfl rfl
    have X6 : mm_nx (als B (lX2.take 6)) = z + 6 := by rw [als_x, hz]; rfl
    show Ev g _ 42 _ _ (als B (lX2.take 6)) _ _ _ _
    refine ev_dup 43 dX2_init_42 rfl rfl ?_
    refine ev_invINv 46 (Mc := mX7_init) ⟨lk196, lk79, hdX7_init, (Nat.le_of_ble_eq_true rfl), (Nat.le_of_ble_eq_true rfl)⟩ lk334 lk195 rfl rfl dX2_init_43 (ct_X7_init T5_6) rfl (Nat.le_of_ble_eq_true rfl) rfl rfl ?_
    refine ev_aast 47 _ 7 dX2_init_46 T2_6 rfl (by omega) (by decide) rfl T5_6 rfl ?_
    refine ev_dup 48 dX2_init_47 rfl rfl ?_
    refine ev_iconstN 49 3 dX2_init_48 rfl ?_
    refine ev_new 52 mm_cl7 dX2_init_49 lk332 lk193 lk79 rfl ?_
    rw [X6]
    have T0_7 : mm_T (als B (lX2.take 7)) z = 102 := als_t (i := 0) hz rfl rfl rfl
    have T1_7 : mm_T (als B (lX2.take 7)) (z + 1) = 200 := als_t (i := 1) hz rfl rfl rfl
    have T2_7 : mm_T (als B (lX2.take 7)) (z + 2) = 212 := als_t (i := 2) hz rfl rfl rfl
    have N2_7 : mm_N (als B (lX2.take 7)) (z + 2) = 4 := als_n (i := 2) hz rfl rfl rfl
    have T3_7 : mm_T (als B (lX2.take 7)) (z + 3) = 107 := als_t (i := 3) hz rfl rfl rfl
    have T4_7 : mm_T (als B (lX2.take 7)) (z + 4) = 107 := als_t (i := 4) hz rfl rfl rfl
    have T5_7 : mm_T (als B (lX2.take 7)) (z + 5) = 107 := als_t (i := 5) hz rfl rfl rfl
    have T6_7 : mm_T (als B (lX2.take 7)) (z + 6) = 107 := als_t (i := 6) hz rfl rfl rfl
    have X7 : mm_nx (als B (lX2.take 7)) = z + 7 := by rw [als_x, hz]; rfl
    show Ev g _ 52 _ _ (als B (lX2.take 7)) _ _ _ _
    refine ev_dup 53 dX2_init_52 rfl rfl ?_
    refine ev_invINv 56 (Mc := mX7_init) ⟨lk196, lk79, hdX7_init, (Nat.le_of_ble_eq_true rfl), (Nat.le_of_ble_eq_true rfl)⟩ lk334 lk195 rfl rfl dX2_init_53 (ct_X7_init T6_7) rfl (Nat.le_of_ble_eq_true rfl) rfl rfl ?_
    refine ev_aast 57 _ 7 dX2_init_56 T2_7 rfl (by omega) (by decide) rfl T6_7 rfl ?_
    refine ev_putFP 60 mm_cl2 (j := 5) (Nat.le_of_ble_eq_true rfl) dX2_init_57 lk375 rfl rfl rfl (fun _ _ _ => rfl) rfl rfl T0_7 rfl ?_
    refine ev_aload_n 61 dX2_init_60 rfl rfl ?_
    refine ev_sipushN 64 320 dX2_init_61 (by decide +kernel) rfl ?_
    refine ev_newa 66 (320) 0 dX2_init_64 rfl (by decide) lk125 rfl (by omega) rfl ?_
    rw [X7]
    have T0_8 : mm_T (als B (lX2.take 8)) z = 102 := als_t (i := 0) hz rfl rfl rfl
    have T1_8 : mm_T (als B (lX2.take 8)) (z + 1) = 200 := als_t (i := 1) hz rfl rfl rfl
    have T2_8 : mm_T (als B (lX2.take 8)) (z + 2) = 212 := als_t (i := 2) hz rfl rfl rfl
    have N2_8 : mm_N (als B (lX2.take 8)) (z + 2) = 4 := als_n (i := 2) hz rfl rfl rfl
    have T3_8 : mm_T (als B (lX2.take 8)) (z + 3) = 107 := als_t (i := 3) hz rfl rfl rfl
    have T4_8 : mm_T (als B (lX2.take 8)) (z + 4) = 107 := als_t (i := 4) hz rfl rfl rfl
    have T5_8 : mm_T (als B (lX2.take 8)) (z + 5) = 107 := als_t (i := 5) hz rfl rfl rfl
    have T6_8 : mm_T (als B (lX2.take 8)) (z + 6) = 107 := als_t (i := 6) hz rfl rfl rfl
    have T7_8 : mm_T (als B (lX2.take 8)) (z + 7) = 200 := als_t (i := 7) hz rfl rfl rfl
    have X8 : mm_nx (als B (lX2.take 8)) = z + 8 := by rw [als_x, hz]; rfl
    show Ev g _ 66 _ _ (als B (lX2.take 8)) _ _ _ _
    refine ev_putFP 69 mm_cl2 (j := 6) (Nat.le_of_ble_eq_true rfl) dX2_init_66 lk377 rfl rfl rfl (fun _ _ _ => rfl) rfl rfl T0_8 rfl ?_
    refine ev_aload_n 70 dX2_init_69 rfl rfl ?_
    refine ev_sipushN 73 480 dX2_init_70 (by decide +kernel) rfl ?_
    refine ev_newa 75 (480) 0 dX2_init_73 rfl (by decide) lk125 rfl (by omega) rfl ?_
    rw [X8]
    have T0_9 : mm_T (als B (lX2.take 9)) z = 102 := als_t (i := 0) hz rfl rfl rfl
    have T1_9 : mm_T (als B (lX2.take 9)) (z + 1) = 200 := als_t (i := 1) hz rfl rfl rfl
    have T2_9 : mm_T (als B (lX2.take 9)) (z + 2) = 212 := als_t (i := 2) hz rfl rfl rfl
    have N2_9 : mm_N (als B (lX2.take 9)) (z + 2) = 4 := als_n (i := 2) hz rfl rfl rfl
    have T3_9 : mm_T (als B (lX2.take 9)) (z + 3) = 107 := als_t (i := 3) hz rfl rfl rfl
    have T4_9 : mm_T (als B (lX2.take 9)) (z + 4) = 107 := als_t (i := 4) hz rfl rfl rfl
    have T5_9 : mm_T (als B (lX2.take 9)) (z + 5) = 107 := als_t (i := 5) hz rfl rfl rfl
    have T6_9 : mm_T (als B (lX2.take 9)) (z + 6) = 107 := als_t (i := 6) hz rfl rfl rfl
    have T7_9 : mm_T (als B (lX2.take 9)) (z + 7) = 200 := als_t (i := 7) hz rfl rfl rfl
    have T8_9 : mm_T (als B (lX2.take 9)) (z + 8) = 200 := als_t (i := 8) hz rfl rfl rfl
    have X9 : mm_nx (als B (lX2.take 9)) = z + 9 := by rw [als_x, hz]; rfl
    show Ev g _ 75 _ _ (als B (lX2.take 9)) _ _ _ _
    refine ev_putFP 78 mm_cl2 (j := 7) (Nat.le_of_ble_eq_true rfl) dX2_init_75 lk378 rfl rfl rfl (fun _ _ _ => rfl) rfl rfl T0_9 rfl ?_
    refine ev_aload_n 79 dX2_init_78 rfl rfl ?_
    refine ev_iload_n 80 dX2_init_79 rfl rfl ?_
    refine ev_putI 83 mm_cl2 (j := 10) (Nat.le_of_ble_eq_true rfl) dX2_init_80 lk382 rfl (fun _ _ _ => rfl) rfl rfl T0_9 rfl ?_
    refine ev_aload_n 84 dX2_init_83 rfl rfl ?_
    refine ev_aload_n 85 dX2_init_84 rfl rfl ?_
    refine ev_putFP 88 mm_cl2 (j := 0) (Nat.le_of_ble_eq_true rfl) dX2_init_85 lk369 rfl rfl rfl (fun _ _ _ => rfl) rfl rfl T0_9 rfl ?_
    refine ev_aload_n 89 dX2_init_88 rfl rfl ?_
    refine ev_aload_n 90 dX2_init_89 rfl rfl ?_
    refine ev_putFP 93 mm_cl2 (j := 1) (Nat.le_of_ble_eq_true rfl) dX2_init_90 lk370 rfl rfl rfl (fun _ _ _ => rfl) rfl rfl T0_9 rfl ?_
    refine ev_aload_n 94 dX2_init_93 rfl rfl ?_
    refine ev_aload 96 dX2_init_94 rfl rfl ?_
    refine ev_putFP 99 mm_cl2 (j := 2) (Nat.le_of_ble_eq_true rfl) dX2_init_96 lk371 rfl rfl rfl (fun _ _ _ => rfl) rfl rfl T0_9 rfl ?_
    refine ev_aload_n 100 dX2_init_99 rfl rfl ?_
    refine ev_new 103 mm_cl6 dX2_init_100 lk335 lk336 lk84 rfl ?_
    rw [X9]
    have T0_10 : mm_T (als B (lX2.take 10)) z = 102 := als_t (i := 0) hz rfl rfl rfl
    have T1_10 : mm_T (als B (lX2.take 10)) (z + 1) = 200 := als_t (i := 1) hz rfl rfl rfl
    have T2_10 : mm_T (als B (lX2.take 10)) (z + 2) = 212 := als_t (i := 2) hz rfl rfl rfl
    have N2_10 : mm_N (als B (lX2.take 10)) (z + 2) = 4 := als_n (i := 2) hz rfl rfl rfl
    have T3_10 : mm_T (als B (lX2.take 10)) (z + 3) = 107 := als_t (i := 3) hz rfl rfl rfl
    have T4_10 : mm_T (als B (lX2.take 10)) (z + 4) = 107 := als_t (i := 4) hz rfl rfl rfl
    have T5_10 : mm_T (als B (lX2.take 10)) (z + 5) = 107 := als_t (i := 5) hz rfl rfl rfl
    have T6_10 : mm_T (als B (lX2.take 10)) (z + 6) = 107 := als_t (i := 6) hz rfl rfl rfl
    have T7_10 : mm_T (als B (lX2.take 10)) (z + 7) = 200 := als_t (i := 7) hz rfl rfl rfl
    have T8_10 : mm_T (als B (lX2.take 10)) (z + 8) = 200 := als_t (i := 8) hz rfl rfl rfl
    have T9_10 : mm_T (als B (lX2.take 10)) (z + 9) = 106 := als_t (i := 9) hz rfl rfl rfl
    have X10 : mm_nx (als B (lX2.take 10)) = z + 10 := by rw [als_x, hz]; rfl
    show Ev g _ 103 _ _ (als B (lX2.take 10)) _ _ _ _
    refine ev_dup 104 dX2_init_103 rfl rfl ?_
    refine ev_aload_n 105 dX2_init_104 rfl rfl ?_
    refine ev_aload_n 106 dX2_init_105 rfl rfl ?_
    exact K
    , by
    refine ⟨?_, ?_, ?_, ⟨?_, ?_, ?_, ?_, ?_, ?_, ?_⟩, fun i hi => ?_, fun q hq => ⟨?_, ?_, ?_⟩⟩
    · simp (disch := omega) only [va_up_s, va_up_n]
    · simp (disch := omega) only [va_up_s, va_up_n]
    · simp (disch := omega) only [va_up_s, va_up_n]
    · simp (disch := omega) only [va_up_s, va_up_n]
    · simp (disch := omega) only [va_up_s, va_up_n]
    · simp (disch := omega) only [va_up_s, va_up_n]
    · simp (disch := omega) only [va_up_s, va_up_n]
    · simp (disch := omega) only [va_up_s, va_up_n]
    · simp (disch := omega) only [va_up_s, va_up_n]
    · simp (disch := omega) only [va_up_s, va_up_n]
    · have : i = 0 ∨ i = 1 ∨ i = 2 ∨ i = 3 := by omega
      rcases this with rfl | rfl | rfl | rfl <;> simp (disch := omega) only [va_up_s, va_up_n]
    · simp (disch := omega) only [va_up_s, va_up_n]
    · simp (disch := omega) only [va_up_s, va_up_n]
    · simp (disch := omega) only [va_up_s, va_up_n]⟩
  obtain ⟨q0, q1, q2, q4, q5, q6, q7⟩ := pz
  have x9 : mm_nx (als B (lX2.take 9)) = z + 9 := by rw [als_x, hz]; rfl
  obtain ⟨I6, J6, P6, c6, e1, e2, e3, e4, e5, e6, e7, e8, e9, e10⟩ := cx_X6_init (g := g) (B := als B (lX2.take 9)) (I := I1) (J := J1) (P := P1) (tl := tl) (rw := rw)
  rw [x9] at c6 e1 e2 e3 e4 e5 e6 e7 e8 e9 e10
  have T0 : mm_T (als B lX2) z = 102 := als_t (i := 0) hz rfl rfl rfl
  have T9 : mm_T (als B (lX2.take 10)) (z + 9) = 106 := als_t (i := 9) hz rfl rfl rfl
  have T90 : mm_T (als B (lX2.take 10)) z = 102 := als_t (i := 0) hz rfl rfl rfl
  refine ⟨I6, J6, va_up P6 z (va_up (P6 z) 3 (some (z + 9))), ?_, ?_, ?_, ?_, fun i a b => ?_, ?_, ?_, ?_, ?_, ?_, ?_, ?_, ?_, ?_, ?_, ?_, ?_, ?_, fun i hi => ?_, fun q hq => ⟨?_, ?_, ?_⟩⟩
  · refine ct_of (lv := [some (.ref z), some (.int rt), some (.ref tl), some (.ref rw), some (.ref sk)]) (by decide +kernel) (Nat.le_of_ble_eq_true rfl) rfl ?_
    refine b1 _ ?_
    refine ev_invIv 109 (Mc := mX6_init) ⟨lk339, lk84, hdX6_init, (Nat.le_of_ble_eq_true rfl), (Nat.le_of_ble_eq_true rfl)⟩ lk337 lk338 rfl rfl dX2_init_106 (c6) rfl (Nat.le_of_ble_eq_true rfl) rfl rfl ?_
    show Ev g _ 109 _ _ (als B lX2) _ _ _ _
    refine ev_putFP 112 mm_cl2 (j := 3) (Nat.le_of_ble_eq_true rfl) dX2_init_109 lk372 rfl rfl rfl (fun _ _ _ => rfl) rfl rfl T0 rfl ?_
    exact ev_vret dX2_init_112 rfl (rfl)
  · rw [e3 z (by omega)]; exact i0
  · rw [e3 _ (by omega)]; exact i1
  · rw [e1, va_up_s]
  · exact e2 i a b
  · rw [va_up_s, va_up_n _ _ (by omega), e10 z (by omega)]; exact q0
  · rw [va_up_s, va_up_n _ _ (by omega), e10 z (by omega)]; exact q1
  · rw [va_up_s, va_up_n _ _ (by omega), e10 z (by omega)]; exact q2
  · rw [va_up_s, va_up_s]
  · rw [va_up_s, va_up_n _ _ (by omega), e10 z (by omega)]; exact q4
  · rw [va_up_s, va_up_n _ _ (by omega), e10 z (by omega)]; exact q5
  · rw [va_up_s, va_up_n _ _ (by omega), e10 z (by omega)]; exact q6
  · rw [va_up_s, va_up_n _ _ (by omega), e10 z (by omega)]; exact q7
  · rw [va_up_n _ _ (by omega)]; exact e5
  · rw [va_up_n _ _ (by omega)]; exact e6
  · rw [va_up_n _ _ (by omega)]; exact e7
  · rw [va_up_n _ _ (by omega)]; exact e8
  · rw [va_up_n _ _ (by omega)]; exact e9
  · rw [va_up_n _ _ (by omega), e10 _ (by omega)]; exact pa i hi
  · rw [e3 q (by omega)]; exact (fo q hq).1
  · rw [e4 q (by omega)]; exact (fo q hq).2.1
  · rw [va_up_n _ _ (by omega), e10 q (by omega)]; exact (fo q hq).2.2
def lX1 : List (Nat × Nat × Nat) := [(101, 0, 19), (107, 0, 9), (208, 4, 4), (103, 0, 5), (200, 0, 0), (103, 0, 5), (200, 0, 0), (103, 0, 5), (200, 0, 0), (103, 0, 5), (200, 0, 0), (200, 321, 321), (106, 0, 6), (200, 160, 160), (200, 8, 8), (200, 8, 8)]
theorem cx_X1_init : ∃ (I' : mm_TI) (J' : mm_TJ) (P' : mm_TP), Ct g mX1_init [.ref (mm_nx B), .int rt, .ref tl, .ref rw] (als B (lX1.take 1)) I J P (none, als B lX1, I', J', P') ∧ I' (mm_nx B) = va_up (va_up (I (mm_nx B)) 10 (nI 2000)) 7 rt ∧ (∀ i, i < 4 → I' (mm_nx B + 3 + 2 * i) 0 = nI 0) ∧ I' (mm_nx B + 12) 3 = nI 40 ∧ (∀ i, 1 ≤ i → i ≤ 3 → I' (mm_nx B + 12 + i) = fun _ => 0) ∧ P' (mm_nx B) 0 = some tl ∧ P' (mm_nx B) 1 = some rw ∧ P' (mm_nx B) 2 = some ((mm_nx B) + 12) ∧ P' (mm_nx B) 3 = some ((mm_nx B) + 1) ∧ P' (mm_nx B) 4 = some ((mm_nx B) + 2) ∧ P' (mm_nx B) 5 = some ((mm_nx B) + 11) ∧ P' (mm_nx B + 12) 0 = some (mm_nx B + 13) ∧ P' (mm_nx B + 12) 1 = some (mm_nx B + 14) ∧ P' (mm_nx B + 12) 2 = some (mm_nx B + 15) ∧ P' (mm_nx B + 12) 4 = some tl ∧ P' (mm_nx B + 12) 5 = some rw ∧ (∀ i, i < 4 → P' (mm_nx B + 2) i = some (mm_nx B + 3 + 2 * i)) ∧ (∀ i, i < 4 → P' (mm_nx B + 3 + 2 * i) 1 = some (mm_nx B + 4 + 2 * i)) ∧ (∀ q, q < mm_nx B → I' q = I q ∧ J' q = J q ∧ P' q = P q) := by
  generalize hz : mm_nx B = z
  obtain ⟨I1, J1, P1, b1, i0, if0, i12, pz, pa, pk, fo⟩ : ∃ (I' : mm_TI) (J' : mm_TJ) (P' : mm_TP), (∀ Z : mm_Z, Ev g mX1_init 105 [some (.ref z), some (.int rt), some (.ref tl), some (.ref rw)] [.ref rw, .ref tl, .ref (z + 12), .ref (z + 12), .ref z] (als B (lX1.take 13)) I' J' P' Z → Ev g mX1_init 0 [some (.ref z), some (.int rt), some (.ref tl), some (.ref rw)] [] (als B (lX1.take 1)) I J P Z) ∧ I' z = va_up (va_up (I z) 10 (nI 2000)) 7 rt ∧ (∀ i, i < 4 → I' (z + 3 + 2 * i) 0 = nI 0) ∧ I' (z + 12) = (fun _ => 0) ∧ (P' z 0 = some tl ∧ P' z 1 = some rw ∧ P' z 3 = some (z + 1) ∧ P' z 4 = some (z + 2) ∧ P' z 5 = some (z + 11)) ∧ (∀ i, i < 4 → P' (z + 2) i = some (z + 3 + 2 * i)) ∧ (∀ i, i < 4 → P' (z + 3 + 2 * i) 1 = some (z + 4 + 2 * i)) ∧ (∀ q, q < z → I' q = I q ∧ J' q = J q ∧ P' q = P q) := ⟨_, _, _, by
    intro Z K
    have T0_1 : mm_T (als B (lX1.take 1)) z = 101 := als_t (i := 0) hz rfl rfl rfl
    have X1 : mm_nx (als B (lX1.take 1)) = z + 1 := by rw [als_x, hz]; rfl
    refine ev_aload_n 1 dX1_init_0 rfl rfl ?_
    refine ev_objInit 4 dX1_init_1 lk443 lk97 lk98 (Nat.le_of_ble_eq_true rfl) (Nat.le_of_ble_eq_true rfl) (Nat.le_of_ble_eq_true rfl) rfl ?_
    refine ev_aload_n 5 dX1_init_4 rfl rfl ?_
    refine ev_new 8 mm_cl7 dX1_init_5 lk444 lk193 lk79 rfl ?_
    rw [X1]
    have T0_2 : mm_T (als B (lX1.take 2)) z = 101 := als_t (i := 0) hz rfl rfl rfl
    have T1_2 : mm_T (als B (lX1.take 2)) (z + 1) = 107 := als_t (i := 1) hz rfl rfl rfl
    have X2 : mm_nx (als B (lX1.take 2)) = z + 2 := by rw [als_x, hz]; rfl
    show Ev g _ 8 _ _ (als B (lX1.take 2)) _ _ _ _
    refine ev_dup 9 dX1_init_8 rfl rfl ?_
    refine ev_invINv 12 (Mc := mX7_init) ⟨lk196, lk79, hdX7_init, (Nat.le_of_ble_eq_true rfl), (Nat.le_of_ble_eq_true rfl)⟩ lk445 lk195 rfl rfl dX1_init_9 (ct_X7_init T1_2) rfl (Nat.le_of_ble_eq_true rfl) rfl rfl ?_
    refine ev_putFP 15 mm_cl1 (j := 3) (Nat.le_of_ble_eq_true rfl) dX1_init_12 lk476 rfl rfl rfl (fun _ _ _ => rfl) rfl rfl T0_2 rfl ?_
    refine ev_aload_n 16 dX1_init_15 rfl rfl ?_
    refine ev_iconstN 17 4 dX1_init_16 rfl ?_
    refine ev_anew 20 (4) 3 dX1_init_17 rfl lk446 lk447 rfl (by omega) rfl ?_
    rw [X2]
    have T0_3 : mm_T (als B (lX1.take 3)) z = 101 := als_t (i := 0) hz rfl rfl rfl
    have T1_3 : mm_T (als B (lX1.take 3)) (z + 1) = 107 := als_t (i := 1) hz rfl rfl rfl
    have T2_3 : mm_T (als B (lX1.take 3)) (z + 2) = 208 := als_t (i := 2) hz rfl rfl rfl
    have N2_3 : mm_N (als B (lX1.take 3)) (z + 2) = 4 := als_n (i := 2) hz rfl rfl rfl
    have X3 : mm_nx (als B (lX1.take 3)) = z + 3 := by rw [als_x, hz]; rfl
    show Ev g _ 20 _ _ (als B (lX1.take 3)) _ _ _ _
    refine ev_dup 21 dX1_init_20 rfl rfl ?_
    refine ev_iconstN 22 0 dX1_init_21 rfl ?_
    refine ev_new 25 mm_cl3 dX1_init_22 lk446 lk448 lk86 rfl ?_
    rw [X3]
    have T0_4 : mm_T (als B (lX1.take 4)) z = 101 := als_t (i := 0) hz rfl rfl rfl
    have T1_4 : mm_T (als B (lX1.take 4)) (z + 1) = 107 := als_t (i := 1) hz rfl rfl rfl
    have T2_4 : mm_T (als B (lX1.take 4)) (z + 2) = 208 := als_t (i := 2) hz rfl rfl rfl
    have N2_4 : mm_N (als B (lX1.take 4)) (z + 2) = 4 := als_n (i := 2) hz rfl rfl rfl
    have T3_4 : mm_T (als B (lX1.take 4)) (z + 3) = 103 := als_t (i := 3) hz rfl rfl rfl
    have X4 : mm_nx (als B (lX1.take 4)) = z + 4 := by rw [als_x, hz]; rfl
    show Ev g _ 25 _ _ (als B (lX1.take 4)) _ _ _ _
    have y0 := fun (I : mm_TI) (J : mm_TJ) (P : mm_TP) => ct_X3_init (g := g) (B := als B (lX1.take 4)) (f := z + 3) (kd := 0) (N := 0) (I := I) (J := J) (P := P) T3_4 (by rw [X4]; omega) (by omega) rfl
    simp only [X4] at y0
    refine ev_dup 26 dX1_init_25 rfl rfl ?_
    refine ev_iconstN 27 0 dX1_init_26 rfl ?_
    refine ev_invIv 30 (Mc := mX3_init) ⟨lk451, lk86, hdX3_init, (Nat.le_of_ble_eq_true rfl), (Nat.le_of_ble_eq_true rfl)⟩ lk449 lk450 rfl rfl dX1_init_27 (y0 _ _ _) rfl (Nat.le_of_ble_eq_true rfl) rfl rfl ?_
    have T0_5 : mm_T (als B (lX1.take 5)) z = 101 := als_t (i := 0) hz rfl rfl rfl
    have T1_5 : mm_T (als B (lX1.take 5)) (z + 1) = 107 := als_t (i := 1) hz rfl rfl rfl
    have T2_5 : mm_T (als B (lX1.take 5)) (z + 2) = 208 := als_t (i := 2) hz rfl rfl rfl
    have N2_5 : mm_N (als B (lX1.take 5)) (z + 2) = 4 := als_n (i := 2) hz rfl rfl rfl
    have T3_5 : mm_T (als B (lX1.take 5)) (z + 3) = 103 := als_t (i := 3) hz rfl rfl rfl
    have T4_5 : mm_T (als B (lX1.take 5)) (z + 4) = 200 := als_t (i := 4) hz rfl rfl rfl
    have X5 : mm_nx (als B (lX1.take 5)) = z + 5 := by rw [als_x, hz]; rfl
    show Ev g _ 30 _ _ (als B (lX1.take 5)) _ _ _ _
    refine ev_aast 31 _ 3 dX1_init_30 T2_5 rfl (by omega) (by decide) rfl T3_5 rfl ?_
    refine ev_dup 32 dX1_init_31 rfl rfl ?_
    refine ev_iconstN 33 1 dX1_init_32 rfl ?_
    refine ev_new 36 mm_cl3 dX1_init_33 lk446 lk448 lk86 rfl ?_
    rw [X5]
    have T0_6 : mm_T (als B (lX1.take 6)) z = 101 := als_t (i := 0) hz rfl rfl rfl
    have T1_6 : mm_T (als B (lX1.take 6)) (z + 1) = 107 := als_t (i := 1) hz rfl rfl rfl
    have T2_6 : mm_T (als B (lX1.take 6)) (z + 2) = 208 := als_t (i := 2) hz rfl rfl rfl
    have N2_6 : mm_N (als B (lX1.take 6)) (z + 2) = 4 := als_n (i := 2) hz rfl rfl rfl
    have T3_6 : mm_T (als B (lX1.take 6)) (z + 3) = 103 := als_t (i := 3) hz rfl rfl rfl
    have T4_6 : mm_T (als B (lX1.take 6)) (z + 4) = 200 := als_t (i := 4) hz rfl rfl rfl
    have T5_6 : mm_T (als B (lX1.take 6)) (z + 5) = 103 := als_t (i := 5) hz rfl rfl rfl
    have X6 : mm_nx (als B (lX1.take 6)) = z + 6 := by rw [als_x, hz]; rfl
    show Ev g _ 36 _ _ (als B (lX1.take 6)) _ _ _ _
    have y1 := fun (I : mm_TI) (J : mm_TJ) (P : mm_TP) => ct_X3_init (g := g) (B := als B (lX1.take 6)) (f := z + 5) (kd := 0) (N := 0) (I := I) (J := J) (P := P) T5_6 (by rw [X6]; omega) (by omega) rfl
    simp only [X6] at y1
    refine ev_dup 37 dX1_init_36 rfl rfl ?_
    refine ev_iconstN 38 0 dX1_init_37 rfl ?_
    refine ev_invIv 41 (Mc := mX3_init) ⟨lk451, lk86, hdX3_init, (Nat.le_of_ble_eq_true rfl), (Nat.le_of_ble_eq_true rfl)⟩ lk449 lk450 rfl rfl dX1_init_38 (y1 _ _ _) rfl (Nat.le_of_ble_eq_true rfl) rfl rfl ?_
    have T0_7 : mm_T (als B (lX1.take 7)) z = 101 := als_t (i := 0) hz rfl rfl rfl
    have T1_7 : mm_T (als B (lX1.take 7)) (z + 1) = 107 := als_t (i := 1) hz rfl rfl rfl
    have T2_7 : mm_T (als B (lX1.take 7)) (z + 2) = 208 := als_t (i := 2) hz rfl rfl rfl
    have N2_7 : mm_N (als B (lX1.take 7)) (z + 2) = 4 := als_n (i := 2) hz rfl rfl rfl
    have T3_7 : mm_T (als B (lX1.take 7)) (z + 3) = 103 := als_t (i := 3) hz rfl rfl rfl
    have T4_7 : mm_T (als B (lX1.take 7)) (z + 4) = 200 := als_t (i := 4) hz rfl rfl rfl
    have T5_7 : mm_T (als B (lX1.take 7)) (z + 5) = 103 := als_t (i := 5) hz rfl rfl rfl
    have T6_7 : mm_T (als B (lX1.take 7)) (z + 6) = 200 := als_t (i := 6) hz rfl rfl rfl
    have X7 : mm_nx (als B (lX1.take 7)) = z + 7 := by rw [als_x, hz]; rfl
    show Ev g _ 41 _ _ (als B (lX1.take 7)) _ _ _ _
    refine ev_aast 42 _ 3 dX1_init_41 T2_7 rfl (by omega) (by decide) rfl T5_7 rfl ?_
    refine ev_dup 43 dX1_init_42 rfl rfl ?_
    refine ev_iconstN 44 2 dX1_init_43 rfl ?_
    refine ev_new 47 mm_cl3 dX1_init_44 lk446 lk448 lk86 rfl ?_
    rw [X7]
    have T0_8 : mm_T (als B (lX1.take 8)) z = 101 := als_t (i := 0) hz rfl rfl rfl
    have T1_8 : mm_T (als B (lX1.take 8)) (z + 1) = 107 := als_t (i := 1) hz rfl rfl rfl
    have T2_8 : mm_T (als B (lX1.take 8)) (z + 2) = 208 := als_t (i := 2) hz rfl rfl rfl
    have N2_8 : mm_N (als B (lX1.take 8)) (z + 2) = 4 := als_n (i := 2) hz rfl rfl rfl
    have T3_8 : mm_T (als B (lX1.take 8)) (z + 3) = 103 := als_t (i := 3) hz rfl rfl rfl
    have T4_8 : mm_T (als B (lX1.take 8)) (z + 4) = 200 := als_t (i := 4) hz rfl rfl rfl
    have T5_8 : mm_T (als B (lX1.take 8)) (z + 5) = 103 := als_t (i := 5) hz rfl rfl rfl
    have T6_8 : mm_T (als B (lX1.take 8)) (z + 6) = 200 := als_t (i := 6) hz rfl rfl rfl
    have T7_8 : mm_T (als B (lX1.take 8)) (z + 7) = 103 := als_t (i := 7) hz rfl rfl rfl
    have X8 : mm_nx (als B (lX1.take 8)) = z + 8 := by rw [als_x, hz]; rfl
    show Ev g _ 47 _ _ (als B (lX1.take 8)) _ _ _ _
    have y2 := fun (I : mm_TI) (J : mm_TJ) (P : mm_TP) => ct_X3_init (g := g) (B := als B (lX1.take 8)) (f := z + 7) (kd := 0) (N := 0) (I := I) (J := J) (P := P) T7_8 (by rw [X8]; omega) (by omega) rfl
    simp only [X8] at y2
    refine ev_dup 48 dX1_init_47 rfl rfl ?_
    refine ev_iconstN 49 0 dX1_init_48 rfl ?_
    refine ev_invIv 52 (Mc := mX3_init) ⟨lk451, lk86, hdX3_init, (Nat.le_of_ble_eq_true rfl), (Nat.le_of_ble_eq_true rfl)⟩ lk449 lk450 rfl rfl dX1_init_49 (y2 _ _ _) rfl (Nat.le_of_ble_eq_true rfl) rfl rfl ?_
    have T0_9 : mm_T (als B (lX1.take 9)) z = 101 := als_t (i := 0) hz rfl rfl rfl
    have T1_9 : mm_T (als B (lX1.take 9)) (z + 1) = 107 := als_t (i := 1) hz rfl rfl rfl
    have T2_9 : mm_T (als B (lX1.take 9)) (z + 2) = 208 := als_t (i := 2) hz rfl rfl rfl
    have N2_9 : mm_N (als B (lX1.take 9)) (z + 2) = 4 := als_n (i := 2) hz rfl rfl rfl
    have T3_9 : mm_T (als B (lX1.take 9)) (z + 3) = 103 := als_t (i := 3) hz rfl rfl rfl
    have T4_9 : mm_T (als B (lX1.take 9)) (z + 4) = 200 := als_t (i := 4) hz rfl rfl rfl
    have T5_9 : mm_T (als B (lX1.take 9)) (z + 5) = 103 := als_t (i := 5) hz rfl rfl rfl
    have T6_9 : mm_T (als B (lX1.take 9)) (z + 6) = 200 := als_t (i := 6) hz rfl rfl rfl
    have T7_9 : mm_T (als B (lX1.take 9)) (z + 7) = 103 := als_t (i := 7) hz rfl rfl rfl
    have T8_9 : mm_T (als B (lX1.take 9)) (z + 8) = 200 := als_t (i := 8) hz rfl rfl rfl
    have X9 : mm_nx (als B (lX1.take 9)) = z + 9 := by rw [als_x, hz]; rfl
    show Ev g _ 52 _ _ (als B (lX1.take 9)) _ _ _ _
    refine ev_aast 53 _ 3 dX1_init_52 T2_9 rfl (by omega) (by decide) rfl T7_9 rfl ?_
    refine ev_dup 54 dX1_init_53 rfl rfl ?_
    refine ev_iconstN 55 3 dX1_init_54 rfl ?_
    refine ev_new 58 mm_cl3 dX1_init_55 lk446 lk448 lk86 rfl ?_
    rw [X9]
    have T0_10 : mm_T (als B (lX1.take 10)) z = 101 := als_t (i := 0) hz rfl rfl rfl
    have T1_10 : mm_T (als B (lX1.take 10)) (z + 1) = 107 := als_t (i := 1) hz rfl rfl rfl
    have T2_10 : mm_T (als B (lX1.take 10)) (z + 2) = 208 := als_t (i := 2) hz rfl rfl rfl
    have N2_10 : mm_N (als B (lX1.take 10)) (z + 2) = 4 := als_n (i := 2) hz rfl rfl rfl
    have T3_10 : mm_T (als B (lX1.take 10)) (z + 3) = 103 := als_t (i := 3) hz rfl rfl rfl
    have T4_10 : mm_T (als B (lX1.take 10)) (z + 4) = 200 := als_t (i := 4) hz rfl rfl rfl
    have T5_10 : mm_T (als B (lX1.take 10)) (z + 5) = 103 := als_t (i := 5) hz rfl rfl rfl
    have T6_10 : mm_T (als B (lX1.take 10)) (z + 6) = 200 := als_t (i := 6) hz rfl rfl rfl
    have T7_10 : mm_T (als B (lX1.take 10)) (z + 7) = 103 := als_t (i := 7) hz rfl rfl rfl
    have T8_10 : mm_T (als B (lX1.take 10)) (z + 8) = 200 := als_t (i := 8) hz rfl rfl rfl
    have T9_10 : mm_T (als B (lX1.take 10)) (z + 9) = 103 := als_t (i := 9) hz rfl rfl rfl
    have X10 : mm_nx (als B (lX1.take 10)) = z + 10 := by rw [als_x, hz]; rfl
    show Ev g _ 58 _ _ (als B (lX1.take 10)) _ _ _ _
    have y3 := fun (I : mm_TI) (J : mm_TJ) (P : mm_TP) => ct_X3_init (g := g) (B := als B (lX1.take 10)) (f := z + 9) (kd := 0) (N := 0) (I := I) (J := J) (P := P) T9_10 (by rw [X10]; omega) (by omega) rfl
    simp only [X10] at y3
    refine ev_dup 59 dX1_init_58 rfl rfl ?_
    refine ev_iconstN 60 0 dX1_init_59 rfl ?_
    refine ev_invIv 63 (Mc := mX3_init) ⟨lk451, lk86, hdX3_init, (Nat.le_of_ble_eq_true rfl), (Nat.le_of_ble_eq_true rfl)⟩ lk449 lk450 rfl rfl dX1_init_60 (y3 _ _ _) rfl (Nat.le_of_ble_eq_true rfl) rfl rfl ?_
    have T0_11 : mm_T (als B (lX1.take 11)) z = 101 := als_t (i := 0) hz rfl rfl rfl
    have T1_11 : mm_T (als B (lX1.take 11)) (z + 1) = 107 := als_t (i := 1) hz rfl rfl rfl
    have T2_11 : mm_T (als B (lX1.take 11)) (z + 2) = 208 := als_t (i := 2) hz rfl rfl rfl
    have N2_11 : mm_N (als B (lX1.take 11)) (z + 2) = 4 := als_n (i := 2) hz rfl rfl rfl
    have T3_11 : mm_T (als B (lX1.take 11)) (z + 3) = 103 := als_t (i := 3) hz rfl rfl rfl
    have T4_11 : mm_T (als B (lX1.take 11)) (z + 4) = 200 := als_t (i := 4) hz rfl rfl rfl
    have T5_11 : mm_T (als B (lX1.take 11)) (z + 5) = 103 := als_t (i := 5) hz rfl rfl rfl
    have T6_11 : mm_T (als B (lX1.take 11)) (z + 6) = 200 := als_t (i := 6) hz rfl rfl rfl
    have T7_11 : mm_T (als B (lX1.take 11)) (z + 7) = 103 := als_t (i := 7) hz rfl rfl rfl
    have T8_11 : mm_T (als B (lX1.take 11)) (z + 8) = 200 := als_t (i := 8) hz rfl rfl rfl
    have T9_11 : mm_T (als B (lX1.take 11)) (z + 9) = 103 := als_t (i := 9) hz rfl rfl rfl
    have T10_11 : mm_T (als B (lX1.take 11)) (z + 10) = 200 := als_t (i := 10) hz rfl rfl rfl
    have X11 : mm_nx (als B (lX1.take 11)) = z + 11 := by rw [als_x, hz]; rfl
    show Ev g _ 63 _ _ (als B (lX1.take 11)) _ _ _ _
    refine ev_aast 64 _ 3 dX1_init_63 T2_11 rfl (by omega) (by decide) rfl T9_11 rfl ?_
    refine ev_putFP 67 mm_cl1 (j := 4) (Nat.le_of_ble_eq_true rfl) dX1_init_64 lk477 rfl rfl rfl (fun _ _ _ => rfl) rfl rfl T0_11 rfl ?_
    refine ev_aload_n 68 dX1_init_67 rfl rfl ?_
    refine ev_sipushN 71 321 dX1_init_68 (by decide +kernel) rfl ?_
    refine ev_newa 73 (321) 0 dX1_init_71 rfl (by decide) lk125 rfl (by omega) rfl ?_
    rw [X11]
    have T0_12 : mm_T (als B (lX1.take 12)) z = 101 := als_t (i := 0) hz rfl rfl rfl
    have T1_12 : mm_T (als B (lX1.take 12)) (z + 1) = 107 := als_t (i := 1) hz rfl rfl rfl
    have T2_12 : mm_T (als B (lX1.take 12)) (z + 2) = 208 := als_t (i := 2) hz rfl rfl rfl
    have N2_12 : mm_N (als B (lX1.take 12)) (z + 2) = 4 := als_n (i := 2) hz rfl rfl rfl
    have T3_12 : mm_T (als B (lX1.take 12)) (z + 3) = 103 := als_t (i := 3) hz rfl rfl rfl
    have T4_12 : mm_T (als B (lX1.take 12)) (z + 4) = 200 := als_t (i := 4) hz rfl rfl rfl
    have T5_12 : mm_T (als B (lX1.take 12)) (z + 5) = 103 := als_t (i := 5) hz rfl rfl rfl
    have T6_12 : mm_T (als B (lX1.take 12)) (z + 6) = 200 := als_t (i := 6) hz rfl rfl rfl
    have T7_12 : mm_T (als B (lX1.take 12)) (z + 7) = 103 := als_t (i := 7) hz rfl rfl rfl
    have T8_12 : mm_T (als B (lX1.take 12)) (z + 8) = 200 := als_t (i := 8) hz rfl rfl rfl
    have T9_12 : mm_T (als B (lX1.take 12)) (z + 9) = 103 := als_t (i := 9) hz rfl rfl rfl
    have T10_12 : mm_T (als B (lX1.take 12)) (z + 10) = 200 := als_t (i := 10) hz rfl rfl rfl
    have T11_12 : mm_T (als B (lX1.take 12)) (z + 11) = 200 := als_t (i := 11) hz rfl rfl rfl
    have X12 : mm_nx (als B (lX1.take 12)) = z + 12 := by rw [als_x, hz]; rfl
    show Ev g _ 73 _ _ (als B (lX1.take 12)) _ _ _ _
    refine ev_putFP 76 mm_cl1 (j := 5) (Nat.le_of_ble_eq_true rfl) dX1_init_73 lk479 rfl rfl rfl (fun _ _ _ => rfl) rfl rfl T0_12 rfl ?_
    refine ev_aload_n 77 dX1_init_76 rfl rfl ?_
    refine ev_sipushN 80 2000 dX1_init_77 (by decide +kernel) rfl ?_
    refine ev_putI 83 mm_cl1 (j := 10) (Nat.le_of_ble_eq_true rfl) dX1_init_80 lk487 rfl (fun _ _ _ => rfl) rfl rfl T0_12 rfl ?_
    refine ev_aload_n 84 dX1_init_83 rfl rfl ?_
    refine ev_iload_n 85 dX1_init_84 rfl rfl ?_
    refine ev_putI 88 mm_cl1 (j := 7) (Nat.le_of_ble_eq_true rfl) dX1_init_85 lk483 rfl (fun _ _ _ => rfl) rfl rfl T0_12 rfl ?_
    refine ev_aload_n 89 dX1_init_88 rfl rfl ?_
    refine ev_aload_n 90 dX1_init_89 rfl rfl ?_
    refine ev_putFP 93 mm_cl1 (j := 0) (Nat.le_of_ble_eq_true rfl) dX1_init_90 lk472 rfl rfl rfl (fun _ _ _ => rfl) rfl rfl T0_12 rfl ?_
    refine ev_aload_n 94 dX1_init_93 rfl rfl ?_
    refine ev_aload_n 95 dX1_init_94 rfl rfl ?_
    refine ev_putFP 98 mm_cl1 (j := 1) (Nat.le_of_ble_eq_true rfl) dX1_init_95 lk473 rfl rfl rfl (fun _ _ _ => rfl) rfl rfl T0_12 rfl ?_
    refine ev_aload_n 99 dX1_init_98 rfl rfl ?_
    refine ev_new 102 mm_cl6 dX1_init_99 lk470 lk336 lk84 rfl ?_
    rw [X12]
    have T0_13 : mm_T (als B (lX1.take 13)) z = 101 := als_t (i := 0) hz rfl rfl rfl
    have T1_13 : mm_T (als B (lX1.take 13)) (z + 1) = 107 := als_t (i := 1) hz rfl rfl rfl
    have T2_13 : mm_T (als B (lX1.take 13)) (z + 2) = 208 := als_t (i := 2) hz rfl rfl rfl
    have N2_13 : mm_N (als B (lX1.take 13)) (z + 2) = 4 := als_n (i := 2) hz rfl rfl rfl
    have T3_13 : mm_T (als B (lX1.take 13)) (z + 3) = 103 := als_t (i := 3) hz rfl rfl rfl
    have T4_13 : mm_T (als B (lX1.take 13)) (z + 4) = 200 := als_t (i := 4) hz rfl rfl rfl
    have T5_13 : mm_T (als B (lX1.take 13)) (z + 5) = 103 := als_t (i := 5) hz rfl rfl rfl
    have T6_13 : mm_T (als B (lX1.take 13)) (z + 6) = 200 := als_t (i := 6) hz rfl rfl rfl
    have T7_13 : mm_T (als B (lX1.take 13)) (z + 7) = 103 := als_t (i := 7) hz rfl rfl rfl
    have T8_13 : mm_T (als B (lX1.take 13)) (z + 8) = 200 := als_t (i := 8) hz rfl rfl rfl
    have T9_13 : mm_T (als B (lX1.take 13)) (z + 9) = 103 := als_t (i := 9) hz rfl rfl rfl
    have T10_13 : mm_T (als B (lX1.take 13)) (z + 10) = 200 := als_t (i := 10) hz rfl rfl rfl
    have T11_13 : mm_T (als B (lX1.take 13)) (z + 11) = 200 := als_t (i := 11) hz rfl rfl rfl
    have T12_13 : mm_T (als B (lX1.take 13)) (z + 12) = 106 := als_t (i := 12) hz rfl rfl rfl
    have X13 : mm_nx (als B (lX1.take 13)) = z + 13 := by rw [als_x, hz]; rfl
    show Ev g _ 102 _ _ (als B (lX1.take 13)) _ _ _ _
    refine ev_dup 103 dX1_init_102 rfl rfl ?_
    refine ev_aload_n 104 dX1_init_103 rfl rfl ?_
    refine ev_aload_n 105 dX1_init_104 rfl rfl ?_
    exact K
    , by
    refine ⟨?_, fun i hi => ?_, ?_, ⟨?_, ?_, ?_, ?_, ?_⟩, fun i hi => ?_, fun i hi => ?_, fun q hq => ⟨?_, ?_, ?_⟩⟩
    · simp (disch := omega) only [va_up_s, va_up_n]
    · have : i = 0 ∨ i = 1 ∨ i = 2 ∨ i = 3 := by omega
      rcases this with rfl | rfl | rfl | rfl <;> simp (disch := omega) only [va_up_s, va_up_n]
    · simp (disch := omega) only [va_up_s, va_up_n]
    · simp (disch := omega) only [va_up_s, va_up_n]
    · simp (disch := omega) only [va_up_s, va_up_n]
    · simp (disch := omega) only [va_up_s, va_up_n]
    · simp (disch := omega) only [va_up_s, va_up_n]
    · simp (disch := omega) only [va_up_s, va_up_n]
    · have : i = 0 ∨ i = 1 ∨ i = 2 ∨ i = 3 := by omega
      rcases this with rfl | rfl | rfl | rfl <;> simp (disch := omega) only [va_up_s, va_up_n]
    · have : i = 0 ∨ i = 1 ∨ i = 2 ∨ i = 3 := by omega
      rcases this with rfl | rfl | rfl | rfl <;> simp (disch := omega) only [va_up_s, va_up_n]
    · simp (disch := omega) only [va_up_s, va_up_n]
    · simp (disch := omega) only [va_up_s, va_up_n]
    · simp (disch := omega) only [va_up_s, va_up_n]⟩
  obtain ⟨q0, q1, q3, q4, q5⟩ := pz
  have x12 : mm_nx (als B (lX1.take 12)) = z + 12 := by rw [als_x, hz]; rfl
  obtain ⟨I6, J6, P6, c6, e1, e2, e3, e4, e5, e6, e7, e8, e9, e10⟩ := cx_X6_init (g := g) (B := als B (lX1.take 12)) (I := I1) (J := J1) (P := P1) (tl := tl) (rw := rw)
  rw [x12] at c6 e1 e2 e3 e4 e5 e6 e7 e8 e9 e10
  have T0 : mm_T (als B lX1) z = 101 := als_t (i := 0) hz rfl rfl rfl
  have T9 : mm_T (als B (lX1.take 13)) (z + 12) = 106 := als_t (i := 12) hz rfl rfl rfl
  have T90 : mm_T (als B (lX1.take 13)) z = 101 := als_t (i := 0) hz rfl rfl rfl
  refine ⟨I6, J6, va_up P6 z (va_up (P6 z) 2 (some (z + 12))), ?_, ?_, fun i hi => ?_, ?_, fun i a b => ?_, ?_, ?_, ?_, ?_, ?_, ?_, ?_, ?_, ?_, ?_, ?_, fun i hi => ?_, fun i hi => ?_, fun q hq => ⟨?_, ?_, ?_⟩⟩
  · refine ct_of (lv := [some (.ref z), some (.int rt), some (.ref tl), some (.ref rw)]) (by decide +kernel) (Nat.le_of_ble_eq_true rfl) rfl ?_
    refine b1 _ ?_
    refine ev_invIv 108 (Mc := mX6_init) ⟨lk339, lk84, hdX6_init, (Nat.le_of_ble_eq_true rfl), (Nat.le_of_ble_eq_true rfl)⟩ lk471 lk338 rfl rfl dX1_init_105 (c6) rfl (Nat.le_of_ble_eq_true rfl) rfl rfl ?_
    show Ev g _ 108 _ _ (als B lX1) _ _ _ _
    refine ev_putFP 111 mm_cl1 (j := 2) (Nat.le_of_ble_eq_true rfl) dX1_init_108 lk474 rfl rfl rfl (fun _ _ _ => rfl) rfl rfl T0 rfl ?_
    exact ev_vret dX1_init_111 rfl (rfl)
  · rw [e3 z (by omega)]; exact i0
  · rw [e3 _ (by omega)]; exact if0 i hi
  · rw [e1, va_up_s]
  · exact e2 i a b
  · rw [va_up_s, va_up_n _ _ (by omega), e10 z (by omega)]; exact q0
  · rw [va_up_s, va_up_n _ _ (by omega), e10 z (by omega)]; exact q1
  · rw [va_up_s, va_up_s]
  · rw [va_up_s, va_up_n _ _ (by omega), e10 z (by omega)]; exact q3
  · rw [va_up_s, va_up_n _ _ (by omega), e10 z (by omega)]; exact q4
  · rw [va_up_s, va_up_n _ _ (by omega), e10 z (by omega)]; exact q5
  · rw [va_up_n _ _ (by omega)]; exact e5
  · rw [va_up_n _ _ (by omega)]; exact e6
  · rw [va_up_n _ _ (by omega)]; exact e7
  · rw [va_up_n _ _ (by omega)]; exact e8
  · rw [va_up_n _ _ (by omega)]; exact e9
  · rw [va_up_n _ _ (by omega), e10 _ (by omega)]; exact pa i hi
  · rw [va_up_n _ _ (by omega), e10 _ (by omega)]; exact pk i hi
  · rw [e3 q (by omega)]; exact (fo q hq).1
  · rw [e4 q (by omega)]; exact (fo q hq).2.1
  · rw [va_up_n _ _ (by omega), e10 q (by omega)]; exact (fo q hq).2.2
end CN0
