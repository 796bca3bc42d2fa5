/-! CONSTRUCTORS -/
theorem alT {B : mm_B} {t n s q v : Nat} (hq : q < mm_nx B) (h : mm_T B q = v) : mm_T (mm_al B t n s) q = v := (al_T (by omega)).trans h
theorem alN {B : mm_B} {t n s q v : Nat} (hq : q < mm_nx B) (h : mm_N B q = v) : mm_N (mm_al B t n s) q = v := (al_N (by omega)).trans h
section CO0
variable {g : mm_G} {B : mm_B} {I : mm_TI} {J : mm_TJ} {P : mm_TP} {tl rw : Nat}
theorem cx_X6_init : ∃ (I' : mm_TI) (J' : mm_TJ) (P' : mm_TP), Ct g mX6_init [.ref (mm_nx B), .ref tl, .ref rw] (mm_al B 106 0 6) I J P (none, mm_al (mm_al (mm_al (mm_al B 106 0 6) 200 160 160) 200 8 8) 200 8 8, I', J', P') ∧
    I' (mm_nx B) = va_up (I (mm_nx B)) 3 (nI 40) ∧ (∀ i, 1 ≤ i → i ≤ 3 → I' (mm_nx B + i) = fun _ => 0) ∧ (∀ q, q < mm_nx B ∨ mm_nx B + 3 < q → I' q = I q) ∧ (∀ q, q ≤ mm_nx B ∨ mm_nx B + 3 < q → J' q = J q) ∧
    P' (mm_nx B) 0 = some (mm_nx B + 1) ∧ P' (mm_nx B) 1 = some (mm_nx B + 2) ∧ P' (mm_nx B) 2 = some (mm_nx B + 3) ∧ P' (mm_nx B) 4 = some tl ∧ P' (mm_nx B) 5 = some rw ∧ (∀ q, q < mm_nx B ∨ mm_nx B + 3 < q → P' q = P q) := by
  generalize hz : mm_nx B = z
  have t0 : mm_T (mm_al B 106 0 6) z = 106 := by rw [← hz]; exact al_Ts
  have t1 : mm_T (mm_al (mm_al B 106 0 6) 200 160 160) z = 106 := alT (by simp only [al_x]; omega) t0
  have t2 : mm_T (mm_al (mm_al (mm_al B 106 0 6) 200 160 160) 200 8 8) z = 106 := alT (by simp only [al_x]; omega) t1
  have t3 : mm_T (mm_al (mm_al (mm_al (mm_al B 106 0 6) 200 160 160) 200 8 8) 200 8 8) z = 106 := alT (by simp only [al_x]; omega) t2
  exact ⟨_, _, _, by
    refine ct_of (lv := [some (.ref z), some (.ref tl), some (.ref rw)]) (by decide +kernel) (Nat.le_of_ble_eq_true rfl) rfl ?_
    refine ev_aload_n 1 dX6_init_0 rfl rfl ?_
    refine ev_objInit 4 dX6_init_1 lk340 lk97 lk98 (Nat.le_of_ble_eq_true rfl) (Nat.le_of_ble_eq_true rfl) (Nat.le_of_ble_eq_true rfl) rfl ?_
    refine ev_aload_n 5 dX6_init_4 rfl rfl ?_
    refine ev_sipushN 8 160 dX6_init_5 (by decide +kernel) rfl ?_
    refine ev_newa 10 (160) 0 dX6_init_8 rfl (by decide) lk125 rfl (by omega) rfl ?_
    refine ev_putFP 13 mm_cl6 (j := 0) (Nat.le_of_ble_eq_true rfl) dX6_init_10 lk341 rfl rfl rfl (fun _ _ _ => rfl) rfl rfl t1 rfl ?_
    refine ev_aload_n 14 dX6_init_13 rfl rfl ?_
    refine ev_bipushN 16 8 dX6_init_14 (by decide +kernel) rfl ?_
    refine ev_newa 18 (8) 0 dX6_init_16 rfl (by decide) lk125 rfl (by omega) rfl ?_
    refine ev_putFP 21 mm_cl6 (j := 1) (Nat.le_of_ble_eq_true rfl) dX6_init_18 lk344 rfl rfl rfl (fun _ _ _ => rfl) rfl rfl t2 rfl ?_
    refine ev_aload_n 22 dX6_init_21 rfl rfl ?_
    refine ev_bipushN 24 8 dX6_init_22 (by decide +kernel) rfl ?_
    refine ev_newa 26 (8) 0 dX6_init_24 rfl (by decide) lk125 rfl (by omega) rfl ?_
    refine ev_putFP 29 mm_cl6 (j := 2) (Nat.le_of_ble_eq_true rfl) dX6_init_26 lk346 rfl rfl rfl (fun _ _ _ => rfl) rfl rfl t3 rfl ?_
    refine ev_aload_n 30 dX6_init_29 rfl rfl ?_
    refine ev_bipushN 32 40 dX6_init_30 (by decide +kernel) rfl ?_
    refine ev_putI 35 mm_cl6 (j := 3) (Nat.le_of_ble_eq_true rfl) dX6_init_32 lk350 rfl (fun _ _ _ => rfl) rfl rfl t3 rfl ?_
    refine ev_aload_n 36 dX6_init_35 rfl rfl ?_
    refine ev_aload_n 37 dX6_init_36 rfl rfl ?_
    refine ev_putFP 40 mm_cl6 (j := 4) (Nat.le_of_ble_eq_true rfl) dX6_init_37 lk354 rfl rfl rfl (fun _ _ _ => rfl) rfl rfl t3 rfl ?_
    refine ev_aload_n 41 dX6_init_40 rfl rfl ?_
    refine ev_aload_n 42 dX6_init_41 rfl rfl ?_
    refine ev_putFP 45 mm_cl6 (j := 5) (Nat.le_of_ble_eq_true rfl) dX6_init_42 lk355 rfl rfl rfl (fun _ _ _ => rfl) rfl rfl t3 rfl ?_
    exact ev_vret dX6_init_45 rfl (rfl)
    , by
    simp only [al_x, hz]
    refine ⟨?_, fun i i1 i2 => ?_, fun q hq => ?_, fun q hq => ?_, ?_, ?_, ?_, ?_, ?_, fun q hq => ?_⟩
    · simp (disch := omega) only [va_up_s, va_up_n]
    · simp (disch := omega) only [va_up_s, va_up_n]
      have : i = 1 ∨ i = 2 ∨ i = 3 := by omega
      rcases this with rfl | rfl | rfl <;> simp (disch := omega) only [va_up_s, va_up_n]
    · simp (disch := omega) only [va_up_s, va_up_n]
    · simp (disch := omega) only [va_up_s, va_up_n]
    · simp (disch := omega) only [va_up_s, va_up_n]
    · simp (disch := omega) only [va_up_s, va_up_n]
    · simp (disch := omega) only [va_up_s, va_up_n]
    · simp (disch := omega) only [va_up_s, va_up_n]
    · simp (disch := omega) only [va_up_s, va_up_n]
    · simp (disch := omega) only [va_up_s, va_up_n]⟩
end CO0
