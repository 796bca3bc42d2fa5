/-! STAGE -/
section SG0
variable {g : mm_G} {B : mm_B} {I : mm_TI} {J : mm_TJ} {P : mm_TP} {x m o n k f kd pl : Nat}
theorem ct_X3_init {N : Nat} (tf : mm_T B f = 103) (hfn : f < mm_nx B) (hk : kd ≤ 4) (hN : N = if kd = 3 then 160 else 0) : Ct g mX3_init [.ref f, .int (nI kd)] B I J P (none, mm_al B 200 N N, va_up (va_up I f (va_up (I f) 0 (nI kd))) (mm_nx B) (fun _ => 0), va_up (va_up J f (va_up (J f) 2 1)) (mm_nx B) (fun _ => 0), va_up (va_up P (mm_nx B) (fun _ => none)) f (va_up (P f) 1 (some (mm_nx B)))) := by
  have tf' : mm_T (mm_al B 200 N N) f = 103 := (al_T (by omega)).trans tf
  have tn : mm_T (mm_al B 200 N N) (mm_nx B) = 200 := al_Ts
  by_cases e : kd = 3
  · rw [if_pos e] at hN
    subst hN
    refine ct_of (lv := [some (.ref f), some (.int (nI kd))]) (by decide +kernel) (Nat.le_of_ble_eq_true rfl) rfl ?_
    refine ev_aload_n 1 dX3_init_0 rfl rfl ?_
    refine ev_objInit 4 dX3_init_1 lk452 lk97 lk98 (Nat.le_of_ble_eq_true rfl) (Nat.le_of_ble_eq_true rfl) (Nat.le_of_ble_eq_true rfl) rfl ?_
    refine ev_aload_n 5 dX3_init_4 rfl rfl ?_
    refine ev_lconst 6 (v := 1) dX3_init_5 (by decide +kernel) rfl ?_
    refine ev_putJ 9 mm_cl3 (j := 2) (Nat.le_of_ble_eq_true rfl) dX3_init_6 lk456 rfl (fun _ _ _ => rfl) rfl rfl tf rfl ?_
    refine ev_aload_n 10 dX3_init_9 rfl rfl ?_
    refine ev_iload_n 11 dX3_init_10 rfl rfl ?_
    refine ev_putFI 14 mm_cl3 (j := 0) (Nat.le_of_ble_eq_true rfl) dX3_init_11 lk453 rfl rfl rfl (fun _ _ _ => rfl) rfl rfl tf rfl ?_
    refine ev_aload_n 15 dX3_init_14 rfl rfl ?_
    refine ev_iload_n 16 dX3_init_15 rfl rfl ?_
    refine ev_iconstN 17 3 dX3_init_16 rfl ?_
    refine ev_icmp_neN 20 26 dX3_init_17 (by decide) (by omega) (by omega) rfl (fun hx => absurd ((by omega)) hx) (fun hbr => ?_)
    refine ev_sipushN 23 160 dX3_init_20 (by decide +kernel) rfl ?_
    refine ev_goto 27 dX3_init_23 (by decide) ?_
    refine ev_newa 29 (160) 0 dX3_init_27 rfl (by decide) lk125 rfl (by omega) rfl ?_
    show Ev g _ 29 _ _ (mm_al B 200 160 160) _ _ _ _
    refine ev_putFP 32 mm_cl3 (j := 1) (Nat.le_of_ble_eq_true rfl) dX3_init_29 lk455 rfl rfl rfl (fun _ _ _ => rfl) rfl rfl tf' rfl ?_
    rw [va_up_n _ _ (show f ≠ mm_nx B by omega)]
    exact ev_vret dX3_init_32 rfl (rfl)
  · rw [if_neg e] at hN
    subst hN
    refine ct_of (lv := [some (.ref f), some (.int (nI kd))]) (by decide +kernel) (Nat.le_of_ble_eq_true rfl) rfl ?_
    refine ev_aload_n 1 dX3_init_0 rfl rfl ?_
    refine ev_objInit 4 dX3_init_1 lk452 lk97 lk98 (Nat.le_of_ble_eq_true rfl) (Nat.le_of_ble_eq_true rfl) (Nat.le_of_ble_eq_true rfl) rfl ?_
    refine ev_aload_n 5 dX3_init_4 rfl rfl ?_
    refine ev_lconst 6 (v := 1) dX3_init_5 (by decide +kernel) rfl ?_
    refine ev_putJ 9 mm_cl3 (j := 2) (Nat.le_of_ble_eq_true rfl) dX3_init_6 lk456 rfl (fun _ _ _ => rfl) rfl rfl tf rfl ?_
    refine ev_aload_n 10 dX3_init_9 rfl rfl ?_
    refine ev_iload_n 11 dX3_init_10 rfl rfl ?_
    refine ev_putFI 14 mm_cl3 (j := 0) (Nat.le_of_ble_eq_true rfl) dX3_init_11 lk453 rfl rfl rfl (fun _ _ _ => rfl) rfl rfl tf rfl ?_
    refine ev_aload_n 15 dX3_init_14 rfl rfl ?_
    refine ev_iload_n 16 dX3_init_15 rfl rfl ?_
    refine ev_iconstN 17 3 dX3_init_16 rfl ?_
    refine ev_icmp_neN 20 26 dX3_init_17 (by decide) (by omega) (by omega) rfl (fun hbr => ?_) (fun hx => absurd hx ((by omega)))
    refine ev_iconstN 27 0 dX3_init_26 rfl ?_
    refine ev_newa 29 (0) 0 dX3_init_27 rfl (by decide) lk125 rfl (by omega) rfl ?_
    show Ev g _ 29 _ _ (mm_al B 200 0 0) _ _ _ _
    refine ev_putFP 32 mm_cl3 (j := 1) (Nat.le_of_ble_eq_true rfl) dX3_init_29 lk455 rfl rfl rfl (fun _ _ _ => rfl) rfl rfl tf' rfl ?_
    rw [va_up_n _ _ (show f ≠ mm_nx B by omega)]
    exact ev_vret dX3_init_32 rfl (rfl)
theorem cl_stage_f {c p d : Int32} (hV : lyV B P x) (hx : I x 4 = nI n) (hc : ¬ (0 ≤ c ∧ c < nI n)) : Ct g mX11_stage [.ref x, .int c, .int p, .int d] B I J P (some (.int (-1)), B, vst I x (-1), J, P) := by
  refine ct_of (lv := [some (.ref x), some (.int (c)), some (.int (p)), some (.int (d)), none, none, none]) (by decide +kernel) (Nat.le_of_ble_eq_true rfl) rfl ?_
  refine ev_aload_n 1 dX11_stage_0 rfl rfl ?_
  refine ev_iconstN 2 0 dX11_stage_1 rfl ?_
  refine ev_putI 5 mm_cl11 (j := 9) (Nat.le_of_ble_eq_true rfl) dX11_stage_2 lk270 rfl (fun _ _ _ => rfl) rfl rfl (hV.1 0 _ rfl) rfl ?_
  refine ev_aload_n 6 dX11_stage_5 rfl rfl ?_
  refine ev_iload_n 7 dX11_stage_6 rfl rfl ?_
  refine ev_invV 10 (Mc := mX11_coderAt) ⟨lk570, lk75, hdX11_coderAt, (Nat.le_of_ble_eq_true rfl), (Nat.le_of_ble_eq_true rfl)⟩ lk567 lk569 lk1 mm_cl11 rfl dX11_stage_7 (ca_f hV hx hc) rfl (hV.1 0 _ rfl) (Nat.le_of_ble_eq_true rfl) rfl rfl ?_
  refine ev_astoreN 12 (lv' := [_, _, _, some (.int _), _, _, _]) dX11_stage_10 (Nat.le_of_ble_eq_true rfl) rfl rfl ?_
  refine ev_aloadN 14 dX11_stage_12 rfl rfl ?_
  refine ev_ifnull_n 36 dX11_stage_14 (by decide) ?_
  refine ev_aload_n 37 dX11_stage_36 rfl rfl ?_
  refine ev_iconst 38 (v := -1) dX11_stage_37 (by decide +kernel) rfl ?_
  refine ev_invV 41 (Mc := mX11_refuse) ⟨lk303, lk75, hdX11_refuse, (Nat.le_of_ble_eq_true rfl), (Nat.le_of_ble_eq_true rfl)⟩ lk300 lk302 lk0 mm_cl11 rfl dX11_stage_38 (ct_refuse hV) rfl (hV.1 0 _ rfl) (Nat.le_of_ble_eq_true rfl) rfl rfl ?_
  exact ev_iret dX11_stage_41 rfl (rfl)
theorem cl_stage_b {p d : Int32} (h : CA B I P x o n k) (hp : ¬ (nI 0 ≤ p ∧ p ≤ nI 3)) : Ct g mX11_stage [.ref x, .int (nI k), .int p, .int d] B I J P (some (.int (-1)), B, vst I x (-1), J, P) := by
  have ca := ca_t (g := g) (J := J) h
  obtain ⟨hV, hC, hxo, hx, h8, hk, hP⟩ := h
  have out := nI_out (lo := 0) (hi := 3) (by omega) (by omega) hp
  refine ct_of (lv := [some (.ref x), some (.int (nI (k))), some (.int (p)), some (.int (d)), none, none, none]) (by decide +kernel) (Nat.le_of_ble_eq_true rfl) rfl ?_
  refine ev_aload_n 1 dX11_stage_0 rfl rfl ?_
  refine ev_iconstN 2 0 dX11_stage_1 rfl ?_
  refine ev_putI 5 mm_cl11 (j := 9) (Nat.le_of_ble_eq_true rfl) dX11_stage_2 lk270 rfl (fun _ _ _ => rfl) rfl rfl (hV.1 0 _ rfl) rfl ?_
  refine ev_aload_n 6 dX11_stage_5 rfl rfl ?_
  refine ev_iload_n 7 dX11_stage_6 rfl rfl ?_
  refine ev_invV 10 (Mc := mX11_coderAt) ⟨lk570, lk75, hdX11_coderAt, (Nat.le_of_ble_eq_true rfl), (Nat.le_of_ble_eq_true rfl)⟩ lk567 lk569 lk1 mm_cl11 rfl dX11_stage_7 (ca) rfl (hV.1 0 _ rfl) (Nat.le_of_ble_eq_true rfl) rfl rfl ?_
  refine ev_astore 12 (lv' := [_, _, _, some (.int _), _, _, _]) dX11_stage_10 (Nat.le_of_ble_eq_true rfl) rfl rfl ?_
  refine ev_aload 14 dX11_stage_12 rfl rfl ?_
  refine ev_ifnull_r 17 dX11_stage_14 rfl ?_
  refine ev_iload_n 18 dX11_stage_17 rfl rfl ?_
  refine ev_if_lt 21 36 dX11_stage_18 (by decide) rfl (fun h1 => ?_) (fun h1 => ?_)
  · refine ev_aload_n 37 dX11_stage_36 rfl rfl ?_
    refine ev_iconst 38 (v := -1) dX11_stage_37 (by decide +kernel) rfl ?_
    refine ev_invV 41 (Mc := mX11_refuse) ⟨lk303, lk75, hdX11_refuse, (Nat.le_of_ble_eq_true rfl), (Nat.le_of_ble_eq_true rfl)⟩ lk300 lk302 lk0 mm_cl11 rfl dX11_stage_38 (ct_refuse hV) rfl (hV.1 0 _ rfl) (Nat.le_of_ble_eq_true rfl) rfl rfl ?_
    exact ev_iret dX11_stage_41 rfl (rfl)
  · refine ev_iload_n 22 dX11_stage_21 rfl rfl ?_
    refine ev_iconstN 23 4 dX11_stage_22 rfl ?_
    refine ev_icmp_ge 26 36 dX11_stage_23 (by decide) rfl (fun hbr => ?_) (fun hx => absurd ((by have a := Int32.le_iff_toInt_le.mp (Int32.not_lt.mp h1); rw [i32_0] at a; apply Int32.le_iff_toInt_le.mpr; rw [nI_toInt (by omega)]; omega)) hx)
    refine ev_aload_n 37 dX11_stage_36 rfl rfl ?_
    refine ev_iconst 38 (v := -1) dX11_stage_37 (by decide +kernel) rfl ?_
    refine ev_invV 41 (Mc := mX11_refuse) ⟨lk303, lk75, hdX11_refuse, (Nat.le_of_ble_eq_true rfl), (Nat.le_of_ble_eq_true rfl)⟩ lk300 lk302 lk0 mm_cl11 rfl dX11_stage_38 (ct_refuse hV) rfl (hV.1 0 _ rfl) (Nat.le_of_ble_eq_true rfl) rfl rfl ?_
    exact ev_iret dX11_stage_41 rfl (rfl)
theorem cl_stage_b2 {d : Int32} (h : CA B I P x o n k) (p3 : pl ≤ 3) (hd : ¬ (nI 0 ≤ d ∧ d ≤ nI 6)) : Ct g mX11_stage [.ref x, .int (nI k), .int (nI pl), .int d] B I J P (some (.int (-1)), B, vst I x (-1), J, P) := by
  have ca := ca_t (g := g) (J := J) h
  obtain ⟨hV, hC, hxo, hx, h8, hk, hP⟩ := h
  refine ct_of (lv := [some (.ref x), some (.int (nI (k))), some (.int (nI (pl))), some (.int (d)), none, none, none]) (by decide +kernel) (Nat.le_of_ble_eq_true rfl) rfl ?_
  refine ev_aload_n 1 dX11_stage_0 rfl rfl ?_
  refine ev_iconstN 2 0 dX11_stage_1 rfl ?_
  refine ev_putI 5 mm_cl11 (j := 9) (Nat.le_of_ble_eq_true rfl) dX11_stage_2 lk270 rfl (fun _ _ _ => rfl) rfl rfl (hV.1 0 _ rfl) rfl ?_
  refine ev_aload_n 6 dX11_stage_5 rfl rfl ?_
  refine ev_iload_n 7 dX11_stage_6 rfl rfl ?_
  refine ev_invV 10 (Mc := mX11_coderAt) ⟨lk570, lk75, hdX11_coderAt, (Nat.le_of_ble_eq_true rfl), (Nat.le_of_ble_eq_true rfl)⟩ lk567 lk569 lk1 mm_cl11 rfl dX11_stage_7 (ca) rfl (hV.1 0 _ rfl) (Nat.le_of_ble_eq_true rfl) rfl rfl ?_
  refine ev_astore 12 (lv' := [_, _, _, some (.int _), _, _, _]) dX11_stage_10 (Nat.le_of_ble_eq_true rfl) rfl rfl ?_
  refine ev_aload 14 dX11_stage_12 rfl rfl ?_
  refine ev_ifnull_r 17 dX11_stage_14 rfl ?_
  refine ev_iload_n 18 dX11_stage_17 rfl rfl ?_
  refine ev_if_ltN 21 36 dX11_stage_18 (by decide) (by omega) rfl (fun hx => absurd hx (not_false)) (fun hbr => ?_)
  refine ev_iload_n 22 dX11_stage_21 rfl rfl ?_
  refine ev_iconstN 23 4 dX11_stage_22 rfl ?_
  refine ev_icmp_geN 26 36 dX11_stage_23 (by decide) (by omega) (by omega) rfl (fun hx => absurd hx ((by omega))) (fun hbr => ?_)
  refine ev_iload_n 27 dX11_stage_26 rfl rfl ?_
  refine ev_if_lt 30 36 dX11_stage_27 (by decide) rfl (fun h1 => ?_) (fun h1 => ?_)
  · refine ev_aload_n 37 dX11_stage_36 rfl rfl ?_
    refine ev_iconst 38 (v := -1) dX11_stage_37 (by decide +kernel) rfl ?_
    refine ev_invV 41 (Mc := mX11_refuse) ⟨lk303, lk75, hdX11_refuse, (Nat.le_of_ble_eq_true rfl), (Nat.le_of_ble_eq_true rfl)⟩ lk300 lk302 lk0 mm_cl11 rfl dX11_stage_38 (ct_refuse hV) rfl (hV.1 0 _ rfl) (Nat.le_of_ble_eq_true rfl) rfl rfl ?_
    exact ev_iret dX11_stage_41 rfl (rfl)
  · refine ev_iload_n 31 dX11_stage_30 rfl rfl ?_
    refine ev_bipushN 33 6 dX11_stage_31 (by decide +kernel) rfl ?_
    refine ev_icmp_le 36 42 dX11_stage_33 (by decide) rfl (fun hx => absurd hx ((fun h2 => hd ⟨Int32.not_lt.mp h1, h2⟩))) (fun hbr => ?_)
    refine ev_aload_n 37 dX11_stage_36 rfl rfl ?_
    refine ev_iconst 38 (v := -1) dX11_stage_37 (by decide +kernel) rfl ?_
    refine ev_invV 41 (Mc := mX11_refuse) ⟨lk303, lk75, hdX11_refuse, (Nat.le_of_ble_eq_true rfl), (Nat.le_of_ble_eq_true rfl)⟩ lk300 lk302 lk0 mm_cl11 rfl dX11_stage_38 (ct_refuse hV) rfl (hV.1 0 _ rfl) (Nat.le_of_ble_eq_true rfl) rfl rfl ?_
    exact ev_iret dX11_stage_41 rfl (rfl)
theorem cl_stage_w (h : CA B I P x o n k) (p3 : pl ≤ 3) (d4 : 4 < kd) (d6 : kd ≤ 6) : Ct g mX11_stage [.ref x, .int (nI k), .int (nI pl), .int (nI kd)] B I J P (some (.int (-5)), B, vst I x (-5), J, P) := by
  have ca := ca_t (g := g) (J := J) h
  obtain ⟨hV, hC, hxo, hx, h8, hk, hP⟩ := h
  refine ct_of (lv := [some (.ref x), some (.int (nI (k))), some (.int (nI (pl))), some (.int (nI (kd))), none, none, none]) (by decide +kernel) (Nat.le_of_ble_eq_true rfl) rfl ?_
  refine ev_aload_n 1 dX11_stage_0 rfl rfl ?_
  refine ev_iconstN 2 0 dX11_stage_1 rfl ?_
  refine ev_putI 5 mm_cl11 (j := 9) (Nat.le_of_ble_eq_true rfl) dX11_stage_2 lk270 rfl (fun _ _ _ => rfl) rfl rfl (hV.1 0 _ rfl) rfl ?_
  refine ev_aload_n 6 dX11_stage_5 rfl rfl ?_
  refine ev_iload_n 7 dX11_stage_6 rfl rfl ?_
  refine ev_invV 10 (Mc := mX11_coderAt) ⟨lk570, lk75, hdX11_coderAt, (Nat.le_of_ble_eq_true rfl), (Nat.le_of_ble_eq_true rfl)⟩ lk567 lk569 lk1 mm_cl11 rfl dX11_stage_7 (ca) rfl (hV.1 0 _ rfl) (Nat.le_of_ble_eq_true rfl) rfl rfl ?_
  refine ev_astore 12 (lv' := [_, _, _, some (.int _), _, _, _]) dX11_stage_10 (Nat.le_of_ble_eq_true rfl) rfl rfl ?_
  refine ev_aload 14 dX11_stage_12 rfl rfl ?_
  refine ev_ifnull_r 17 dX11_stage_14 rfl ?_
  refine ev_iload_n 18 dX11_stage_17 rfl rfl ?_
  refine ev_if_ltN 21 36 dX11_stage_18 (by decide) (by omega) rfl (fun hx => absurd hx (not_false)) (fun hbr => ?_)
  refine ev_iload_n 22 dX11_stage_21 rfl rfl ?_
  refine ev_iconstN 23 4 dX11_stage_22 rfl ?_
  refine ev_icmp_geN 26 36 dX11_stage_23 (by decide) (by omega) (by omega) rfl (fun hx => absurd hx ((by omega))) (fun hbr => ?_)
  refine ev_iload_n 27 dX11_stage_26 rfl rfl ?_
  refine ev_if_ltN 30 36 dX11_stage_27 (by decide) (by omega) rfl (fun hx => absurd hx (not_false)) (fun hbr => ?_)
  refine ev_iload_n 31 dX11_stage_30 rfl rfl ?_
  refine ev_bipushN 33 6 dX11_stage_31 (by decide +kernel) rfl ?_
  refine ev_icmp_leN 36 42 dX11_stage_33 (by decide) (by omega) (by omega) rfl (fun hbr => ?_) (fun hx => absurd ((by omega)) hx)
  refine ev_iload_n 43 dX11_stage_42 rfl rfl ?_
  refine ev_iconstN 44 4 dX11_stage_43 rfl ?_
  refine ev_icmp_leN 47 54 dX11_stage_44 (by decide) (by omega) (by omega) rfl (fun hx => absurd hx ((by omega))) (fun hbr => ?_)
  refine ev_aload_n 48 dX11_stage_47 rfl rfl ?_
  refine ev_bipush 50 (v := -5) dX11_stage_48 (by decide +kernel) rfl ?_
  refine ev_invV 53 (Mc := mX11_refuse) ⟨lk303, lk75, hdX11_refuse, (Nat.le_of_ble_eq_true rfl), (Nat.le_of_ble_eq_true rfl)⟩ lk300 lk302 lk0 mm_cl11 rfl dX11_stage_50 (ct_refuse hV) rfl (hV.1 0 _ rfl) (Nat.le_of_ble_eq_true rfl) rfl rfl ?_
  exact ev_iret dX11_stage_53 rfl (rfl)
theorem cx_stage {fa N : Nat} {v : Int32} (h : CA B I P x o n k) (p3 : pl ≤ 3) (d4 : kd ≤ 4) (hN : N = if kd = 3 then 160 else 0) (hnx : o + 33 ≤ mm_nx B) (hF : P (o + 19) pl = some fa) (tfa : mm_T B fa = 103) (hfa : fa ≠ x) (hv : I fa 0 = v) :
    ∃ (I1 : mm_TI) (J1 : mm_TJ) (P1 : mm_TP), I1 x = va_up (I x) 9 (nI 0) ∧ (∀ q, q < mm_nx B → q ≠ x → I1 q = I q) ∧ I1 (mm_nx B) 0 = nI kd ∧ I1 (mm_nx B) 3 = 0 ∧ I1 (mm_nx B) 4 = 0 ∧ (∀ j, I1 (mm_nx B + 1) j = 0) ∧ J1 (mm_nx B) 2 = lN 1 ∧ (∀ q, q < mm_nx B → J1 q = J q) ∧ P1 (mm_nx B) 1 = some (mm_nx B + 1) ∧ P1 (o + 19) = va_up (P (o + 19)) pl (some (mm_nx B)) ∧ (∀ q, q < mm_nx B → q ≠ o + 19 → P1 q = P q) ∧
      Ct g mX11_stage [.ref x, .int (nI k), .int (nI pl), .int (nI kd)] B I J P (some (.int v), mm_al (mm_al B 103 0 5) 200 N N, I1, J1, P1) := by
  have ca := ca_t (g := g) (J := J) h
  obtain ⟨hV, hC, hxo, hx, h8, hk, hP⟩ := h
  have nx1 : mm_nx (mm_al B 103 0 5) = mm_nx B + 1 := rfl
  have tn : mm_T (mm_al B 103 0 5) (mm_nx B) = 103 := al_Ts
  have ini := ct_X3_init (g := g) (B := mm_al B 103 0 5) (f := mm_nx B) (I := va_up (vz I x) (mm_nx B) (fun _ => 0)) (J := va_up J (mm_nx B) (fun _ => 0)) (P := va_up P (mm_nx B) (fun _ => none)) tn (by rw [nx1]; omega) d4 hN
  rw [nx1, va_up_s, bx_uu, va_up_s, bx_uu, va_up_s, va_3 _ _ _ _ (by omega)] at ini
  generalize hI1 : va_up (va_up (vz I x) (mm_nx B) (va_up (fun _ => 0) 0 (nI kd))) (mm_nx B + 1) (fun _ => 0) = I1 at ini
  generalize hJ1 : va_up (va_up J (mm_nx B) (va_up (fun _ => 0) 2 1)) (mm_nx B + 1) (fun _ => 0) = J1 at ini
  generalize hP0 : va_up (va_up P (mm_nx B) (va_up (fun _ => none) 1 (some (mm_nx B + 1)))) (mm_nx B + 1) (fun _ => none) = P0 at ini
  have pz : ∀ q, q < mm_nx B → P0 q = P q := fun q hq => by rw [← hP0, va_up_n _ _ (by omega), va_up_n _ _ (by omega)]
  have iz : ∀ q, q < mm_nx B → I1 q = vz I x q := fun q hq => by rw [← hI1, va_up_n _ _ (by omega), va_up_n _ _ (by omega)]
  have tn2 : mm_T (mm_al (mm_al B 103 0 5) 200 N N) (mm_nx B) = 103 := (al_T (by rw [nx1]; omega)).trans tn
  have hC2 : lyC (mm_al (mm_al B 103 0 5) 200 N N) P0 x o := by
    rw [← hP0]; exact lyC_al (lyC_al hC (by omega)) (by rw [nx1]; omega)
  refine ⟨I1, J1, va_up P0 (o + 19) (va_up (P0 (o + 19)) pl (some (mm_nx B))), ?_, fun q q1 q2 => ?_, ?_, ?_, ?_, fun j => ?_, ?_, fun q hq => ?_, ?_, ?_, fun q q1 q2 => ?_, ?_⟩
  · rw [iz _ (by omega)]; exact va_up_s _ _ _
  · rw [iz _ q1]; exact va_up_n _ _ q2
  · rw [← hI1, va_up_n _ _ (by omega), va_up_s, va_up_s]
  · rw [← hI1, va_up_n _ _ (by omega), va_up_s, va_up_n _ _ (by omega)]
  · rw [← hI1, va_up_n _ _ (by omega), va_up_s, va_up_n _ _ (by omega)]
  · rw [← hI1, va_up_s]
  · rw [← hJ1, va_up_n _ _ (by omega), va_up_s, va_up_s]; rfl
  · rw [← hJ1, va_up_n _ _ (by omega), va_up_n _ _ (by omega)]
  · rw [va_up_n _ _ (by omega), ← hP0, va_up_n _ _ (by omega), va_up_s, va_up_s]
  · rw [va_up_s, pz _ (by omega)]
  · rw [va_up_n _ _ q2, pz _ q1]
  · refine ct_of (lv := [some (.ref x), some (.int (nI k)), some (.int (nI pl)), some (.int (nI kd)), none, none, none]) (by decide +kernel) (Nat.le_of_ble_eq_true rfl) rfl ?_
    refine ev_aload_n 1 dX11_stage_0 rfl rfl ?_
    refine ev_iconstN 2 0 dX11_stage_1 rfl ?_
    refine ev_putI 5 mm_cl11 (j := 9) (Nat.le_of_ble_eq_true rfl) dX11_stage_2 lk270 rfl (fun _ _ _ => rfl) rfl rfl (hV.1 0 _ rfl) rfl ?_
    refine ev_aload_n 6 dX11_stage_5 rfl rfl ?_
    refine ev_iload_n 7 dX11_stage_6 rfl rfl ?_
    refine ev_invV 10 (Mc := mX11_coderAt) ⟨lk570, lk75, hdX11_coderAt, (Nat.le_of_ble_eq_true rfl), (Nat.le_of_ble_eq_true rfl)⟩ lk567 lk569 lk1 mm_cl11 rfl dX11_stage_7 (ca) rfl (hV.1 0 _ rfl) (Nat.le_of_ble_eq_true rfl) rfl rfl ?_
    refine ev_astore 12 (lv' := [_, _, _, some (.int _), _, _, _]) dX11_stage_10 (Nat.le_of_ble_eq_true rfl) rfl rfl ?_
    refine ev_aload 14 dX11_stage_12 rfl rfl ?_
    refine ev_ifnull_r 17 dX11_stage_14 rfl ?_
    refine ev_iload_n 18 dX11_stage_17 rfl rfl ?_
    refine ev_if_ltN 21 36 dX11_stage_18 (by decide) (by omega) rfl (fun hx => absurd hx (not_false)) (fun hbr => ?_)
    refine ev_iload_n 22 dX11_stage_21 rfl rfl ?_
    refine ev_iconstN 23 4 dX11_stage_22 rfl ?_
    refine ev_icmp_geN 26 36 dX11_stage_23 (by decide) (by omega) (by omega) rfl (fun hx => absurd hx ((by omega))) (fun hbr => ?_)
    refine ev_iload_n 27 dX11_stage_26 rfl rfl ?_
    refine ev_if_ltN 30 36 dX11_stage_27 (by decide) (by omega) rfl (fun hx => absurd hx (not_false)) (fun hbr => ?_)
    refine ev_iload_n 31 dX11_stage_30 rfl rfl ?_
    refine ev_bipushN 33 6 dX11_stage_31 (by decide +kernel) rfl ?_
    refine ev_icmp_leN 36 42 dX11_stage_33 (by decide) (by omega) (by omega) rfl (fun hbr => ?_) (fun hx => absurd ((by omega)) hx)
    refine ev_iload_n 43 dX11_stage_42 rfl rfl ?_
    refine ev_iconstN 44 4 dX11_stage_43 rfl ?_
    refine ev_icmp_leN 47 54 dX11_stage_44 (by decide) (by omega) (by omega) rfl (fun hbr => ?_) (fun hx => absurd ((by omega)) hx)
    refine ev_aload 56 dX11_stage_54 rfl rfl ?_
    refine ev_getP 59 mm_cl0 (j := 4) (Nat.le_of_ble_eq_true rfl) dX11_stage_56 lk551 (fun _ _ _ => rfl) (hC.1 0 _ rfl) (a := (o + 17)) (hC.2.2.1 3 _ _ _ rfl) rfl ?_
    refine ev_getP 62 mm_cl1 (j := 4) (Nat.le_of_ble_eq_true rfl) dX11_stage_59 lk478 (fun _ _ _ => rfl) (hC.1 17 _ rfl) (a := (o + 19)) (hC.2.2.1 15 _ _ _ rfl) rfl ?_
    refine ev_astore 64 (lv' := [_, _, _, _, some (.ref _), _, _]) dX11_stage_62 (Nat.le_of_ble_eq_true rfl) rfl rfl ?_
    refine ev_aload 66 dX11_stage_64 rfl rfl ?_
    refine ev_iload_n 67 dX11_stage_66 rfl rfl ?_
    refine ev_aald 68 _ 3 dX11_stage_67 (hC.1 19 _ rfl) rfl (by have hNN := hC.2.1 19 _ rfl; omega) rfl ?_
    refine ev_eqR (a := fa) (hF) ?_
    refine ev_getI 71 mm_cl3 (j := 0) (Nat.le_of_ble_eq_true rfl) dX11_stage_68 lk454 (fun _ _ _ => rfl) tfa rfl ?_
    refine ev_eqI (y := (v)) ((vzk hv hfa)) ?_
    refine ev_istore 73 (lv' := [_, _, _, _, _, some (.ref _), _]) dX11_stage_71 (Nat.le_of_ble_eq_true rfl) rfl rfl ?_
    refine ev_aload 75 dX11_stage_73 rfl rfl ?_
    refine ev_iload_n 76 dX11_stage_75 rfl rfl ?_
    refine ev_new 79 mm_cl3 dX11_stage_76 lk1202 lk448 lk86 rfl ?_
    show Ev g _ 79 _ _ (mm_al B 103 0 5) _ _ _ _
    refine ev_dup 80 dX11_stage_79 rfl rfl ?_
    refine ev_iload_n 81 dX11_stage_80 rfl rfl ?_
    refine ev_invIv 84 (Mc := mX3_init) ⟨lk451, lk86, hdX3_init, (Nat.le_of_ble_eq_true rfl), (Nat.le_of_ble_eq_true rfl)⟩ lk1203 lk450 rfl rfl dX11_stage_81 (ini) rfl (Nat.le_of_ble_eq_true rfl) rfl rfl ?_
    have hC := hC2
    refine ev_aast 85 _ 3 dX11_stage_84 (hC.1 19 _ rfl) rfl (by have hNN := hC.2.1 19 _ rfl; omega) (by decide) rfl tn2 rfl ?_
    refine ev_iload 87 dX11_stage_85 rfl rfl ?_
    exact ev_iret dX11_stage_87 rfl (rfl)
theorem ml_stage_f {c p d : Int32} (hM : lyM B P m) (hn : I m 0 = nI n) (hc : ¬ (0 ≤ c ∧ c < nI n)) : Ct g mX12_stage [.ref m, .int c, .int p, .int d] B I J P (some (.int (-1)), B, mo_st I m (-1), J, P) := by
  refine ct_of (lv := [some (.ref m), some (.int (c)), some (.int (p)), some (.int (d)), none, none, none]) (by decide +kernel) (Nat.le_of_ble_eq_true rfl) rfl ?_
  refine ev_aload_n 1 dX12_stage_0 rfl rfl ?_
  refine ev_iload_n 2 dX12_stage_1 rfl rfl ?_
  refine ev_invV 5 (Mc := mX12_isCoder) ⟨lk1552, lk80, hdX12_isCoder, (Nat.le_of_ble_eq_true rfl), (Nat.le_of_ble_eq_true rfl)⟩ lk1549 lk1551 lk40 mm_cl12 rfl dX12_stage_2 (ct_X12_isCoder_f hM (by rw [hn]; exact hc)) rfl (hM.1 0 _ rfl) (Nat.le_of_ble_eq_true rfl) rfl rfl ?_
  refine ev_if_eqN 8 27 dX12_stage_5 (by decide) (by omega) rfl (fun hbr => ?_) (fun hx => absurd ((by omega)) hx)
  refine ev_aload_n 28 dX12_stage_27 rfl rfl ?_
  refine ev_iconst 29 (v := -1) dX12_stage_28 (by decide +kernel) rfl ?_
  refine ev_invV 32 (Mc := mX12_refused) ⟨lk1540, lk80, hdX12_refused, (Nat.le_of_ble_eq_true rfl), (Nat.le_of_ble_eq_true rfl)⟩ lk1537 lk1539 lk38 mm_cl12 rfl dX12_stage_29 (ct_X12_refused hM) rfl (hM.1 0 _ rfl) (Nat.le_of_ble_eq_true rfl) rfl rfl ?_
  exact ev_iret dX12_stage_32 rfl (rfl)
theorem ml_stage_b {p d : Int32} (h : MA B I P m n k) (hp : ¬ (nI 0 ≤ p ∧ p ≤ nI 3)) : Ct g mX12_stage [.ref m, .int (nI k), .int p, .int d] B I J P (some (.int (-1)), B, mo_st I m (-1), J, P) := by
  obtain ⟨hM, hn, h8, hk⟩ := h
  refine ct_of (lv := [some (.ref m), some (.int (nI (k))), some (.int (p)), some (.int (d)), none, none, none]) (by decide +kernel) (Nat.le_of_ble_eq_true rfl) rfl ?_
  refine ev_aload_n 1 dX12_stage_0 rfl rfl ?_
  refine ev_iload_n 2 dX12_stage_1 rfl rfl ?_
  refine ev_invV 5 (Mc := mX12_isCoder) ⟨lk1552, lk80, hdX12_isCoder, (Nat.le_of_ble_eq_true rfl), (Nat.le_of_ble_eq_true rfl)⟩ lk1549 lk1551 lk40 mm_cl12 rfl dX12_stage_2 (ct_X12_isCoder_t hM hn h8 hk) rfl (hM.1 0 _ rfl) (Nat.le_of_ble_eq_true rfl) rfl rfl ?_
  refine ev_if_eqN 8 27 dX12_stage_5 (by decide) (by omega) rfl (fun hx => absurd hx ((by omega))) (fun hbr => ?_)
  refine ev_iload_n 9 dX12_stage_8 rfl rfl ?_
  refine ev_iconstN 10 0 dX12_stage_9 rfl ?_
  refine ev_iconstN 11 3 dX12_stage_10 rfl ?_
  refine ev_invS 14 (Mc := mX12_in) ⟨lk1536, lk80, hdX12_in, (Nat.le_of_ble_eq_true rfl), (Nat.le_of_ble_eq_true rfl)⟩ lk1534 lk1535 dX12_stage_11 (ct_X12_in_f hp) rfl (Nat.le_of_ble_eq_true rfl) rfl rfl ?_
  refine ev_if_eqN 17 27 dX12_stage_14 (by decide) (by omega) rfl (fun hbr => ?_) (fun hx => absurd ((by omega)) hx)
  refine ev_aload_n 28 dX12_stage_27 rfl rfl ?_
  refine ev_iconst 29 (v := -1) dX12_stage_28 (by decide +kernel) rfl ?_
  refine ev_invV 32 (Mc := mX12_refused) ⟨lk1540, lk80, hdX12_refused, (Nat.le_of_ble_eq_true rfl), (Nat.le_of_ble_eq_true rfl)⟩ lk1537 lk1539 lk38 mm_cl12 rfl dX12_stage_29 (ct_X12_refused hM) rfl (hM.1 0 _ rfl) (Nat.le_of_ble_eq_true rfl) rfl rfl ?_
  exact ev_iret dX12_stage_32 rfl (rfl)
theorem ml_stage_b2 {d : Int32} (h : MA B I P m n k) (p3 : pl ≤ 3) (hd : ¬ (nI 0 ≤ d ∧ d ≤ nI 6)) : Ct g mX12_stage [.ref m, .int (nI k), .int (nI pl), .int d] B I J P (some (.int (-1)), B, mo_st I m (-1), J, P) := by
  obtain ⟨hM, hn, h8, hk⟩ := h
  refine ct_of (lv := [some (.ref m), some (.int (nI (k))), some (.int (nI (pl))), some (.int (d)), none, none, none]) (by decide +kernel) (Nat.le_of_ble_eq_true rfl) rfl ?_
  refine ev_aload_n 1 dX12_stage_0 rfl rfl ?_
  refine ev_iload_n 2 dX12_stage_1 rfl rfl ?_
  refine ev_invV 5 (Mc := mX12_isCoder) ⟨lk1552, lk80, hdX12_isCoder, (Nat.le_of_ble_eq_true rfl), (Nat.le_of_ble_eq_true rfl)⟩ lk1549 lk1551 lk40 mm_cl12 rfl dX12_stage_2 (ct_X12_isCoder_t hM hn h8 hk) rfl (hM.1 0 _ rfl) (Nat.le_of_ble_eq_true rfl) rfl rfl ?_
  refine ev_if_eqN 8 27 dX12_stage_5 (by decide) (by omega) rfl (fun hx => absurd hx ((by omega))) (fun hbr => ?_)
  refine ev_iload_n 9 dX12_stage_8 rfl rfl ?_
  refine ev_iconstN 10 0 dX12_stage_9 rfl ?_
  refine ev_iconstN 11 3 dX12_stage_10 rfl ?_
  refine ev_invS 14 (Mc := mX12_in) ⟨lk1536, lk80, hdX12_in, (Nat.le_of_ble_eq_true rfl), (Nat.le_of_ble_eq_true rfl)⟩ lk1534 lk1535 dX12_stage_11 (ct_X12_in_t (in_t (by omega) p3 (by omega))) rfl (Nat.le_of_ble_eq_true rfl) rfl rfl ?_
  refine ev_if_eqN 17 27 dX12_stage_14 (by decide) (by omega) rfl (fun hx => absurd hx ((by omega))) (fun hbr => ?_)
  refine ev_iload_n 18 dX12_stage_17 rfl rfl ?_
  refine ev_iconstN 19 0 dX12_stage_18 rfl ?_
  refine ev_bipushN 21 6 dX12_stage_19 (by decide +kernel) rfl ?_
  refine ev_invS 24 (Mc := mX12_in) ⟨lk1536, lk80, hdX12_in, (Nat.le_of_ble_eq_true rfl), (Nat.le_of_ble_eq_true rfl)⟩ lk1534 lk1535 dX12_stage_21 (ct_X12_in_f hd) rfl (Nat.le_of_ble_eq_true rfl) rfl rfl ?_
  refine ev_if_neN 27 33 dX12_stage_24 (by decide) (by omega) rfl (fun hx => absurd ((by omega)) hx) (fun hbr => ?_)
  refine ev_aload_n 28 dX12_stage_27 rfl rfl ?_
  refine ev_iconst 29 (v := -1) dX12_stage_28 (by decide +kernel) rfl ?_
  refine ev_invV 32 (Mc := mX12_refused) ⟨lk1540, lk80, hdX12_refused, (Nat.le_of_ble_eq_true rfl), (Nat.le_of_ble_eq_true rfl)⟩ lk1537 lk1539 lk38 mm_cl12 rfl dX12_stage_29 (ct_X12_refused hM) rfl (hM.1 0 _ rfl) (Nat.le_of_ble_eq_true rfl) rfl rfl ?_
  exact ev_iret dX12_stage_32 rfl (rfl)
theorem ml_stage_w (h : MA B I P m n k) (p3 : pl ≤ 3) (d4 : 4 < kd) (d6 : kd ≤ 6) : Ct g mX12_stage [.ref m, .int (nI k), .int (nI pl), .int (nI kd)] B I J P (some (.int (-5)), B, mo_st I m (-5), J, P) := by
  obtain ⟨hM, hn, h8, hk⟩ := h
  refine ct_of (lv := [some (.ref m), some (.int (nI (k))), some (.int (nI (pl))), some (.int (nI (kd))), none, none, none]) (by decide +kernel) (Nat.le_of_ble_eq_true rfl) rfl ?_
  refine ev_aload_n 1 dX12_stage_0 rfl rfl ?_
  refine ev_iload_n 2 dX12_stage_1 rfl rfl ?_
  refine ev_invV 5 (Mc := mX12_isCoder) ⟨lk1552, lk80, hdX12_isCoder, (Nat.le_of_ble_eq_true rfl), (Nat.le_of_ble_eq_true rfl)⟩ lk1549 lk1551 lk40 mm_cl12 rfl dX12_stage_2 (ct_X12_isCoder_t hM hn h8 hk) rfl (hM.1 0 _ rfl) (Nat.le_of_ble_eq_true rfl) rfl rfl ?_
  refine ev_if_eqN 8 27 dX12_stage_5 (by decide) (by omega) rfl (fun hx => absurd hx ((by omega))) (fun hbr => ?_)
  refine ev_iload_n 9 dX12_stage_8 rfl rfl ?_
  refine ev_iconstN 10 0 dX12_stage_9 rfl ?_
  refine ev_iconstN 11 3 dX12_stage_10 rfl ?_
  refine ev_invS 14 (Mc := mX12_in) ⟨lk1536, lk80, hdX12_in, (Nat.le_of_ble_eq_true rfl), (Nat.le_of_ble_eq_true rfl)⟩ lk1534 lk1535 dX12_stage_11 (ct_X12_in_t (in_t (by omega) p3 (by omega))) rfl (Nat.le_of_ble_eq_true rfl) rfl rfl ?_
  refine ev_if_eqN 17 27 dX12_stage_14 (by decide) (by omega) rfl (fun hx => absurd hx ((by omega))) (fun hbr => ?_)
  refine ev_iload_n 18 dX12_stage_17 rfl rfl ?_
  refine ev_iconstN 19 0 dX12_stage_18 rfl ?_
  refine ev_bipushN 21 6 dX12_stage_19 (by decide +kernel) rfl ?_
  refine ev_invS 24 (Mc := mX12_in) ⟨lk1536, lk80, hdX12_in, (Nat.le_of_ble_eq_true rfl), (Nat.le_of_ble_eq_true rfl)⟩ lk1534 lk1535 dX12_stage_21 (ct_X12_in_t (in_t (by omega) d6 (by omega))) rfl (Nat.le_of_ble_eq_true rfl) rfl rfl ?_
  refine ev_if_neN 27 33 dX12_stage_24 (by decide) (by omega) rfl (fun hbr => ?_) (fun hx => absurd hx ((by omega)))
  refine ev_iload_n 34 dX12_stage_33 rfl rfl ?_
  refine ev_iconstN 35 4 dX12_stage_34 rfl ?_
  refine ev_icmp_leN 38 45 dX12_stage_35 (by decide) (by omega) (by omega) rfl (fun hx => absurd hx ((by omega))) (fun hbr => ?_)
  refine ev_aload_n 39 dX12_stage_38 rfl rfl ?_
  refine ev_bipush 41 (v := -5) dX12_stage_39 (by decide +kernel) rfl ?_
  refine ev_invV 44 (Mc := mX12_refused) ⟨lk1540, lk80, hdX12_refused, (Nat.le_of_ble_eq_true rfl), (Nat.le_of_ble_eq_true rfl)⟩ lk1537 lk1539 lk38 mm_cl12 rfl dX12_stage_41 (ct_X12_refused hM) rfl (hM.1 0 _ rfl) (Nat.le_of_ble_eq_true rfl) rfl rfl ?_
  exact ev_iret dX12_stage_44 rfl (rfl)
theorem lx_mstage {v : Int32} {I0 : mm_TI} (hM : lyM B P m) (hk : k < 8) (p3 : pl ≤ 3) : ∀ (d j : Nat), j + d = 160 →
    Ev g mX12_stage 96 [some (.ref m), some (.int (nI k)), some (.int (nI pl)), some (.int (nI kd)), some (.int (nI (4 * k + pl))), some (.int v), some (.int (nI j))] [] B (va_up I0 (m + 52) (sgp (I0 (m + 52)) (160 * (4 * k + pl)) j (fun _ => nI 0))) J P (some (.int v), B, mo_st (va_up I0 (m + 52) (sgp (I0 (m + 52)) (160 * (4 * k + pl)) 160 (fun _ => nI 0))) m (nI 0), J, P) := by
  intro d
  induction d with
  | zero =>
    intro j hj
    obtain rfl : j = 160 := by omega
    refine ev_iload 98 dX12_stage_96 rfl rfl ?_
    refine ev_sipushN 101 160 dX12_stage_98 (by decide +kernel) rfl ?_
    refine ev_icmp_geN 104 125 dX12_stage_101 (by decide) (by omega) (by omega) rfl (fun hbr => ?_) (fun hx => absurd ((by omega)) hx)
    refine ev_aload_n 126 dX12_stage_125 rfl rfl ?_
    refine ev_iload 128 dX12_stage_126 rfl rfl ?_
    refine ev_invV 131 (Mc := mX12_done) ⟨lk1544, lk80, hdX12_done, (Nat.le_of_ble_eq_true rfl), (Nat.le_of_ble_eq_true rfl)⟩ lk1541 lk1543 lk39 mm_cl12 rfl dX12_stage_128 (ct_X12_done hM) rfl (hM.1 0 _ rfl) (Nat.le_of_ble_eq_true rfl) rfl rfl ?_
    exact ev_iret dX12_stage_131 rfl (rfl)
  | succ d ih =>
    intro j hj
    have e := ih (j + 1) (by omega)
    refine ev_iload 98 dX12_stage_96 rfl rfl ?_
    refine ev_sipushN 101 160 dX12_stage_98 (by decide +kernel) rfl ?_
    refine ev_icmp_geN 104 125 dX12_stage_101 (by decide) (by omega) (by omega) rfl (fun hx => absurd hx ((by omega))) (fun hbr => ?_)
    refine ev_aload_n 105 dX12_stage_104 rfl rfl ?_
    refine ev_getP 108 mm_cl12 (j := 58) (Nat.le_of_ble_eq_true rfl) dX12_stage_105 lk1343 (fun _ _ _ => rfl) (hM.1 0 _ rfl) (a := (m + 52)) (hM.2.2 51 _ _ _ rfl) rfl ?_
    refine ev_sipushN 111 160 dX12_stage_108 (by decide +kernel) rfl ?_
    refine ev_iload 113 dX12_stage_111 rfl rfl ?_
    refine ev_imulN 114 dX12_stage_113 rfl ?_
    refine ev_iload 116 dX12_stage_114 rfl rfl ?_
    refine ev_iaddN 117 dX12_stage_116 rfl ?_
    refine ev_iconstN 118 0 dX12_stage_117 rfl ?_
    refine ev_iast 119 _ dX12_stage_118 (hM.1 52 _ rfl) rfl (by have hNN := hM.2.1 52 _ rfl; omega) rfl ?_
    rw [va_up_s, bx_uu, sgp_grow rfl]
    refine ev_iincN 122 (lv' := [_, _, _, _, _, some (.int _), _]) 1 dX12_stage_119 rfl (Nat.le_of_ble_eq_true rfl) rfl rfl ?_
    refine ev_goto 96 dX12_stage_122 (by decide) ?_
    exact e
theorem cx_mstage {v : Int32} (h : MA B I P m n k) (p3 : pl ≤ 3) (d4 : kd ≤ 4) (hv : I (m + 48) (4 * k + pl) = v) :
    ∃ I2 : mm_TI, I2 (m + 48) = va_up (I (m + 48)) (4 * k + pl) (nI kd) ∧ I2 (m + 49) = va_up (I (m + 49)) (4 * k + pl) (nI 1) ∧ I2 (m + 50) = va_up (I (m + 50)) (4 * k + pl) (nI 0) ∧ I2 (m + 51) = va_up (I (m + 51)) (4 * k + pl) (nI 0) ∧ I2 (m + 52) = sgp (I (m + 52)) (160 * (4 * k + pl)) 160 (fun _ => nI 0) ∧ I2 m = va_up (I m) 1 (nI 0) ∧ (∀ q, q ≠ m → q < m + 48 ∨ m + 52 < q → I2 q = I q) ∧
      Ct g mX12_stage [.ref m, .int (nI k), .int (nI pl), .int (nI kd)] B I J P (some (.int v), B, I2, J, P) := by
  obtain ⟨hM, hn, h8, hk⟩ := h
  generalize hI0 : va_up (va_up (va_up (va_up I (m + 48) (va_up (I (m + 48)) (4 * k + pl) (nI kd))) (m + 49) (va_up (I (m + 49)) (4 * k + pl) (nI 1))) (m + 50) (va_up (I (m + 50)) (4 * k + pl) (nI 0))) (m + 51) (va_up (I (m + 51)) (4 * k + pl) (nI 0)) = I0
  have e := lx_mstage (g := g) (J := J) (kd := kd) (v := v) (I0 := I0) hM (show k < 8 by omega) p3 160 0 (by omega)
  have f52 : I0 (m + 52) = I (m + 52) := by rw [← hI0, va_up_n _ _ (by omega), va_up_n _ _ (by omega), va_up_n _ _ (by omega), va_up_n _ _ (by omega)]
  rw [sgp_0, va_up_id, f52] at e
  refine ⟨mo_st (va_up I0 (m + 52) (sgp (I (m + 52)) (160 * (4 * k + pl)) 160 (fun _ => nI 0))) m (nI 0), ?_, ?_, ?_, ?_, ?_, ?_, fun q q1 q2 => ?_, ?_⟩
  · refine (va_up_n _ _ (by omega)).trans ?_
    rw [va_up_n _ _ (by omega), ← hI0, va_up_n _ _ (by omega), va_up_n _ _ (by omega), va_up_n _ _ (by omega), va_up_s]
  · refine (va_up_n _ _ (by omega)).trans ?_
    rw [va_up_n _ _ (by omega), ← hI0, va_up_n _ _ (by omega), va_up_n _ _ (by omega), va_up_s]
  · refine (va_up_n _ _ (by omega)).trans ?_
    rw [va_up_n _ _ (by omega), ← hI0, va_up_n _ _ (by omega), va_up_s]
  · refine (va_up_n _ _ (by omega)).trans ?_
    rw [va_up_n _ _ (by omega), ← hI0, va_up_s]
  · refine (va_up_n _ _ (by omega)).trans ?_
    rw [va_up_s]
  · refine (va_up_s _ _ _).trans ?_
    rw [va_up_n _ _ (by omega), ← hI0, va_up_n _ _ (by omega), va_up_n _ _ (by omega), va_up_n _ _ (by omega), va_up_n _ _ (by omega)]
  · refine (va_up_n _ _ q1).trans ?_
    rw [va_up_n _ _ (by omega), ← hI0, va_up_n _ _ (by omega), va_up_n _ _ (by omega), va_up_n _ _ (by omega), va_up_n _ _ (by omega)]
  · refine ct_of (lv := [some (.ref m), some (.int (nI k)), some (.int (nI pl)), some (.int (nI kd)), none, none, none]) (by decide +kernel) (Nat.le_of_ble_eq_true rfl) rfl ?_
    refine ev_aload_n 1 dX12_stage_0 rfl rfl ?_
    refine ev_iload_n 2 dX12_stage_1 rfl rfl ?_
    refine ev_invV 5 (Mc := mX12_isCoder) ⟨lk1552, lk80, hdX12_isCoder, (Nat.le_of_ble_eq_true rfl), (Nat.le_of_ble_eq_true rfl)⟩ lk1549 lk1551 lk40 mm_cl12 rfl dX12_stage_2 (ct_X12_isCoder_t hM hn h8 hk) rfl (hM.1 0 _ rfl) (Nat.le_of_ble_eq_true rfl) rfl rfl ?_
    refine ev_if_eqN 8 27 dX12_stage_5 (by decide) (by omega) rfl (fun hx => absurd hx ((by omega))) (fun hbr => ?_)
    refine ev_iload_n 9 dX12_stage_8 rfl rfl ?_
    refine ev_iconstN 10 0 dX12_stage_9 rfl ?_
    refine ev_iconstN 11 3 dX12_stage_10 rfl ?_
    refine ev_invS 14 (Mc := mX12_in) ⟨lk1536, lk80, hdX12_in, (Nat.le_of_ble_eq_true rfl), (Nat.le_of_ble_eq_true rfl)⟩ lk1534 lk1535 dX12_stage_11 (ct_X12_in_t (in_t (by omega) p3 (by omega))) rfl (Nat.le_of_ble_eq_true rfl) rfl rfl ?_
    refine ev_if_eqN 17 27 dX12_stage_14 (by decide) (by omega) rfl (fun hx => absurd hx ((by omega))) (fun hbr => ?_)
    refine ev_iload_n 18 dX12_stage_17 rfl rfl ?_
    refine ev_iconstN 19 0 dX12_stage_18 rfl ?_
    refine ev_bipushN 21 6 dX12_stage_19 (by decide +kernel) rfl ?_
    refine ev_invS 24 (Mc := mX12_in) ⟨lk1536, lk80, hdX12_in, (Nat.le_of_ble_eq_true rfl), (Nat.le_of_ble_eq_true rfl)⟩ lk1534 lk1535 dX12_stage_21 (ct_X12_in_t (in_t (by omega) (show kd ≤ 6 by omega) (by omega))) rfl (Nat.le_of_ble_eq_true rfl) rfl rfl ?_
    refine ev_if_neN 27 33 dX12_stage_24 (by decide) (by omega) rfl (fun hbr => ?_) (fun hx => absurd hx ((by omega)))
    refine ev_iload_n 34 dX12_stage_33 rfl rfl ?_
    refine ev_iconstN 35 4 dX12_stage_34 rfl ?_
    refine ev_icmp_leN 38 45 dX12_stage_35 (by decide) (by omega) (by omega) rfl (fun hbr => ?_) (fun hx => absurd ((by omega)) hx)
    refine ev_iconstN 46 4 dX12_stage_45 rfl ?_
    refine ev_iload_n 47 dX12_stage_46 rfl rfl ?_
    refine ev_imulN 48 dX12_stage_47 rfl ?_
    refine ev_iload_n 49 dX12_stage_48 rfl rfl ?_
    refine ev_iaddN 50 dX12_stage_49 rfl ?_
    refine ev_istore 52 (lv' := [_, _, _, some (.int _), _, _, _]) dX12_stage_50 (Nat.le_of_ble_eq_true rfl) rfl rfl ?_
    refine ev_aload_n 53 dX12_stage_52 rfl rfl ?_
    refine ev_getP 56 mm_cl12 (j := 54) (Nat.le_of_ble_eq_true rfl) dX12_stage_53 lk1339 (fun _ _ _ => rfl) (hM.1 0 _ rfl) (a := (m + 48)) (hM.2.2 47 _ _ _ rfl) rfl ?_
    refine ev_iload 58 dX12_stage_56 rfl rfl ?_
    refine ev_iald 59 _ dX12_stage_58 (hM.1 48 _ rfl) rfl (by have hNN := hM.2.1 48 _ rfl; omega) rfl ?_
    refine ev_eqI (y := (v)) (hv) ?_
    refine ev_istore 61 (lv' := [_, _, _, _, some (.int _), _, _]) dX12_stage_59 (Nat.le_of_ble_eq_true rfl) rfl rfl ?_
    refine ev_aload_n 62 dX12_stage_61 rfl rfl ?_
    refine ev_getP 65 mm_cl12 (j := 54) (Nat.le_of_ble_eq_true rfl) dX12_stage_62 lk1339 (fun _ _ _ => rfl) (hM.1 0 _ rfl) (a := (m + 48)) (hM.2.2 47 _ _ _ rfl) rfl ?_
    refine ev_iload 67 dX12_stage_65 rfl rfl ?_
    refine ev_iload_n 68 dX12_stage_67 rfl rfl ?_
    refine ev_iast 69 _ dX12_stage_68 (hM.1 48 _ rfl) rfl (by have hNN := hM.2.1 48 _ rfl; omega) rfl ?_
    refine ev_aload_n 70 dX12_stage_69 rfl rfl ?_
    refine ev_getP 73 mm_cl12 (j := 55) (Nat.le_of_ble_eq_true rfl) dX12_stage_70 lk1340 (fun _ _ _ => rfl) (hM.1 0 _ rfl) (a := (m + 49)) (hM.2.2 48 _ _ _ rfl) rfl ?_
    refine ev_iload 75 dX12_stage_73 rfl rfl ?_
    refine ev_iconstN 76 1 dX12_stage_75 rfl ?_
    refine ev_iast 77 _ dX12_stage_76 (hM.1 49 _ rfl) rfl (by have hNN := hM.2.1 49 _ rfl; omega) rfl ?_
    refine ev_aload_n 78 dX12_stage_77 rfl rfl ?_
    refine ev_getP 81 mm_cl12 (j := 56) (Nat.le_of_ble_eq_true rfl) dX12_stage_78 lk1341 (fun _ _ _ => rfl) (hM.1 0 _ rfl) (a := (m + 50)) (hM.2.2 49 _ _ _ rfl) rfl ?_
    refine ev_iload 83 dX12_stage_81 rfl rfl ?_
    refine ev_iconstN 84 0 dX12_stage_83 rfl ?_
    refine ev_iast 85 _ dX12_stage_84 (hM.1 50 _ rfl) rfl (by have hNN := hM.2.1 50 _ rfl; omega) rfl ?_
    refine ev_aload_n 86 dX12_stage_85 rfl rfl ?_
    refine ev_getP 89 mm_cl12 (j := 57) (Nat.le_of_ble_eq_true rfl) dX12_stage_86 lk1342 (fun _ _ _ => rfl) (hM.1 0 _ rfl) (a := (m + 51)) (hM.2.2 50 _ _ _ rfl) rfl ?_
    refine ev_iload 91 dX12_stage_89 rfl rfl ?_
    refine ev_iconstN 92 0 dX12_stage_91 rfl ?_
    refine ev_iast 93 _ dX12_stage_92 (hM.1 51 _ rfl) rfl (by have hNN := hM.2.1 51 _ rfl; omega) rfl ?_
    rw [va_up_n _ _ (show m + 49 ≠ m + 48 by omega), va_up_n _ _ (show m + 50 ≠ m + 49 by omega), va_up_n _ _ (show m + 50 ≠ m + 48 by omega), va_up_n _ _ (show m + 51 ≠ m + 50 by omega), va_up_n _ _ (show m + 51 ≠ m + 49 by omega), va_up_n _ _ (show m + 51 ≠ m + 48 by omega), hI0]
    refine ev_iconstN 94 0 dX12_stage_93 rfl ?_
    refine ev_istore 96 (lv' := [_, _, _, _, _, some (.int _), _]) dX12_stage_94 (Nat.le_of_ble_eq_true rfl) rfl rfl ?_
    exact e
end SG0
section SG1
variable {g : mm_G} {B B' : mm_B} {I I' : mm_TI} {J J' : mm_TJ} {P P' : mm_TP} {x m n R K k pl : Nat} {o : Nat → Nat} {fl φ : Nat → Nat → Nat} {ρ : Nat → Nat}
theorem lyC_P19 {o : Nat} {F : Nat → Option Nat} (h : lyC B P x o) : lyC B (va_up P (o + 19) F) x o := by
  have key : ∀ {c : Nat} {PL : List (Nat × Nat × Nat)}, PL.all (fun r => decide (r.1 ≠ 19)) = true → ly_P P o c PL → ly_P (va_up P (o + 19) F) o c PL := fun {c PL} ha h i k j t' e => by
    have hk := List.all_eq_true.mp ha _ (List.mem_of_getElem? e)
    have hk' : k ≠ 19 := by simpa using hk
    rw [va_up_n _ _ (by omega)]; exact h i k j t' e
  exact ⟨h.1, h.2.1, key (by decide) h.2.2.1, key (by decide) h.2.2.2⟩
/-- a new filter stands in coder k's path -/
theorem RC_stg (h : RC g B I J P x m n R K o fl φ ρ) (hk : k < n) (hp : pl < 4) (hB : Ext B B') (hz : ∀ q, mm_nx B' ≤ q → mm_T B' q = 0) (hn2 : mm_nx B + 2 ≤ mm_nx B')
    (hP : ∀ q, q < mm_nx B → q ≠ o k + 19 → P' q = P q) (hP19 : P' (o k + 19) = va_up (P (o k + 19)) pl (some (mm_nx B)))
    (hI : ∀ q, q < mm_nx B → q ≠ x → q ≠ m → q < m + 48 ∨ m + 52 < q → I' q = I q)
    (hJ : ∀ q, q < mm_nx B → J' q = J q) (hst : I' x 9 = I' m 1) (hx : ∀ j, j = 4 ∨ j = 6 ∨ j = 8 → I' x j = I x j) (hm : ∀ j, j = 0 ∨ j = 5 ∨ j = 7 ∨ j = 9 ∨ j = 36 → I' m j = I m j)
    (hs : ∀ r j, 48 ≤ r → r ≤ 51 → j ≠ 4 * k + pl → I' (m + r) j = I (m + r) j) (h52 : ∀ j, j < 160 * (4 * k + pl) ∨ 160 * (4 * k + pl) + 160 ≤ j → I' (m + 52) j = I (m + 52) j)
    (fs : ∃ (a z : Nat) (c0 g0 : Int32) (F : Nat → Int32), FSc B' I' J' P' (mm_nx B) a z c0 g0 F ∧ FSm I' m (4 * k + pl) a z c0 g0 F) : RC g B' I' J' P' x m n R K o (va_up fl k (va_up (fl k) pl (mm_nx B))) φ ρ := by
  obtain ⟨xm, mn⟩ := RC_xm h
  obtain ⟨hV, hM, -⟩ := RG_ly h
  have hv := RC_v h hk
  have mo := hv.1.2.1
  have no := hv.1.2.2.1
  have ro := fun r hr => RC_row h (r := r) hr
  have fI : ∀ j, j < 33 → I' (o k + j) = I (o k + j) := fun j hj => hI _ (by omega) (by omega) (by omega) (by omega)
  have fP : ∀ j, j < 33 → j ≠ 19 → P' (o k + j) = P (o k + j) := fun j hj h2 => hP _ (by omega) (by omega)
  have fM : ∀ j, 1 ≤ j → j < 64 → j < 48 ∨ 52 < j → I' (m + j) = I (m + j) := fun j h1 h2 h3 => hI _ (by omega) (by omega) (by omega) (by omega)
  have fX : ∀ j, 1 ≤ j → j < 22 → I' (x + j) = I (x + j) := fun j h1 h2 => hI _ (by omega) (by omega) (by omega) (by omega)
  have fnx : ∀ d i, d < n → i < 4 → fl d i + 1 < mm_nx B := fun d i hd hi => RC_nx h (q := fl d i + 1) (by have := VC_tf (RC_v h hd) hi; omega)
  have onx : ∀ d, d < n → o d + 33 ≤ mm_nx B := fun d hd => (RC_v h hd).1.2.2.1
  have hC : lyC B' P' x (o k) := by
    refine lyC_ext (P := va_up P (o k + 19) (P' (o k + 19))) (lyC_P19 hv.1.1) hB.1 (fun q q1 q2 => ?_)
    by_cases e : q = o k + 19
    · rw [e, va_up_s]
    · rw [va_up_n _ _ e]; exact hP q (by omega) e
  have f28 : I' (m + 28) = I (m + 28) := fM 28 (by omega) (by omega) (by omega)
  refine RC_go (o' := o) (φ' := φ) h k hB.1 hB.2.1 (RCg_cg h hB hz (lyV_ext hV hB (fun q q1 q2 => hP q (by omega) (by omega))) (lyM_ext hM hB (fun q q1 q2 => hP q (by omega) (by omega))) (fun q hq => hI q (by omega) (by omega) (by omega) (by omega)) hx (fun j j1 j2 _ _ _ _ _ _ => fX j j1 (by omega)) (fun j hj => hJ _ (by omega)) hm (by rw [hJ m (by omega)]) (fun j j1 j2 => fM j (by omega) (by omega) (by omega)) (fun r hr => by have := ro r hr; exact hI _ (by omega) (by omega) (by omega) (by omega)))
    hst (Nat.le_refl _) (fun _ _ => rfl) (fun r hr => by rw [fM 32 (by omega) (by omega) (by omega)]) (fun d d1 d2 => ⟨d1, rfl, va_up_n _ _ d2, rfl⟩) ?_ (fun q ho => ?_) (fun d _ _ => by rw [hP (x + 19) (by omega) (by omega)]) (fun d r j d1 d2 r1 r2 r3 j1 j2 => ?_) (fun d j _ _ _ _ => by rw [hJ (m + 23) (by omega), hJ (m + 24) (by omega)]; exact ⟨rfl, rfl⟩) (fun _ => ?_) (fun q _ hq => Or.inl ⟨hk, ?_⟩)
  · refine ⟨h.2.2.1.1, fun c i hc hi => ?_, fun c d i j hc hd hi hj hne => ?_⟩
    · by_cases e : c = k
      · subst e
        rw [va_up_s]
        by_cases ei : i = pl
        · subst ei
          rw [va_up_s]
          exact ⟨by omega, fun d hd => by have := onx d hd; omega⟩
        · rw [va_up_n _ _ ei]; exact h.2.2.1.2.1 c i hc hi
      · rw [va_up_n _ _ e]; exact h.2.2.1.2.1 c i hc hi
    · by_cases e1 : c = k ∧ i = pl
      · obtain ⟨rfl, rfl⟩ := e1
        rw [va_up_s, va_up_s]
        by_cases e2 : d = c
        · subst e2
          rw [va_up_s, va_up_n _ _ (show j ≠ i by omega)]
          have := fnx d j hd hj; omega
        · rw [va_up_n _ _ e2]
          have := fnx d j hd hj; omega
      · have l : va_up fl k (va_up (fl k) pl (mm_nx B)) c i = fl c i := by
          by_cases e : c = k
          · subst e; rw [va_up_s, va_up_n _ _ (fun z => e1 ⟨rfl, z⟩)]
          · rw [va_up_n _ _ e]
        rw [l]
        by_cases e2 : d = k ∧ j = pl
        · obtain ⟨rfl, rfl⟩ := e2
          rw [va_up_s, va_up_s]
          have := fnx c i hc hi; omega
        · have l2 : va_up fl k (va_up (fl k) pl (mm_nx B)) d j = fl d j := by
            by_cases e : d = k
            · subst e; rw [va_up_s, va_up_n _ _ (fun z => e2 ⟨rfl, z⟩)]
            · rw [va_up_n _ _ e]
          rw [l2]; exact h.2.2.1.2.2 c d i j hc hd hi hj hne
  · have h1 : ¬ (x ≤ q ∧ q < x + 22) := fun e => ho (Or.inl e)
    have h2 : ¬ (m ≤ q ∧ q < m + 64) := fun e => ho (Or.inr (Or.inl e))
    have h3 : ¬ (o k ≤ q ∧ q < o k + 33) := fun e => ho (Or.inr (Or.inr (Or.inl ⟨hk, Or.inl (Or.inl e)⟩)))
    have h6 : ¬ mm_nx B ≤ q := fun e => ho (Or.inr (Or.inr (Or.inr (Or.inr e))))
    exact ⟨hI q (by omega) (by omega) (by omega) (by omega), hJ q (by omega), hP q (by omega) (by omega)⟩
  · by_cases e : 48 ≤ r ∧ r ≤ 51
    · have sz : szM r = 4 := by
        have : r = 48 ∨ r = 49 ∨ r = 50 ∨ r = 51 := by omega
        rcases this with rfl | rfl | rfl | rfl <;> rfl
      rw [sz] at j1 j2
      exact hs r j e.1 e.2 (by omega)
    · by_cases e5 : r = 52
      · subst e5
        have j1' : 640 * d ≤ j := j1
        have j2' : j < 640 * d + 640 := j2
        exact h52 j (by omega)
      · rw [fM r (by omega) (by omega) (by omega)]
  · rw [va_up_s]
    refine ⟨⟨hC, mo, by omega, by rw [hP (x + 19) (by omega) (by omega)]; exact hv.1.2.2.2.1, fun i hi => by rw [fP 6 (by omega) (by omega)]; exact hv.1.2.2.2.2.1 i hi, fun i hi => ?_, fun i hi => ?_⟩, VCw_cg (RC_w h hk) (by rw [show I' (o k) = I (o k) from fI 0 (by omega)]) (fI 1 (by omega)) (fM 11 (by omega) (by omega) (by omega)) (fM 12 (by omega) (by omega) (by omega)), VCe_cg (RC_e h hk) (fI 4 (by omega)) (fI 5 (by omega)) (fun r hr => fM r (by omega) (by omega) (by omega)),
      VCs_cg (RC_s h hk) (by rw [fI 4 (by omega)]) (by rw [fI 4 (by omega)]) (fun j hj => fI j (by omega)) (fun r r1 r2 => fM r (by omega) (by omega) (by omega)) (fun j j1 j2 => hJ _ (by omega)) (hJ _ (by omega)) (hJ _ (by omega)), VCm_cw (RC_m1 h hk) (fun j hj => by rw [Nat.add_assoc]; exact fI _ (by omega)) (fun r r1 r2 => fM r (by omega) (by omega) (by omega)), VCd_cg (RC_d h hk) (fI 17 (by omega)) (fI 28 (by omega)) (fun r r1 r2 => fM r (by omega) (by omega) (by omega)), VCm_cw (RC_m2 h hk) (fun j hj => by rw [Nat.add_assoc]; exact fI _ (by omega)) (fun r r1 r2 => fM r (by omega) (by omega) (by omega)), fun i hi => ?_, ?_⟩
    · rw [hP19]
      by_cases e : i = pl
      · subst e; rw [va_up_s, va_up_s]
      · rw [va_up_n _ _ e, va_up_n _ _ e]; exact hv.1.2.2.2.2.2.1 i hi
    · obtain ⟨t1, t2⟩ := hv.1.2.2.2.2.2.2 i hi
      rw [(hB.1 _ (by omega)).1, (hB.1 _ (by omega)).1]; exact ⟨t1, t2⟩
    · by_cases e : i = pl
      · subst e; rw [va_up_s]; exact fs
      · rw [va_up_n _ _ e]
        obtain ⟨a, z, c0, g0, K, f1, f2⟩ := (RC_f h hk) i hi
        have l2 := fnx k i hk hi
        have fm := (h.2.2.1.2.1 k i hk hi).1
        have e1 : I' (fl k i) = I (fl k i) := hI _ (by omega) (by omega) (by omega) (by omega)
        have e2 : I' (fl k i + 1) = I (fl k i + 1) := hI _ (by omega) (by omega) (by omega) (by omega)
        obtain ⟨t1, t2⟩ := VC_tf hv hi
        have e3 : P' (fl k i) = P (fl k i) := hP _ (by omega) (fun e => by
          have : mm_T B (o k + 19) = 208 := hv.1.1.1 19 _ rfl
          rw [e] at t1; omega)
        have e4 := hJ (fl k i) (by omega)
        refine ⟨a, z, c0, g0, K, ?_, ?_⟩
        · obtain ⟨s1, s2, s3, s4, s5, s6, s7, s8, s9⟩ := f1
          exact ⟨by rw [(hB.1 _ (by omega)).1]; exact s1, by rw [e3]; exact s2, by rw [(hB.1 _ (by omega)).1]; exact s3, s4, by rw [e1]; exact s5, fun e => ⟨by rw [(hB.1 _ (by omega)).2]; exact (s6 e).1, by rw [e2]; exact (s6 e).2⟩, by rw [e4]; exact s7, by rw [e1]; exact s8, by rw [e1]; exact s9⟩
        · obtain ⟨s1, s2, s3, s4, s5, s6⟩ := f2
          exact ⟨s1, by rw [hs 48 _ (by omega) (by omega) (by omega)]; exact s2, fun e j hj => by rw [h52 _ (by omega)]; exact s3 e j hj, fun e => by rw [hs 49 _ (by omega) (by omega) (by omega)]; exact s4 e, fun e => by rw [hs 50 _ (by omega) (by omega) (by omega)]; exact s5 e, fun e => by rw [hs 51 _ (by omega) (by omega) (by omega)]; exact s6 e⟩
    · obtain ⟨L, l1, l2, l3, l4, l5⟩ := RC_l h hk
      refine ⟨L, l1, by rw [fI 2 (by omega)]; exact l2, by rw [f28]; exact l3, fun i hi => ?_, l5⟩
      obtain ⟨a1, a2, a3⟩ := l4 i hi
      have an := a3.2.1
      refine ⟨by rw [fP 3 (by omega) (by omega)]; exact a1, a2, VFr_cg h a3 hB (Nat.le_refl _) (fun _ _ => rfl) (fun r hr => by rw [fM 32 (by omega) (by omega) (by omega)]) (by rw [hI _ (by omega) (by omega) (by omega) (by omega)]) (by rw [fM 29 (by omega) (by omega) (by omega)]) (by rw [fM 30 (by omega) (by omega) (by omega)]) (hP _ (by omega) (by omega))⟩
  · obtain ⟨L2, i, c1, c2⟩ := hq
    exact ⟨L2, i, by rw [← f28]; exact c1, c2⟩
end SG1
section SG2
variable {g : mm_G}
theorem jo_stage {c p d : Int32} : JO g mX11_stage mX12_stage [.int c, .int p, .int d] := by
  refine jo_m2 fun K x m B I J P n R o fl φ ρ hK hR h => ?_
  obtain ⟨hV, hM, -⟩ := RG_ly h
  obtain ⟨h8, hx4, hm0⟩ := RG_n h
  obtain ⟨xm, mn⟩ := RC_xm h
  rcases cd_cases h8 c with ⟨k, hk, rfl⟩ | hc
  · rcases in_cases (lo := 0) (hi := 3) (by omega) (by omega) p with ⟨pl, -, p3, rfl⟩ | hp
    · rcases in_cases (lo := 0) (hi := 6) (by omega) (by omega) d with ⟨kd, -, d6, rfl⟩ | hd
      · by_cases d4 : 4 < kd
        · exact Or.inl ⟨_, _, cl_stage_w (CA_of h hk) p3 d4 d6, fun I1 h1 => ml_stage_w (MA_of h hk (h1 _ (by omega))) p3 d4 d6⟩
        · right
          have hv := RC_v h hk
          have mo := hv.1.2.1
          have no := hv.1.2.2.1
          obtain ⟨a, z, c0, g0, F, f1, f2⟩ := (RC_f h hk) pl (by omega)
          have fm := (h.2.2.1.2.1 k pl hk (by omega)).1
          obtain ⟨I1, J1, P1, gx, g1, i0, i3, i4, i5, j2, j1, q1, q19, qP, cl⟩ := cx_stage (g := g) (J := J) (N := if kd = 3 then 160 else 0) (CA_of h hk) p3 (show kd ≤ 4 by omega) rfl no (hv.1.2.2.2.2.2.1 pl (by omega)) f1.1 (by omega) f1.2.2.2.2.1
          generalize hN : (if kd = 3 then 160 else 0) = N at cl
          have nx1 : mm_nx (mm_al B 103 0 5) = mm_nx B + 1 := rfl
          have nx2 : mm_nx (mm_al (mm_al B 103 0 5) 200 N N) = mm_nx B + 2 := rfl
          have hX : Ext B (mm_al (mm_al B 103 0 5) 200 N N) := Ext_tr (Ext_al h.1.1) (Ext_al (al_z h.1.1))
          have hM1 : lyM (mm_al (mm_al B 103 0 5) 200 N N) P1 m := lyM_ext hM hX (fun q q1 q2 => qP q (by omega) (by omega))
          have ma : MA (mm_al (mm_al B 103 0 5) 200 N N) I1 P1 m n k := ⟨hM1, by rw [g1 m (by omega) (by omega)]; exact hm0, h8, hk⟩
          obtain ⟨I2, h48, h49, h50, h51, h52, fm', g2, ml⟩ := cx_mstage (g := g) (J := J1) (v := nI a) ma p3 (show kd ≤ 4 by omega) (by rw [g1 _ (by omega) (by omega)]; exact f2.2.1)
          rw [g1 _ (by omega) (by omega)] at h48 h49 h50 h51 h52 fm'
          have fo : ∀ q, q < mm_nx B → q ≠ x → q ≠ m → q < m + 48 ∨ m + 52 < q → I2 q = I q := fun q a b c d => by rw [g2 q c d, g1 q a b]
          have fx : I2 x = va_up (I x) 9 (nI 0) := by rw [g2 x (by omega) (by omega), gx]
          have rc := RC_stg h hk (show pl < 4 by omega) hX (al_z (al_z h.1.1)) (by rw [nx2]; omega) qP q19 fo j1 (by rw [fx, fm', va_up_s, va_up_s]) (fun j hj => by rw [fx, va_up_n _ _ (by omega)]) (fun j hj => by rw [fm', va_up_n _ _ (by omega)]) (fun r j r1 r2 hj => by
              have : r = 48 ∨ r = 49 ∨ r = 50 ∨ r = 51 := by omega
              rcases this with rfl | rfl | rfl | rfl
              · rw [h48, va_up_n _ _ hj]
              · rw [h49, va_up_n _ _ hj]
              · rw [h50, va_up_n _ _ hj]
              · rw [h51, va_up_n _ _ hj]) (fun j hj => by rw [h52, sgp_out (by omega)]) ⟨kd, 1, 0, 0, fun _ => 0, ⟨(al_T (by rw [nx1]; omega)).trans al_Ts, q1, al_Ts, by omega, by rw [g2 _ (by omega) (by omega)]; exact i0, fun e => ⟨by rw [show mm_N (mm_al (mm_al B 103 0 5) 200 N N) (mm_nx B + 1) = N from al_Ns, ← hN, if_pos e], fun j _ => by rw [g2 _ (by omega) (by omega)]; exact i5 j⟩, fun _ => ⟨by omega, j2⟩, fun _ => by rw [g2 _ (by omega) (by omega)]; exact i3, fun _ => by rw [g2 _ (by omega) (by omega)]; exact i4⟩, ⟨by omega, by rw [h48, va_up_s], fun _ j hj => by rw [h52, sgp_in hj]; rfl, fun _ => ⟨by omega, by rw [h49, va_up_s]⟩, fun _ => by rw [h50, va_up_s]; rfl, fun _ => by rw [h51, va_up_s]; rfl⟩⟩
          have nN : N ≤ 160 := by rw [← hN]; split <;> omega
          exact ⟨_, _, I1, J1, P1, I2, J1, P1, n, R, o, _, φ, ρ, cl, ml, by omega, RC_mono rc (by omega), hX, by rw [nx2]; omega, by show mm_sl B + 5 + N ≤ _; omega, fun q hq => fo q (by omega) (by omega) (by omega) (by omega)⟩
      · exact Or.inl ⟨_, _, cl_stage_b2 (CA_of h hk) p3 hd, fun I1 h1 => ml_stage_b2 (MA_of h hk (h1 _ (by omega))) p3 hd⟩
    · exact Or.inl ⟨_, _, cl_stage_b (CA_of h hk) hp, fun I1 h1 => ml_stage_b (MA_of h hk (h1 _ (by omega))) hp⟩
  · exact Or.inl ⟨_, _, cl_stage_f hV hx4 hc, fun I1 h1 => ml_stage_f hM (by rw [h1 _ (by omega)]; exact hm0) hc⟩
end SG2
