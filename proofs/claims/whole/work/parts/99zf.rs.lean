/-! RESAMPLE -/
def rsv (up dn ot : Nat) (A : Nat → Int32) (i : Nat) : Int32 := (A (i * dn / up) * nI (up - i * dn % up) + A (min (i * dn / up + 1) (ot - 1)) * nI (i * dn % up)) / nI up
theorem rs_k {up dn ot i : Nat} (h1 : 1 ≤ dn) (h : i < ot * up / dn) : i * dn / up < ot := by
  have a : (i + 1) * dn ≤ ot * up := Nat.le_trans (Nat.mul_le_mul_right dn (show i + 1 ≤ ot * up / dn by omega)) (Nat.div_mul_le_self _ _)
  rw [Nat.add_mul, Nat.one_mul] at a
  apply Nat.div_lt_of_lt_mul
  rw [Nat.mul_comm up ot]; omega
theorem rs_n {up dn ot : Nat} (h0 : ot ≤ 321) (h1 : up ≤ 4) (h2 : 1 ≤ dn) : ot * up / dn ≤ 1284 :=
  Nat.le_trans (Nat.div_le_self _ _) (Nat.mul_le_mul h0 h1)
theorem rs_m {ot up : Nat} (h0 : ot ≤ 321) (h1 : up ≤ 4) : ot * up ≤ 1284 := Nat.mul_le_mul h0 h1
section RS0
variable {g : mm_G} {B : mm_B} {I : mm_TI} {J : mm_TJ} {P : mm_TP} {x m o n k : Nat}
theorem cl_resample_f {c u d : Int32} (hV : lyV B P x) (hx : I x 4 = nI n) (hc : ¬ (0 ≤ c ∧ c < nI n)) : Ct g mX11_resample [.ref x, .int c, .int u, .int d] B I J P (some (.int (-1)), B, vst I x (-1), J, P) := by
  refine ct_of (lv := [some (.ref x), some (.int (c)), some (.int (u)), some (.int (d)), none, none, none, none, none, none]) (by decide +kernel) (Nat.le_of_ble_eq_true rfl) rfl ?_
  refine ev_aload_n 1 dX11_resample_0 rfl rfl ?_
  refine ev_iconstN 2 0 dX11_resample_1 rfl ?_
  refine ev_putI 5 mm_cl11 (j := 9) (Nat.le_of_ble_eq_true rfl) dX11_resample_2 lk270 rfl (fun _ _ _ => rfl) rfl rfl (hV.1 0 _ rfl) rfl ?_
  refine ev_aload_n 6 dX11_resample_5 rfl rfl ?_
  refine ev_iload_n 7 dX11_resample_6 rfl rfl ?_
  refine ev_invV 10 (Mc := mX11_coderAt) ⟨lk570, lk75, hdX11_coderAt, (Nat.le_of_ble_eq_true rfl), (Nat.le_of_ble_eq_true rfl)⟩ lk567 lk569 lk1 mm_cl11 rfl dX11_resample_7 (ca_f hV hx hc) rfl (hV.1 0 _ rfl) (Nat.le_of_ble_eq_true rfl) rfl rfl ?_
  refine ev_astoreN 12 (lv' := [_, _, _, some (.int _), _, _, _, _, _, _]) dX11_resample_10 (Nat.le_of_ble_eq_true rfl) rfl rfl ?_
  refine ev_aloadN 14 dX11_resample_12 rfl rfl ?_
  refine ev_ifnull_n 38 dX11_resample_14 (by decide) ?_
  refine ev_aload_n 39 dX11_resample_38 rfl rfl ?_
  refine ev_iconst 40 (v := -1) dX11_resample_39 (by decide +kernel) rfl ?_
  refine ev_invV 43 (Mc := mX11_refuse) ⟨lk303, lk75, hdX11_refuse, (Nat.le_of_ble_eq_true rfl), (Nat.le_of_ble_eq_true rfl)⟩ lk300 lk302 lk0 mm_cl11 rfl dX11_resample_40 (ct_refuse hV) rfl (hV.1 0 _ rfl) (Nat.le_of_ble_eq_true rfl) rfl rfl ?_
  exact ev_iret dX11_resample_43 rfl (rfl)
theorem cl_resample_b {u d : Int32} (h : CA B I P x o n k) (hu : ¬ (nI 1 ≤ u ∧ u ≤ nI 4)) : Ct g mX11_resample [.ref x, .int (nI k), .int u, .int d] B I J P (some (.int (-1)), B, vst I x (-1), J, P) := by
  have ca := ca_t (g := g) (J := J) h
  obtain ⟨hV, hC, hxo, hx, h8, hk, hP⟩ := h
  refine ct_of (lv := [some (.ref x), some (.int (nI (k))), some (.int (u)), some (.int (d)), none, none, none, none, none, none]) (by decide +kernel) (Nat.le_of_ble_eq_true rfl) rfl ?_
  refine ev_aload_n 1 dX11_resample_0 rfl rfl ?_
  refine ev_iconstN 2 0 dX11_resample_1 rfl ?_
  refine ev_putI 5 mm_cl11 (j := 9) (Nat.le_of_ble_eq_true rfl) dX11_resample_2 lk270 rfl (fun _ _ _ => rfl) rfl rfl (hV.1 0 _ rfl) rfl ?_
  refine ev_aload_n 6 dX11_resample_5 rfl rfl ?_
  refine ev_iload_n 7 dX11_resample_6 rfl rfl ?_
  refine ev_invV 10 (Mc := mX11_coderAt) ⟨lk570, lk75, hdX11_coderAt, (Nat.le_of_ble_eq_true rfl), (Nat.le_of_ble_eq_true rfl)⟩ lk567 lk569 lk1 mm_cl11 rfl dX11_resample_7 (ca) rfl (hV.1 0 _ rfl) (Nat.le_of_ble_eq_true rfl) rfl rfl ?_
  refine ev_astore 12 (lv' := [_, _, _, some (.int _), _, _, _, _, _, _]) dX11_resample_10 (Nat.le_of_ble_eq_true rfl) rfl rfl ?_
  refine ev_aload 14 dX11_resample_12 rfl rfl ?_
  refine ev_ifnull_r 17 dX11_resample_14 rfl ?_
  refine ev_iload_n 18 dX11_resample_17 rfl rfl ?_
  refine ev_iconstN 19 1 dX11_resample_18 rfl ?_
  refine ev_icmp_lt 22 38 dX11_resample_19 (by decide) rfl (fun h1 => ?_) (fun h1 => ?_)
  · refine ev_aload_n 39 dX11_resample_38 rfl rfl ?_
    refine ev_iconst 40 (v := -1) dX11_resample_39 (by decide +kernel) rfl ?_
    refine ev_invV 43 (Mc := mX11_refuse) ⟨lk303, lk75, hdX11_refuse, (Nat.le_of_ble_eq_true rfl), (Nat.le_of_ble_eq_true rfl)⟩ lk300 lk302 lk0 mm_cl11 rfl dX11_resample_40 (ct_refuse hV) rfl (hV.1 0 _ rfl) (Nat.le_of_ble_eq_true rfl) rfl rfl ?_
    exact ev_iret dX11_resample_43 rfl (rfl)
  · refine ev_iload_n 23 dX11_resample_22 rfl rfl ?_
    refine ev_iconstN 24 4 dX11_resample_23 rfl ?_
    refine ev_icmp_gt 27 38 dX11_resample_24 (by decide) rfl (fun hbr => ?_) (fun hx => absurd ((Int32.not_le.mp (fun h2 => hu ⟨Int32.not_lt.mp h1, h2⟩))) hx)
    refine ev_aload_n 39 dX11_resample_38 rfl rfl ?_
    refine ev_iconst 40 (v := -1) dX11_resample_39 (by decide +kernel) rfl ?_
    refine ev_invV 43 (Mc := mX11_refuse) ⟨lk303, lk75, hdX11_refuse, (Nat.le_of_ble_eq_true rfl), (Nat.le_of_ble_eq_true rfl)⟩ lk300 lk302 lk0 mm_cl11 rfl dX11_resample_40 (ct_refuse hV) rfl (hV.1 0 _ rfl) (Nat.le_of_ble_eq_true rfl) rfl rfl ?_
    exact ev_iret dX11_resample_43 rfl (rfl)
theorem cl_resample_b2 {up : Nat} {d : Int32} (h : CA B I P x o n k) (u1 : 1 ≤ up) (u2 : up ≤ 4) (hd : ¬ (nI 1 ≤ d ∧ d ≤ nI 8)) : Ct g mX11_resample [.ref x, .int (nI k), .int (nI up), .int d] B I J P (some (.int (-1)), B, vst I x (-1), J, P) := by
  have ca := ca_t (g := g) (J := J) h
  obtain ⟨hV, hC, hxo, hx, h8, hk, hP⟩ := h
  refine ct_of (lv := [some (.ref x), some (.int (nI (k))), some (.int (nI (up))), some (.int (d)), none, none, none, none, none, none]) (by decide +kernel) (Nat.le_of_ble_eq_true rfl) rfl ?_
  refine ev_aload_n 1 dX11_resample_0 rfl rfl ?_
  refine ev_iconstN 2 0 dX11_resample_1 rfl ?_
  refine ev_putI 5 mm_cl11 (j := 9) (Nat.le_of_ble_eq_true rfl) dX11_resample_2 lk270 rfl (fun _ _ _ => rfl) rfl rfl (hV.1 0 _ rfl) rfl ?_
  refine ev_aload_n 6 dX11_resample_5 rfl rfl ?_
  refine ev_iload_n 7 dX11_resample_6 rfl rfl ?_
  refine ev_invV 10 (Mc := mX11_coderAt) ⟨lk570, lk75, hdX11_coderAt, (Nat.le_of_ble_eq_true rfl), (Nat.le_of_ble_eq_true rfl)⟩ lk567 lk569 lk1 mm_cl11 rfl dX11_resample_7 (ca) rfl (hV.1 0 _ rfl) (Nat.le_of_ble_eq_true rfl) rfl rfl ?_
  refine ev_astore 12 (lv' := [_, _, _, some (.int _), _, _, _, _, _, _]) dX11_resample_10 (Nat.le_of_ble_eq_true rfl) rfl rfl ?_
  refine ev_aload 14 dX11_resample_12 rfl rfl ?_
  refine ev_ifnull_r 17 dX11_resample_14 rfl ?_
  refine ev_iload_n 18 dX11_resample_17 rfl rfl ?_
  refine ev_iconstN 19 1 dX11_resample_18 rfl ?_
  refine ev_icmp_ltN 22 38 dX11_resample_19 (by decide) (by omega) (by omega) rfl (fun hx => absurd hx ((by omega))) (fun hbr => ?_)
  refine ev_iload_n 23 dX11_resample_22 rfl rfl ?_
  refine ev_iconstN 24 4 dX11_resample_23 rfl ?_
  refine ev_icmp_gtN 27 38 dX11_resample_24 (by decide) (by omega) (by omega) rfl (fun hx => absurd hx ((by omega))) (fun hbr => ?_)
  refine ev_iload_n 28 dX11_resample_27 rfl rfl ?_
  refine ev_iconstN 29 1 dX11_resample_28 rfl ?_
  refine ev_icmp_lt 32 38 dX11_resample_29 (by decide) rfl (fun h1 => ?_) (fun h1 => ?_)
  · refine ev_aload_n 39 dX11_resample_38 rfl rfl ?_
    refine ev_iconst 40 (v := -1) dX11_resample_39 (by decide +kernel) rfl ?_
    refine ev_invV 43 (Mc := mX11_refuse) ⟨lk303, lk75, hdX11_refuse, (Nat.le_of_ble_eq_true rfl), (Nat.le_of_ble_eq_true rfl)⟩ lk300 lk302 lk0 mm_cl11 rfl dX11_resample_40 (ct_refuse hV) rfl (hV.1 0 _ rfl) (Nat.le_of_ble_eq_true rfl) rfl rfl ?_
    exact ev_iret dX11_resample_43 rfl (rfl)
  · refine ev_iload_n 33 dX11_resample_32 rfl rfl ?_
    refine ev_bipushN 35 8 dX11_resample_33 (by decide +kernel) rfl ?_
    refine ev_icmp_le 38 44 dX11_resample_35 (by decide) rfl (fun hx => absurd hx ((fun h2 => hd ⟨Int32.not_lt.mp h1, h2⟩))) (fun hbr => ?_)
    refine ev_aload_n 39 dX11_resample_38 rfl rfl ?_
    refine ev_iconst 40 (v := -1) dX11_resample_39 (by decide +kernel) rfl ?_
    refine ev_invV 43 (Mc := mX11_refuse) ⟨lk303, lk75, hdX11_refuse, (Nat.le_of_ble_eq_true rfl), (Nat.le_of_ble_eq_true rfl)⟩ lk300 lk302 lk0 mm_cl11 rfl dX11_resample_40 (ct_refuse hV) rfl (hV.1 0 _ rfl) (Nat.le_of_ble_eq_true rfl) rfl rfl ?_
    exact ev_iret dX11_resample_43 rfl (rfl)
theorem cl_resample_s {up dn : Nat} (h : CA B I P x o n k) (u1 : 1 ≤ up) (u2 : up ≤ 4) (d1 : 1 ≤ dn) (d2 : dn ≤ 8) (hd : I (o + 17) 15 = nI 0) : Ct g mX11_resample [.ref x, .int (nI k), .int (nI up), .int (nI dn)] B I J P (some (.int (-2)), B, vst I x (-2), J, P) := by
  have ca := ca_t (g := g) (J := J) h
  obtain ⟨hV, hC, hxo, hx, h8, hk, hP⟩ := h
  refine ct_of (lv := [some (.ref x), some (.int (nI (k))), some (.int (nI (up))), some (.int (nI (dn))), none, none, none, none, none, none]) (by decide +kernel) (Nat.le_of_ble_eq_true rfl) rfl ?_
  refine ev_aload_n 1 dX11_resample_0 rfl rfl ?_
  refine ev_iconstN 2 0 dX11_resample_1 rfl ?_
  refine ev_putI 5 mm_cl11 (j := 9) (Nat.le_of_ble_eq_true rfl) dX11_resample_2 lk270 rfl (fun _ _ _ => rfl) rfl rfl (hV.1 0 _ rfl) rfl ?_
  refine ev_aload_n 6 dX11_resample_5 rfl rfl ?_
  refine ev_iload_n 7 dX11_resample_6 rfl rfl ?_
  refine ev_invV 10 (Mc := mX11_coderAt) ⟨lk570, lk75, hdX11_coderAt, (Nat.le_of_ble_eq_true rfl), (Nat.le_of_ble_eq_true rfl)⟩ lk567 lk569 lk1 mm_cl11 rfl dX11_resample_7 (ca) rfl (hV.1 0 _ rfl) (Nat.le_of_ble_eq_true rfl) rfl rfl ?_
  refine ev_astore 12 (lv' := [_, _, _, some (.int _), _, _, _, _, _, _]) dX11_resample_10 (Nat.le_of_ble_eq_true rfl) rfl rfl ?_
  refine ev_aload 14 dX11_resample_12 rfl rfl ?_
  refine ev_ifnull_r 17 dX11_resample_14 rfl ?_
  refine ev_iload_n 18 dX11_resample_17 rfl rfl ?_
  refine ev_iconstN 19 1 dX11_resample_18 rfl ?_
  refine ev_icmp_ltN 22 38 dX11_resample_19 (by decide) (by omega) (by omega) rfl (fun hx => absurd hx ((by omega))) (fun hbr => ?_)
  refine ev_iload_n 23 dX11_resample_22 rfl rfl ?_
  refine ev_iconstN 24 4 dX11_resample_23 rfl ?_
  refine ev_icmp_gtN 27 38 dX11_resample_24 (by decide) (by omega) (by omega) rfl (fun hx => absurd hx ((by omega))) (fun hbr => ?_)
  refine ev_iload_n 28 dX11_resample_27 rfl rfl ?_
  refine ev_iconstN 29 1 dX11_resample_28 rfl ?_
  refine ev_icmp_ltN 32 38 dX11_resample_29 (by decide) (by omega) (by omega) rfl (fun hx => absurd hx ((by omega))) (fun hbr => ?_)
  refine ev_iload_n 33 dX11_resample_32 rfl rfl ?_
  refine ev_bipushN 35 8 dX11_resample_33 (by decide +kernel) rfl ?_
  refine ev_icmp_leN 38 44 dX11_resample_35 (by decide) (by omega) (by omega) rfl (fun hbr => ?_) (fun hx => absurd ((by omega)) hx)
  refine ev_aload 46 dX11_resample_44 rfl rfl ?_
  refine ev_getP 49 mm_cl0 (j := 4) (Nat.le_of_ble_eq_true rfl) dX11_resample_46 lk551 (fun _ _ _ => rfl) (hC.1 0 _ rfl) (a := (o + 17)) (hC.2.2.1 3 _ _ _ rfl) rfl ?_
  refine ev_getI 52 mm_cl1 (j := 15) (Nat.le_of_ble_eq_true rfl) dX11_resample_49 lk497 (fun _ _ _ => rfl) (hC.1 17 _ rfl) rfl ?_
  refine ev_eqI (y := nI (0)) ((vzk hd (by omega))) ?_
  refine ev_if_neN 55 62 dX11_resample_52 (by decide) (by omega) rfl (fun hx => absurd ((by omega)) hx) (fun hbr => ?_)
  refine ev_aload_n 56 dX11_resample_55 rfl rfl ?_
  refine ev_bipush 58 (v := -2) dX11_resample_56 (by decide +kernel) rfl ?_
  refine ev_invV 61 (Mc := mX11_refuse) ⟨lk303, lk75, hdX11_refuse, (Nat.le_of_ble_eq_true rfl), (Nat.le_of_ble_eq_true rfl)⟩ lk300 lk302 lk0 mm_cl11 rfl dX11_resample_58 (ct_refuse hV) rfl (hV.1 0 _ rfl) (Nat.le_of_ble_eq_true rfl) rfl rfl ?_
  exact ev_iret dX11_resample_61 rfl (rfl)
theorem lx_rs {up dn ot N : Nat} {A : Nat → Int32} {I0 : mm_TI} (hV : lyV B P x) (hC : lyC B P x o) (hxo : x + 22 ≤ o) (u1 : 1 ≤ up) (u2 : up ≤ 4) (d1 : 1 ≤ dn) (d2 : dn ≤ 8) (hot : ot ≤ 321) (hN : N = ot * up / dn) (h8 : I0 x 8 = nI N) (hA : ∀ i, i < ot → I0 (o + 28) i = A i) : ∀ (d i : Nat), i + d = N →
    Ev g mX11_resample 103 [some (.ref x), some (.int (nI k)), some (.int (nI up)), some (.int (nI dn)), some (.ref o), some (.ref (o + 28)), some (.int ((nI ot - nI 1))), some (.int (nI i)), none, none] [] B (va_up I0 (x + 21) (sgp (I0 (x + 21)) 0 i (rsv up dn ot A))) J P (some (.int (nI N)), B, va_up I0 (x + 21) (sgp (I0 (x + 21)) 0 N (rsv up dn ot A)), J, P) := by
  have N1 : N ≤ 1284 := by rw [hN]; exact rs_n hot u2 d1
  have hu0 : nI up ≠ 0 := nI_ne0 (by omega) (by omega)
  intro d
  induction d with
  | zero =>
    intro i hi
    obtain rfl : i = N := by omega
    refine ev_iload 105 dX11_resample_103 rfl rfl ?_
    refine ev_aload_n 106 dX11_resample_105 rfl rfl ?_
    refine ev_getI 109 mm_cl11 (j := 8) (Nat.le_of_ble_eq_true rfl) dX11_resample_106 lk269 (fun _ _ _ => rfl) (hV.1 0 _ rfl) rfl ?_
    refine ev_eqI (y := nI (i)) ((by rw [va_up_n _ _ (by omega)]; exact h8)) ?_
    refine ev_icmp_geN 112 174 dX11_resample_109 (by decide) (by omega) (by omega) rfl (fun hbr => ?_) (fun hx => absurd ((by omega)) hx)
    refine ev_aload_n 175 dX11_resample_174 rfl rfl ?_
    refine ev_getI 178 mm_cl11 (j := 8) (Nat.le_of_ble_eq_true rfl) dX11_resample_175 lk269 (fun _ _ _ => rfl) (hV.1 0 _ rfl) rfl ?_
    refine ev_eqI (y := nI (i)) ((by rw [va_up_n _ _ (by omega)]; exact h8)) ?_
    exact ev_iret dX11_resample_178 rfl (rfl)
  | succ d ih =>
    intro i hi
    have e := ih (i + 1) (by omega)
    have hk : i * dn / up < ot := rs_k d1 (by omega)
    have ot1 : 0 < ot := Nat.lt_of_le_of_lt (Nat.zero_le _) hk
    have hid : i * dn < 2 ^ 31 := Nat.lt_of_le_of_lt (Nat.mul_le_mul (show i ≤ 1284 by omega) d2) (by decide)
    have hf : i * dn % up < up := Nat.mod_lt _ (by omega)
    have pk : nI ot - nI 1 = nI (ot - 1) := pk_sub (by omega)
    have hm := Nat.min_le_right (i * dn / up + 1) (ot - 1)
    rw [pk] at e ⊢
    refine ev_iload 105 dX11_resample_103 rfl rfl ?_
    refine ev_aload_n 106 dX11_resample_105 rfl rfl ?_
    refine ev_getI 109 mm_cl11 (j := 8) (Nat.le_of_ble_eq_true rfl) dX11_resample_106 lk269 (fun _ _ _ => rfl) (hV.1 0 _ rfl) rfl ?_
    refine ev_eqI (y := nI (N)) ((by rw [va_up_n _ _ (by omega)]; exact h8)) ?_
    refine ev_icmp_geN 112 174 dX11_resample_109 (by decide) (by omega) (by omega) rfl (fun hx => absurd hx ((by omega))) (fun hbr => ?_)
    refine ev_iload 114 dX11_resample_112 rfl rfl ?_
    refine ev_iload_n 115 dX11_resample_114 rfl rfl ?_
    refine ev_imulN 116 dX11_resample_115 rfl ?_
    refine ev_iload_n 117 dX11_resample_116 rfl rfl ?_
    refine ev_idivN 118 dX11_resample_117 (by omega) (by omega) (by omega) rfl ?_
    refine ev_istore 120 (lv' := [_, _, _, _, _, _, _, some (.int _), _, _]) dX11_resample_118 (Nat.le_of_ble_eq_true rfl) rfl rfl ?_
    refine ev_iload 122 dX11_resample_120 rfl rfl ?_
    refine ev_iload_n 123 dX11_resample_122 rfl rfl ?_
    refine ev_imulN 124 dX11_resample_123 rfl ?_
    refine ev_iload_n 125 dX11_resample_124 rfl rfl ?_
    refine ev_iremN 126 dX11_resample_125 (by omega) (by omega) (by omega) rfl ?_
    refine ev_istore 128 (lv' := [_, _, _, _, _, _, _, _, some (.int _), _]) dX11_resample_126 (Nat.le_of_ble_eq_true rfl) rfl rfl ?_
    refine ev_aload_n 129 dX11_resample_128 rfl rfl ?_
    refine ev_getP 132 mm_cl11 (j := 7) (Nat.le_of_ble_eq_true rfl) dX11_resample_129 lk268 (fun _ _ _ => rfl) (hV.1 0 _ rfl) (a := (x + 21)) (hV.2.2 5 _ _ _ rfl) rfl ?_
    refine ev_iload 134 dX11_resample_132 rfl rfl ?_
    refine ev_aload 136 dX11_resample_134 rfl rfl ?_
    refine ev_iload 138 dX11_resample_136 rfl rfl ?_
    refine ev_iload 140 dX11_resample_138 rfl rfl ?_
    refine ev_min 143 dX11_resample_140 lk1219 lk759 lk87 lk760 (Nat.le_of_ble_eq_true rfl) (Nat.le_of_ble_eq_true rfl) (Nat.le_of_ble_eq_true rfl) rfl ?_
    refine ev_eqI (y := nI ((i * dn / up))) ((by rw [nI_min (by omega) (by omega), Nat.min_eq_left (by omega)])) ?_
    refine ev_iald 144 _ dX11_resample_143 (hC.1 28 _ rfl) rfl (by have hNN := hC.2.1 28 _ rfl; omega) rfl ?_
    refine ev_eqI (y := ((A (i * dn / up)))) ((by rw [va_up_n _ _ (by omega)]; exact hA _ (by omega))) ?_
    refine ev_iload_n 145 dX11_resample_144 rfl rfl ?_
    refine ev_iload 147 dX11_resample_145 rfl rfl ?_
    refine ev_isubN 148 dX11_resample_147 (by omega) rfl ?_
    refine ev_imul 149 dX11_resample_148 rfl ?_
    refine ev_aload 151 dX11_resample_149 rfl rfl ?_
    refine ev_iload 153 dX11_resample_151 rfl rfl ?_
    refine ev_iconstN 154 1 dX11_resample_153 rfl ?_
    refine ev_iaddN 155 dX11_resample_154 rfl ?_
    refine ev_iload 157 dX11_resample_155 rfl rfl ?_
    refine ev_min 160 dX11_resample_157 lk1219 lk759 lk87 lk760 (Nat.le_of_ble_eq_true rfl) (Nat.le_of_ble_eq_true rfl) (Nat.le_of_ble_eq_true rfl) rfl ?_
    refine ev_eqI (y := nI ((min (i * dn / up + 1) (ot - 1)))) ((by rw [nI_min (by omega) (by omega)])) ?_
    refine ev_iald 161 _ dX11_resample_160 (hC.1 28 _ rfl) rfl (by have hNN := hC.2.1 28 _ rfl; omega) rfl ?_
    refine ev_eqI (y := ((A (min (i * dn / up + 1) (ot - 1))))) ((by rw [va_up_n _ _ (by omega)]; exact hA _ (by omega))) ?_
    refine ev_iload 163 dX11_resample_161 rfl rfl ?_
    refine ev_imul 164 dX11_resample_163 rfl ?_
    refine ev_iadd 165 dX11_resample_164 rfl ?_
    refine ev_iload_n 166 dX11_resample_165 rfl rfl ?_
    refine ev_idiv 167 dX11_resample_166 (by assumption) rfl ?_
    refine ev_iast 168 _ dX11_resample_167 (hV.1 21 _ rfl) rfl (by have hNN := hV.2.1 21 _ rfl; omega) rfl ?_
    rw [va_up_s, bx_uu, show va_up (sgp (I0 (x + 21)) 0 i (rsv up dn ot A)) i ((A (i * dn / up) * nI (up - i * dn % up) + A (min (i * dn / up + 1) (ot - 1)) * nI (i * dn % up)) / nI up) = sgp (I0 (x + 21)) 0 (i + 1) (rsv up dn ot A) by have := sgp_grow (f := I0 (x + 21)) (off := 0) (n := i) (v := rsv up dn ot A) rfl; rw [Nat.zero_add] at this; exact this]
    refine ev_iincN 171 (lv' := [_, _, _, _, _, _, some (.int _), _, _, _]) 1 dX11_resample_168 rfl (Nat.le_of_ble_eq_true rfl) rfl rfl ?_
    refine ev_goto 103 dX11_resample_171 (by decide) ?_
    refine ev_le (mle_s (mle_s (mle_s (mle_s (mle_s (mle_s (mle_s (mle_s (mle_n (mle_n (mle_0))))))))))) ?_
    exact e
theorem cl_resample_t {up dn da ot N : Nat} {A : Nat → Int32} (h : CA B I P x o n k) (u1 : 1 ≤ up) (u2 : up ≤ 4) (d1 : 1 ≤ dn) (d2 : dn ≤ 8) (hd : I (o + 17) 15 = nI da) (a0 : 0 < da) (a1 : da < 2 ^ 31) (o1 : I (o + 17) 6 = nI ot) (hot : ot ≤ 321) (hN : N = ot * up / dn) (hA : ∀ i, i < ot → I (o + 28) i = A i) :
    Ct g mX11_resample [.ref x, .int (nI k), .int (nI up), .int (nI dn)] B I J P (some (.int (nI N)), B, va_up (va_up (vz I x) x (va_up (vz I x x) 8 (nI N))) (x + 21) (sgp (I (x + 21)) 0 N (rsv up dn ot A)), J, P) := by
  have ca := ca_t (g := g) (J := J) h
  obtain ⟨hV, hC, hxo, hx, h8, hk, hP⟩ := h
  have hmu := rs_m hot u2
  have e := lx_rs (g := g) (J := J) (k := k) (A := A) (I0 := va_up (vz I x) x (va_up (vz I x x) 8 (nI N))) hV hC hxo u1 u2 d1 d2 hot hN (by rw [va_up_s, va_up_s]) (fun i hi => by rw [va_up_n _ _ (by omega)]; exact vzk (hA i hi) (by omega)) N 0 (by omega)
  rw [sgp_0, va_up_id, va_up_n _ _ (show x + 21 ≠ x by omega), show vz I x (x + 21) = I (x + 21) from va_up_n _ _ (by omega)] at e
  refine ct_of (lv := [some (.ref x), some (.int (nI k)), some (.int (nI up)), some (.int (nI dn)), none, none, none, none, none, none]) (by decide +kernel) (Nat.le_of_ble_eq_true rfl) rfl ?_
  refine ev_aload_n 1 dX11_resample_0 rfl rfl ?_
  refine ev_iconstN 2 0 dX11_resample_1 rfl ?_
  refine ev_putI 5 mm_cl11 (j := 9) (Nat.le_of_ble_eq_true rfl) dX11_resample_2 lk270 rfl (fun _ _ _ => rfl) rfl rfl (hV.1 0 _ rfl) rfl ?_
  refine ev_aload_n 6 dX11_resample_5 rfl rfl ?_
  refine ev_iload_n 7 dX11_resample_6 rfl rfl ?_
  refine ev_invV 10 (Mc := mX11_coderAt) ⟨lk570, lk75, hdX11_coderAt, (Nat.le_of_ble_eq_true rfl), (Nat.le_of_ble_eq_true rfl)⟩ lk567 lk569 lk1 mm_cl11 rfl dX11_resample_7 (ca) rfl (hV.1 0 _ rfl) (Nat.le_of_ble_eq_true rfl) rfl rfl ?_
  refine ev_astore 12 (lv' := [_, _, _, some (.int _), _, _, _, _, _, _]) dX11_resample_10 (Nat.le_of_ble_eq_true rfl) rfl rfl ?_
  refine ev_aload 14 dX11_resample_12 rfl rfl ?_
  refine ev_ifnull_r 17 dX11_resample_14 rfl ?_
  refine ev_iload_n 18 dX11_resample_17 rfl rfl ?_
  refine ev_iconstN 19 1 dX11_resample_18 rfl ?_
  refine ev_icmp_ltN 22 38 dX11_resample_19 (by decide) (by omega) (by omega) rfl (fun hx => absurd hx ((by omega))) (fun hbr => ?_)
  refine ev_iload_n 23 dX11_resample_22 rfl rfl ?_
  refine ev_iconstN 24 4 dX11_resample_23 rfl ?_
  refine ev_icmp_gtN 27 38 dX11_resample_24 (by decide) (by omega) (by omega) rfl (fun hx => absurd hx ((by omega))) (fun hbr => ?_)
  refine ev_iload_n 28 dX11_resample_27 rfl rfl ?_
  refine ev_iconstN 29 1 dX11_resample_28 rfl ?_
  refine ev_icmp_ltN 32 38 dX11_resample_29 (by decide) (by omega) (by omega) rfl (fun hx => absurd hx ((by omega))) (fun hbr => ?_)
  refine ev_iload_n 33 dX11_resample_32 rfl rfl ?_
  refine ev_bipushN 35 8 dX11_resample_33 (by decide +kernel) rfl ?_
  refine ev_icmp_leN 38 44 dX11_resample_35 (by decide) (by omega) (by omega) rfl (fun hbr => ?_) (fun hx => absurd ((by omega)) hx)
  refine ev_aload 46 dX11_resample_44 rfl rfl ?_
  refine ev_getP 49 mm_cl0 (j := 4) (Nat.le_of_ble_eq_true rfl) dX11_resample_46 lk551 (fun _ _ _ => rfl) (hC.1 0 _ rfl) (a := (o + 17)) (hC.2.2.1 3 _ _ _ rfl) rfl ?_
  refine ev_getI 52 mm_cl1 (j := 15) (Nat.le_of_ble_eq_true rfl) dX11_resample_49 lk497 (fun _ _ _ => rfl) (hC.1 17 _ rfl) rfl ?_
  refine ev_eqI (y := nI (da)) ((vzk hd (by omega))) ?_
  refine ev_if_neN 55 62 dX11_resample_52 (by decide) (by omega) rfl (fun hbr => ?_) (fun hx => absurd hx ((by omega)))
  refine ev_aload 64 dX11_resample_62 rfl rfl ?_
  refine ev_getP 67 mm_cl0 (j := 4) (Nat.le_of_ble_eq_true rfl) dX11_resample_64 lk551 (fun _ _ _ => rfl) (hC.1 0 _ rfl) (a := (o + 17)) (hC.2.2.1 3 _ _ _ rfl) rfl ?_
  refine ev_getP 70 mm_cl1 (j := 5) (Nat.le_of_ble_eq_true rfl) dX11_resample_67 lk480 (fun _ _ _ => rfl) (hC.1 17 _ rfl) (a := (o + 28)) (hC.2.2.1 16 _ _ _ rfl) rfl ?_
  refine ev_astore 72 (lv' := [_, _, _, _, some (.ref _), _, _, _, _, _]) dX11_resample_70 (Nat.le_of_ble_eq_true rfl) rfl rfl ?_
  refine ev_aload 74 dX11_resample_72 rfl rfl ?_
  refine ev_getP 77 mm_cl0 (j := 4) (Nat.le_of_ble_eq_true rfl) dX11_resample_74 lk551 (fun _ _ _ => rfl) (hC.1 0 _ rfl) (a := (o + 17)) (hC.2.2.1 3 _ _ _ rfl) rfl ?_
  refine ev_getI 80 mm_cl1 (j := 6) (Nat.le_of_ble_eq_true rfl) dX11_resample_77 lk482 (fun _ _ _ => rfl) (hC.1 17 _ rfl) rfl ?_
  refine ev_eqI (y := ((nI ot))) ((vzk o1 (by omega))) ?_
  refine ev_iconstN 81 1 dX11_resample_80 rfl ?_
  refine ev_isub 82 dX11_resample_81 rfl ?_
  refine ev_istore 84 (lv' := [_, _, _, _, _, some (.ref _), _, _, _, _]) dX11_resample_82 (Nat.le_of_ble_eq_true rfl) rfl rfl ?_
  refine ev_aload_n 85 dX11_resample_84 rfl rfl ?_
  refine ev_aload 87 dX11_resample_85 rfl rfl ?_
  refine ev_getP 90 mm_cl0 (j := 4) (Nat.le_of_ble_eq_true rfl) dX11_resample_87 lk551 (fun _ _ _ => rfl) (hC.1 0 _ rfl) (a := (o + 17)) (hC.2.2.1 3 _ _ _ rfl) rfl ?_
  refine ev_getI 93 mm_cl1 (j := 6) (Nat.le_of_ble_eq_true rfl) dX11_resample_90 lk482 (fun _ _ _ => rfl) (hC.1 17 _ rfl) rfl ?_
  refine ev_eqI (y := nI (ot)) ((vzk o1 (by omega))) ?_
  refine ev_iload_n 94 dX11_resample_93 rfl rfl ?_
  refine ev_imulN 95 dX11_resample_94 rfl ?_
  refine ev_iload_n 96 dX11_resample_95 rfl rfl ?_
  refine ev_idivN 97 dX11_resample_96 (by omega) (by omega) (by omega) rfl ?_
  refine ev_eqI (y := nI (N)) ((by rw [hN])) ?_
  refine ev_putI 100 mm_cl11 (j := 8) (Nat.le_of_ble_eq_true rfl) dX11_resample_97 lk269 rfl (fun _ _ _ => rfl) rfl rfl (hV.1 0 _ rfl) rfl ?_
  refine ev_iconstN 101 0 dX11_resample_100 rfl ?_
  refine ev_istore 103 (lv' := [_, _, _, _, _, _, some (.int _), _, _, _]) dX11_resample_101 (Nat.le_of_ble_eq_true rfl) rfl rfl ?_
  exact e
theorem ml_resample_f {c u d : Int32} (hM : lyM B P m) (hn : I m 0 = nI n) (hc : ¬ (0 ≤ c ∧ c < nI n)) : Ct g mX12_resample [.ref m, .int c, .int u, .int d] B I J P (some (.int (-1)), B, mo_st I m (-1), J, P) := by
  refine ct_of (lv := [some (.ref m), some (.int (c)), some (.int (u)), some (.int (d)), none, none, none, none, none, none]) (by decide +kernel) (Nat.le_of_ble_eq_true rfl) rfl ?_
  refine ev_aload_n 1 dX12_resample_0 rfl rfl ?_
  refine ev_iload_n 2 dX12_resample_1 rfl rfl ?_
  refine ev_invV 5 (Mc := mX12_isCoder) ⟨lk1552, lk80, hdX12_isCoder, (Nat.le_of_ble_eq_true rfl), (Nat.le_of_ble_eq_true rfl)⟩ lk1549 lk1551 lk40 mm_cl12 rfl dX12_resample_2 (ct_X12_isCoder_f hM (by rw [hn]; exact hc)) rfl (hM.1 0 _ rfl) (Nat.le_of_ble_eq_true rfl) rfl rfl ?_
  refine ev_if_eqN 8 27 dX12_resample_5 (by decide) (by omega) rfl (fun hbr => ?_) (fun hx => absurd ((by omega)) hx)
  refine ev_aload_n 28 dX12_resample_27 rfl rfl ?_
  refine ev_iconst 29 (v := -1) dX12_resample_28 (by decide +kernel) rfl ?_
  refine ev_invV 32 (Mc := mX12_refused) ⟨lk1540, lk80, hdX12_refused, (Nat.le_of_ble_eq_true rfl), (Nat.le_of_ble_eq_true rfl)⟩ lk1537 lk1539 lk38 mm_cl12 rfl dX12_resample_29 (ct_X12_refused hM) rfl (hM.1 0 _ rfl) (Nat.le_of_ble_eq_true rfl) rfl rfl ?_
  exact ev_iret dX12_resample_32 rfl (rfl)
theorem ml_resample_b {u d : Int32} (h : MA B I P m n k) (hu : ¬ (nI 1 ≤ u ∧ u ≤ nI 4)) : Ct g mX12_resample [.ref m, .int (nI k), .int u, .int d] B I J P (some (.int (-1)), B, mo_st I m (-1), J, P) := by
  obtain ⟨hM, hn, h8, hk⟩ := h
  refine ct_of (lv := [some (.ref m), some (.int (nI (k))), some (.int (u)), some (.int (d)), none, none, none, none, none, none]) (by decide +kernel) (Nat.le_of_ble_eq_true rfl) rfl ?_
  refine ev_aload_n 1 dX12_resample_0 rfl rfl ?_
  refine ev_iload_n 2 dX12_resample_1 rfl rfl ?_
  refine ev_invV 5 (Mc := mX12_isCoder) ⟨lk1552, lk80, hdX12_isCoder, (Nat.le_of_ble_eq_true rfl), (Nat.le_of_ble_eq_true rfl)⟩ lk1549 lk1551 lk40 mm_cl12 rfl dX12_resample_2 (ct_X12_isCoder_t hM hn h8 hk) rfl (hM.1 0 _ rfl) (Nat.le_of_ble_eq_true rfl) rfl rfl ?_
  refine ev_if_eqN 8 27 dX12_resample_5 (by decide) (by omega) rfl (fun hx => absurd hx ((by omega))) (fun hbr => ?_)
  refine ev_iload_n 9 dX12_resample_8 rfl rfl ?_
  refine ev_iconstN 10 1 dX12_resample_9 rfl ?_
  refine ev_iconstN 11 4 dX12_resample_10 rfl ?_
  refine ev_invS 14 (Mc := mX12_in) ⟨lk1536, lk80, hdX12_in, (Nat.le_of_ble_eq_true rfl), (Nat.le_of_ble_eq_true rfl)⟩ lk1534 lk1535 dX12_resample_11 (ct_X12_in_f hu) rfl (Nat.le_of_ble_eq_true rfl) rfl rfl ?_
  refine ev_if_eqN 17 27 dX12_resample_14 (by decide) (by omega) rfl (fun hbr => ?_) (fun hx => absurd ((by omega)) hx)
  refine ev_aload_n 28 dX12_resample_27 rfl rfl ?_
  refine ev_iconst 29 (v := -1) dX12_resample_28 (by decide +kernel) rfl ?_
  refine ev_invV 32 (Mc := mX12_refused) ⟨lk1540, lk80, hdX12_refused, (Nat.le_of_ble_eq_true rfl), (Nat.le_of_ble_eq_true rfl)⟩ lk1537 lk1539 lk38 mm_cl12 rfl dX12_resample_29 (ct_X12_refused hM) rfl (hM.1 0 _ rfl) (Nat.le_of_ble_eq_true rfl) rfl rfl ?_
  exact ev_iret dX12_resample_32 rfl (rfl)
theorem ml_resample_b2 {up : Nat} {d : Int32} (h : MA B I P m n k) (u1 : 1 ≤ up) (u2 : up ≤ 4) (hd : ¬ (nI 1 ≤ d ∧ d ≤ nI 8)) : Ct g mX12_resample [.ref m, .int (nI k), .int (nI up), .int d] B I J P (some (.int (-1)), B, mo_st I m (-1), J, P) := by
  obtain ⟨hM, hn, h8, hk⟩ := h
  refine ct_of (lv := [some (.ref m), some (.int (nI (k))), some (.int (nI (up))), some (.int (d)), none, none, none, none, none, none]) (by decide +kernel) (Nat.le_of_ble_eq_true rfl) rfl ?_
  refine ev_aload_n 1 dX12_resample_0 rfl rfl ?_
  refine ev_iload_n 2 dX12_resample_1 rfl rfl ?_
  refine ev_invV 5 (Mc := mX12_isCoder) ⟨lk1552, lk80, hdX12_isCoder, (Nat.le_of_ble_eq_true rfl), (Nat.le_of_ble_eq_true rfl)⟩ lk1549 lk1551 lk40 mm_cl12 rfl dX12_resample_2 (ct_X12_isCoder_t hM hn h8 hk) rfl (hM.1 0 _ rfl) (Nat.le_of_ble_eq_true rfl) rfl rfl ?_
  refine ev_if_eqN 8 27 dX12_resample_5 (by decide) (by omega) rfl (fun hx => absurd hx ((by omega))) (fun hbr => ?_)
  refine ev_iload_n 9 dX12_resample_8 rfl rfl ?_
  refine ev_iconstN 10 1 dX12_resample_9 rfl ?_
  refine ev_iconstN 11 4 dX12_resample_10 rfl ?_
  refine ev_invS 14 (Mc := mX12_in) ⟨lk1536, lk80, hdX12_in, (Nat.le_of_ble_eq_true rfl), (Nat.le_of_ble_eq_true rfl)⟩ lk1534 lk1535 dX12_resample_11 (ct_X12_in_t (in_t u1 u2 (by omega))) rfl (Nat.le_of_ble_eq_true rfl) rfl rfl ?_
  refine ev_if_eqN 17 27 dX12_resample_14 (by decide) (by omega) rfl (fun hx => absurd hx ((by omega))) (fun hbr => ?_)
  refine ev_iload_n 18 dX12_resample_17 rfl rfl ?_
  refine ev_iconstN 19 1 dX12_resample_18 rfl ?_
  refine ev_bipushN 21 8 dX12_resample_19 (by decide +kernel) rfl ?_
  refine ev_invS 24 (Mc := mX12_in) ⟨lk1536, lk80, hdX12_in, (Nat.le_of_ble_eq_true rfl), (Nat.le_of_ble_eq_true rfl)⟩ lk1534 lk1535 dX12_resample_21 (ct_X12_in_f hd) rfl (Nat.le_of_ble_eq_true rfl) rfl rfl ?_
  refine ev_if_neN 27 33 dX12_resample_24 (by decide) (by omega) rfl (fun hx => absurd ((by omega)) hx) (fun hbr => ?_)
  refine ev_aload_n 28 dX12_resample_27 rfl rfl ?_
  refine ev_iconst 29 (v := -1) dX12_resample_28 (by decide +kernel) rfl ?_
  refine ev_invV 32 (Mc := mX12_refused) ⟨lk1540, lk80, hdX12_refused, (Nat.le_of_ble_eq_true rfl), (Nat.le_of_ble_eq_true rfl)⟩ lk1537 lk1539 lk38 mm_cl12 rfl dX12_resample_29 (ct_X12_refused hM) rfl (hM.1 0 _ rfl) (Nat.le_of_ble_eq_true rfl) rfl rfl ?_
  exact ev_iret dX12_resample_32 rfl (rfl)
theorem ml_resample_s {up dn : Nat} (h : MA B I P m n k) (u1 : 1 ≤ up) (u2 : up ≤ 4) (d1 : 1 ≤ dn) (d2 : dn ≤ 8) (hd : I (m + 38) k = nI 0) : Ct g mX12_resample [.ref m, .int (nI k), .int (nI up), .int (nI dn)] B I J P (some (.int (-2)), B, mo_st I m (-2), J, P) := by
  obtain ⟨hM, hn, h8, hk⟩ := h
  refine ct_of (lv := [some (.ref m), some (.int (nI (k))), some (.int (nI (up))), some (.int (nI (dn))), none, none, none, none, none, none]) (by decide +kernel) (Nat.le_of_ble_eq_true rfl) rfl ?_
  refine ev_aload_n 1 dX12_resample_0 rfl rfl ?_
  refine ev_iload_n 2 dX12_resample_1 rfl rfl ?_
  refine ev_invV 5 (Mc := mX12_isCoder) ⟨lk1552, lk80, hdX12_isCoder, (Nat.le_of_ble_eq_true rfl), (Nat.le_of_ble_eq_true rfl)⟩ lk1549 lk1551 lk40 mm_cl12 rfl dX12_resample_2 (ct_X12_isCoder_t hM hn h8 hk) rfl (hM.1 0 _ rfl) (Nat.le_of_ble_eq_true rfl) rfl rfl ?_
  refine ev_if_eqN 8 27 dX12_resample_5 (by decide) (by omega) rfl (fun hx => absurd hx ((by omega))) (fun hbr => ?_)
  refine ev_iload_n 9 dX12_resample_8 rfl rfl ?_
  refine ev_iconstN 10 1 dX12_resample_9 rfl ?_
  refine ev_iconstN 11 4 dX12_resample_10 rfl ?_
  refine ev_invS 14 (Mc := mX12_in) ⟨lk1536, lk80, hdX12_in, (Nat.le_of_ble_eq_true rfl), (Nat.le_of_ble_eq_true rfl)⟩ lk1534 lk1535 dX12_resample_11 (ct_X12_in_t (in_t u1 u2 (by omega))) rfl (Nat.le_of_ble_eq_true rfl) rfl rfl ?_
  refine ev_if_eqN 17 27 dX12_resample_14 (by decide) (by omega) rfl (fun hx => absurd hx ((by omega))) (fun hbr => ?_)
  refine ev_iload_n 18 dX12_resample_17 rfl rfl ?_
  refine ev_iconstN 19 1 dX12_resample_18 rfl ?_
  refine ev_bipushN 21 8 dX12_resample_19 (by decide +kernel) rfl ?_
  refine ev_invS 24 (Mc := mX12_in) ⟨lk1536, lk80, hdX12_in, (Nat.le_of_ble_eq_true rfl), (Nat.le_of_ble_eq_true rfl)⟩ lk1534 lk1535 dX12_resample_21 (ct_X12_in_t (in_t d1 d2 (by omega))) rfl (Nat.le_of_ble_eq_true rfl) rfl rfl ?_
  refine ev_if_neN 27 33 dX12_resample_24 (by decide) (by omega) rfl (fun hbr => ?_) (fun hx => absurd hx ((by omega)))
  refine ev_aload_n 34 dX12_resample_33 rfl rfl ?_
  refine ev_getP 37 mm_cl12 (j := 44) (Nat.le_of_ble_eq_true rfl) dX12_resample_34 lk1329 (fun _ _ _ => rfl) (hM.1 0 _ rfl) (a := (m + 38)) (hM.2.2 37 _ _ _ rfl) rfl ?_
  refine ev_iload_n 38 dX12_resample_37 rfl rfl ?_
  refine ev_iald 39 _ dX12_resample_38 (hM.1 38 _ rfl) rfl (by have hNN := hM.2.1 38 _ rfl; omega) rfl ?_
  refine ev_eqI (y := nI (0)) (hd) ?_
  refine ev_if_neN 42 49 dX12_resample_39 (by decide) (by omega) rfl (fun hx => absurd ((by omega)) hx) (fun hbr => ?_)
  refine ev_aload_n 43 dX12_resample_42 rfl rfl ?_
  refine ev_bipush 45 (v := -2) dX12_resample_43 (by decide +kernel) rfl ?_
  refine ev_invV 48 (Mc := mX12_refused) ⟨lk1540, lk80, hdX12_refused, (Nat.le_of_ble_eq_true rfl), (Nat.le_of_ble_eq_true rfl)⟩ lk1537 lk1539 lk38 mm_cl12 rfl dX12_resample_45 (ct_X12_refused hM) rfl (hM.1 0 _ rfl) (Nat.le_of_ble_eq_true rfl) rfl rfl ?_
  exact ev_iret dX12_resample_48 rfl (rfl)
theorem lx_mrs {up dn ot N : Nat} {A : Nat → Int32} {I0 : mm_TI} (hM : lyM B P m) (hk8 : k < 8) (u1 : 1 ≤ up) (u2 : up ≤ 4) (d1 : 1 ≤ dn) (d2 : dn ≤ 8) (hot : ot ≤ 321) (hN : N = ot * up / dn) (h8 : I0 m 9 = nI N) (hA : ∀ i, i < ot → I0 (m + 45) (322 * k + i) = A i) : ∀ (d i : Nat), i + d = N →
    Ev g mX12_resample 70 [some (.ref m), some (.int (nI k)), some (.int (nI up)), some (.int (nI dn)), some (.int (nI ot)), some (.int (nI i)), none, none, none, none] [] B (va_up I0 (m + 4) (sgp (I0 (m + 4)) 0 i (rsv up dn ot A))) J P (some (.int (nI N)), B, mo_st (va_up I0 (m + 4) (sgp (I0 (m + 4)) 0 N (rsv up dn ot A))) m (nI 0), J, P) := by
  have N1 : N ≤ 1284 := by rw [hN]; exact rs_n hot u2 d1
  have hu0 : nI up ≠ 0 := nI_ne0 (by omega) (by omega)
  intro d
  induction d with
  | zero =>
    intro i hi
    obtain rfl : i = N := by omega
    refine ev_iload 72 dX12_resample_70 rfl rfl ?_
    refine ev_aload_n 73 dX12_resample_72 rfl rfl ?_
    refine ev_getI 76 mm_cl12 (j := 9) (Nat.le_of_ble_eq_true rfl) dX12_resample_73 lk1294 (fun _ _ _ => rfl) (hM.1 0 _ rfl) rfl ?_
    refine ev_eqI (y := nI (i)) ((by rw [va_up_n _ _ (by omega)]; exact h8)) ?_
    refine ev_icmp_geN 79 169 dX12_resample_76 (by decide) (by omega) (by omega) rfl (fun hbr => ?_) (fun hx => absurd ((by omega)) hx)
    refine ev_aload_n 170 dX12_resample_169 rfl rfl ?_
    refine ev_aload_n 171 dX12_resample_170 rfl rfl ?_
    refine ev_getI 174 mm_cl12 (j := 9) (Nat.le_of_ble_eq_true rfl) dX12_resample_171 lk1294 (fun _ _ _ => rfl) (hM.1 0 _ rfl) rfl ?_
    refine ev_eqI (y := nI (i)) ((by rw [va_up_n _ _ (by omega)]; exact h8)) ?_
    refine ev_invV 177 (Mc := mX12_done) ⟨lk1544, lk80, hdX12_done, (Nat.le_of_ble_eq_true rfl), (Nat.le_of_ble_eq_true rfl)⟩ lk1541 lk1543 lk39 mm_cl12 rfl dX12_resample_174 (ct_X12_done hM) rfl (hM.1 0 _ rfl) (Nat.le_of_ble_eq_true rfl) rfl rfl ?_
    exact ev_iret dX12_resample_177 rfl (rfl)
  | succ d ih =>
    intro i hi
    have e := ih (i + 1) (by omega)
    have hk : i * dn / up < ot := rs_k d1 (by omega)
    have ot1 : 0 < ot := Nat.lt_of_le_of_lt (Nat.zero_le _) hk
    have hid : i * dn < 2 ^ 31 := Nat.lt_of_le_of_lt (Nat.mul_le_mul (show i ≤ 1284 by omega) d2) (by decide)
    have hf : i * dn % up < up := Nat.mod_lt _ (by omega)
    have hs : va_up (sgp (I0 (m + 4)) 0 i (rsv up dn ot A)) i ((A (i * dn / up) * nI (up - i * dn % up) + A (min (i * dn / up + 1) (ot - 1)) * nI (i * dn % up)) / nI up) = sgp (I0 (m + 4)) 0 (i + 1) (rsv up dn ot A) := by
      have := sgp_grow (f := I0 (m + 4)) (off := 0) (n := i) (v := rsv up dn ot A) rfl
      rw [Nat.zero_add] at this; exact this
    by_cases hl : i * dn / up + 1 < ot
    · rw [Nat.min_eq_left (show i * dn / up + 1 ≤ ot - 1 by omega)] at hs
      refine ev_iload 72 dX12_resample_70 rfl rfl ?_
      refine ev_aload_n 73 dX12_resample_72 rfl rfl ?_
      refine ev_getI 76 mm_cl12 (j := 9) (Nat.le_of_ble_eq_true rfl) dX12_resample_73 lk1294 (fun _ _ _ => rfl) (hM.1 0 _ rfl) rfl ?_
      refine ev_eqI (y := nI (N)) ((by rw [va_up_n _ _ (by omega)]; exact h8)) ?_
      refine ev_icmp_geN 79 169 dX12_resample_76 (by decide) (by omega) (by omega) rfl (fun hx => absurd hx ((by omega))) (fun hbr => ?_)
      refine ev_iload 81 dX12_resample_79 rfl rfl ?_
      refine ev_iload_n 82 dX12_resample_81 rfl rfl ?_
      refine ev_imulN 83 dX12_resample_82 rfl ?_
      refine ev_iload_n 84 dX12_resample_83 rfl rfl ?_
      refine ev_idivN 85 dX12_resample_84 (by omega) (by omega) (by omega) rfl ?_
      refine ev_istore 87 (lv' := [_, _, _, _, _, some (.int _), _, _, _, _]) dX12_resample_85 (Nat.le_of_ble_eq_true rfl) rfl rfl ?_
      refine ev_iload 89 dX12_resample_87 rfl rfl ?_
      refine ev_iload_n 90 dX12_resample_89 rfl rfl ?_
      refine ev_imulN 91 dX12_resample_90 rfl ?_
      refine ev_iload_n 92 dX12_resample_91 rfl rfl ?_
      refine ev_iremN 93 dX12_resample_92 (by omega) (by omega) (by omega) rfl ?_
      refine ev_istore 95 (lv' := [_, _, _, _, _, _, some (.int _), _, _, _]) dX12_resample_93 (Nat.le_of_ble_eq_true rfl) rfl rfl ?_
      refine ev_aload_n 96 dX12_resample_95 rfl rfl ?_
      refine ev_getP 99 mm_cl12 (j := 51) (Nat.le_of_ble_eq_true rfl) dX12_resample_96 lk1336 (fun _ _ _ => rfl) (hM.1 0 _ rfl) (a := (m + 45)) (hM.2.2 44 _ _ _ rfl) rfl ?_
      refine ev_sipushN 102 322 dX12_resample_99 (by decide +kernel) rfl ?_
      refine ev_iload_n 103 dX12_resample_102 rfl rfl ?_
      refine ev_imulN 104 dX12_resample_103 rfl ?_
      refine ev_iload 106 dX12_resample_104 rfl rfl ?_
      refine ev_iaddN 107 dX12_resample_106 rfl ?_
      refine ev_iald 108 _ dX12_resample_107 (hM.1 45 _ rfl) rfl (by have hNN := hM.2.1 45 _ rfl; omega) rfl ?_
      refine ev_eqI (y := ((A (i * dn / up)))) ((by rw [va_up_n _ _ (by omega)]; exact hA _ (by omega))) ?_
      refine ev_istore 110 (lv' := [_, _, _, _, _, _, _, some (.int _), _, _]) dX12_resample_108 (Nat.le_of_ble_eq_true rfl) rfl rfl ?_
      refine ev_iload 112 dX12_resample_110 rfl rfl ?_
      refine ev_iconstN 113 1 dX12_resample_112 rfl ?_
      refine ev_iaddN 114 dX12_resample_113 rfl ?_
      refine ev_iload 116 dX12_resample_114 rfl rfl ?_
      refine ev_icmp_geN 119 137 dX12_resample_116 (by decide) (by omega) (by omega) rfl (fun hx => absurd hx ((by omega))) (fun hbr => ?_)
      refine ev_aload_n 120 dX12_resample_119 rfl rfl ?_
      refine ev_getP 123 mm_cl12 (j := 51) (Nat.le_of_ble_eq_true rfl) dX12_resample_120 lk1336 (fun _ _ _ => rfl) (hM.1 0 _ rfl) (a := (m + 45)) (hM.2.2 44 _ _ _ rfl) rfl ?_
      refine ev_sipushN 126 322 dX12_resample_123 (by decide +kernel) rfl ?_
      refine ev_iload_n 127 dX12_resample_126 rfl rfl ?_
      refine ev_imulN 128 dX12_resample_127 rfl ?_
      refine ev_iload 130 dX12_resample_128 rfl rfl ?_
      refine ev_iaddN 131 dX12_resample_130 rfl ?_
      refine ev_iconstN 132 1 dX12_resample_131 rfl ?_
      refine ev_iaddN 133 dX12_resample_132 rfl ?_
      refine ev_iald 134 _ dX12_resample_133 (hM.1 45 _ rfl) rfl (by have hNN := hM.2.1 45 _ rfl; omega) rfl ?_
      refine ev_eqI (y := ((A (i * dn / up + 1)))) ((by rw [va_up_n _ _ (by omega), Nat.add_assoc]; exact hA _ (by omega))) ?_
      refine ev_goto 139 dX12_resample_134 (by decide) ?_
      refine ev_istore 141 (lv' := [_, _, _, _, _, _, _, _, some (.int _), _]) dX12_resample_139 (Nat.le_of_ble_eq_true rfl) rfl rfl ?_
      refine ev_aload_n 142 dX12_resample_141 rfl rfl ?_
      refine ev_getP 145 mm_cl12 (j := 8) (Nat.le_of_ble_eq_true rfl) dX12_resample_142 lk1293 (fun _ _ _ => rfl) (hM.1 0 _ rfl) (a := (m + 4)) (hM.2.2 3 _ _ _ rfl) rfl ?_
      refine ev_iload 147 dX12_resample_145 rfl rfl ?_
      refine ev_iload 149 dX12_resample_147 rfl rfl ?_
      refine ev_iload_n 150 dX12_resample_149 rfl rfl ?_
      refine ev_iload 152 dX12_resample_150 rfl rfl ?_
      refine ev_isubN 153 dX12_resample_152 (by omega) rfl ?_
      refine ev_imul 154 dX12_resample_153 rfl ?_
      refine ev_iload 156 dX12_resample_154 rfl rfl ?_
      refine ev_iload 158 dX12_resample_156 rfl rfl ?_
      refine ev_imul 159 dX12_resample_158 rfl ?_
      refine ev_iadd 160 dX12_resample_159 rfl ?_
      refine ev_iload_n 161 dX12_resample_160 rfl rfl ?_
      refine ev_idiv 162 dX12_resample_161 (by assumption) rfl ?_
      refine ev_iast 163 _ dX12_resample_162 (hM.1 4 _ rfl) rfl (by have hNN := hM.2.1 4 _ rfl; omega) rfl ?_
      rw [va_up_s, bx_uu, hs]
      refine ev_iincN 166 (lv' := [_, _, _, _, some (.int _), _, _, _, _, _]) 1 dX12_resample_163 rfl (Nat.le_of_ble_eq_true rfl) rfl rfl ?_
      refine ev_goto 70 dX12_resample_166 (by decide) ?_
      refine ev_le (mle_s (mle_s (mle_s (mle_s (mle_s (mle_s (mle_n (mle_n (mle_n (mle_n (mle_0))))))))))) ?_
      exact e
    · rw [Nat.min_eq_right (show ot - 1 ≤ i * dn / up + 1 by omega), show ot - 1 = i * dn / up by omega] at hs
      refine ev_iload 72 dX12_resample_70 rfl rfl ?_
      refine ev_aload_n 73 dX12_resample_72 rfl rfl ?_
      refine ev_getI 76 mm_cl12 (j := 9) (Nat.le_of_ble_eq_true rfl) dX12_resample_73 lk1294 (fun _ _ _ => rfl) (hM.1 0 _ rfl) rfl ?_
      refine ev_eqI (y := nI (N)) ((by rw [va_up_n _ _ (by omega)]; exact h8)) ?_
      refine ev_icmp_geN 79 169 dX12_resample_76 (by decide) (by omega) (by omega) rfl (fun hx => absurd hx ((by omega))) (fun hbr => ?_)
      refine ev_iload 81 dX12_resample_79 rfl rfl ?_
      refine ev_iload_n 82 dX12_resample_81 rfl rfl ?_
      refine ev_imulN 83 dX12_resample_82 rfl ?_
      refine ev_iload_n 84 dX12_resample_83 rfl rfl ?_
      refine ev_idivN 85 dX12_resample_84 (by omega) (by omega) (by omega) rfl ?_
      refine ev_istore 87 (lv' := [_, _, _, _, _, some (.int _), _, _, _, _]) dX12_resample_85 (Nat.le_of_ble_eq_true rfl) rfl rfl ?_
      refine ev_iload 89 dX12_resample_87 rfl rfl ?_
      refine ev_iload_n 90 dX12_resample_89 rfl rfl ?_
      refine ev_imulN 91 dX12_resample_90 rfl ?_
      refine ev_iload_n 92 dX12_resample_91 rfl rfl ?_
      refine ev_iremN 93 dX12_resample_92 (by omega) (by omega) (by omega) rfl ?_
      refine ev_istore 95 (lv' := [_, _, _, _, _, _, some (.int _), _, _, _]) dX12_resample_93 (Nat.le_of_ble_eq_true rfl) rfl rfl ?_
      refine ev_aload_n 96 dX12_resample_95 rfl rfl ?_
      refine ev_getP 99 mm_cl12 (j := 51) (Nat.le_of_ble_eq_true rfl) dX12_resample_96 lk1336 (fun _ _ _ => rfl) (hM.1 0 _ rfl) (a := (m + 45)) (hM.2.2 44 _ _ _ rfl) rfl ?_
      refine ev_sipushN 102 322 dX12_resample_99 (by decide +kernel) rfl ?_
      refine ev_iload_n 103 dX12_resample_102 rfl rfl ?_
      refine ev_imulN 104 dX12_resample_103 rfl ?_
      refine ev_iload 106 dX12_resample_104 rfl rfl ?_
      refine ev_iaddN 107 dX12_resample_106 rfl ?_
      refine ev_iald 108 _ dX12_resample_107 (hM.1 45 _ rfl) rfl (by have hNN := hM.2.1 45 _ rfl; omega) rfl ?_
      refine ev_eqI (y := ((A (i * dn / up)))) ((by rw [va_up_n _ _ (by omega)]; exact hA _ (by omega))) ?_
      refine ev_istore 110 (lv' := [_, _, _, _, _, _, _, some (.int _), _, _]) dX12_resample_108 (Nat.le_of_ble_eq_true rfl) rfl rfl ?_
      refine ev_iload 112 dX12_resample_110 rfl rfl ?_
      refine ev_iconstN 113 1 dX12_resample_112 rfl ?_
      refine ev_iaddN 114 dX12_resample_113 rfl ?_
      refine ev_iload 116 dX12_resample_114 rfl rfl ?_
      refine ev_icmp_geN 119 137 dX12_resample_116 (by decide) (by omega) (by omega) rfl (fun hbr => ?_) (fun hx => absurd ((by omega)) hx)
      refine ev_iload 139 dX12_resample_137 rfl rfl ?_
      refine ev_istore 141 (lv' := [_, _, _, _, _, _, _, _, some (.int _), _]) dX12_resample_139 (Nat.le_of_ble_eq_true rfl) rfl rfl ?_
      refine ev_aload_n 142 dX12_resample_141 rfl rfl ?_
      refine ev_getP 145 mm_cl12 (j := 8) (Nat.le_of_ble_eq_true rfl) dX12_resample_142 lk1293 (fun _ _ _ => rfl) (hM.1 0 _ rfl) (a := (m + 4)) (hM.2.2 3 _ _ _ rfl) rfl ?_
      refine ev_iload 147 dX12_resample_145 rfl rfl ?_
      refine ev_iload 149 dX12_resample_147 rfl rfl ?_
      refine ev_iload_n 150 dX12_resample_149 rfl rfl ?_
      refine ev_iload 152 dX12_resample_150 rfl rfl ?_
      refine ev_isubN 153 dX12_resample_152 (by omega) rfl ?_
      refine ev_imul 154 dX12_resample_153 rfl ?_
      refine ev_iload 156 dX12_resample_154 rfl rfl ?_
      refine ev_iload 158 dX12_resample_156 rfl rfl ?_
      refine ev_imul 159 dX12_resample_158 rfl ?_
      refine ev_iadd 160 dX12_resample_159 rfl ?_
      refine ev_iload_n 161 dX12_resample_160 rfl rfl ?_
      refine ev_idiv 162 dX12_resample_161 (by assumption) rfl ?_
      refine ev_iast 163 _ dX12_resample_162 (hM.1 4 _ rfl) rfl (by have hNN := hM.2.1 4 _ rfl; omega) rfl ?_
      rw [va_up_s, bx_uu, hs]
      refine ev_iincN 166 (lv' := [_, _, _, _, some (.int _), _, _, _, _, _]) 1 dX12_resample_163 rfl (Nat.le_of_ble_eq_true rfl) rfl rfl ?_
      refine ev_goto 70 dX12_resample_166 (by decide) ?_
      refine ev_le (mle_s (mle_s (mle_s (mle_s (mle_s (mle_s (mle_n (mle_n (mle_n (mle_n (mle_0))))))))))) ?_
      exact e
theorem ml_resample_t {up dn da ot N : Nat} {A : Nat → Int32} (h : MA B I P m n k) (u1 : 1 ≤ up) (u2 : up ≤ 4) (d1 : 1 ≤ dn) (d2 : dn ≤ 8) (hd : I (m + 38) k = nI da) (a0 : 0 < da) (a1 : da < 2 ^ 31) (o1 : I (m + 44) k = nI ot) (hot : ot ≤ 321) (hN : N = ot * up / dn) (hA : ∀ i, i < ot → I (m + 45) (322 * k + i) = A i) :
    Ct g mX12_resample [.ref m, .int (nI k), .int (nI up), .int (nI dn)] B I J P (some (.int (nI N)), B, mo_st (va_up (va_up I m (va_up (I m) 9 (nI N))) (m + 4) (sgp (I (m + 4)) 0 N (rsv up dn ot A))) m (nI 0), J, P) := by
  obtain ⟨hM, hn, h8, hk⟩ := h
  have hmu := rs_m hot u2
  have e := lx_mrs (g := g) (J := J) (A := A) (I0 := va_up I m (va_up (I m) 9 (nI N))) hM (show k < 8 by omega) u1 u2 d1 d2 hot hN (by rw [va_up_s, va_up_s]) (fun i hi => by rw [va_up_n _ _ (by omega)]; exact hA i hi) N 0 (by omega)
  rw [sgp_0, va_up_id, va_up_n _ _ (show m + 4 ≠ m by omega)] at e
  refine ct_of (lv := [some (.ref m), some (.int (nI k)), some (.int (nI up)), some (.int (nI dn)), none, none, none, none, none, none]) (by decide +kernel) (Nat.le_of_ble_eq_true rfl) rfl ?_
  refine ev_aload_n 1 dX12_resample_0 rfl rfl ?_
  refine ev_iload_n 2 dX12_resample_1 rfl rfl ?_
  refine ev_invV 5 (Mc := mX12_isCoder) ⟨lk1552, lk80, hdX12_isCoder, (Nat.le_of_ble_eq_true rfl), (Nat.le_of_ble_eq_true rfl)⟩ lk1549 lk1551 lk40 mm_cl12 rfl dX12_resample_2 (ct_X12_isCoder_t hM hn h8 hk) rfl (hM.1 0 _ rfl) (Nat.le_of_ble_eq_true rfl) rfl rfl ?_
  refine ev_if_eqN 8 27 dX12_resample_5 (by decide) (by omega) rfl (fun hx => absurd hx ((by omega))) (fun hbr => ?_)
  refine ev_iload_n 9 dX12_resample_8 rfl rfl ?_
  refine ev_iconstN 10 1 dX12_resample_9 rfl ?_
  refine ev_iconstN 11 4 dX12_resample_10 rfl ?_
  refine ev_invS 14 (Mc := mX12_in) ⟨lk1536, lk80, hdX12_in, (Nat.le_of_ble_eq_true rfl), (Nat.le_of_ble_eq_true rfl)⟩ lk1534 lk1535 dX12_resample_11 (ct_X12_in_t (in_t u1 u2 (by omega))) rfl (Nat.le_of_ble_eq_true rfl) rfl rfl ?_
  refine ev_if_eqN 17 27 dX12_resample_14 (by decide) (by omega) rfl (fun hx => absurd hx ((by omega))) (fun hbr => ?_)
  refine ev_iload_n 18 dX12_resample_17 rfl rfl ?_
  refine ev_iconstN 19 1 dX12_resample_18 rfl ?_
  refine ev_bipushN 21 8 dX12_resample_19 (by decide +kernel) rfl ?_
  refine ev_invS 24 (Mc := mX12_in) ⟨lk1536, lk80, hdX12_in, (Nat.le_of_ble_eq_true rfl), (Nat.le_of_ble_eq_true rfl)⟩ lk1534 lk1535 dX12_resample_21 (ct_X12_in_t (in_t d1 d2 (by omega))) rfl (Nat.le_of_ble_eq_true rfl) rfl rfl ?_
  refine ev_if_neN 27 33 dX12_resample_24 (by decide) (by omega) rfl (fun hbr => ?_) (fun hx => absurd hx ((by omega)))
  refine ev_aload_n 34 dX12_resample_33 rfl rfl ?_
  refine ev_getP 37 mm_cl12 (j := 44) (Nat.le_of_ble_eq_true rfl) dX12_resample_34 lk1329 (fun _ _ _ => rfl) (hM.1 0 _ rfl) (a := (m + 38)) (hM.2.2 37 _ _ _ rfl) rfl ?_
  refine ev_iload_n 38 dX12_resample_37 rfl rfl ?_
  refine ev_iald 39 _ dX12_resample_38 (hM.1 38 _ rfl) rfl (by have hNN := hM.2.1 38 _ rfl; omega) rfl ?_
  refine ev_eqI (y := nI (da)) (hd) ?_
  refine ev_if_neN 42 49 dX12_resample_39 (by decide) (by omega) rfl (fun hbr => ?_) (fun hx => absurd hx ((by omega)))
  refine ev_aload_n 50 dX12_resample_49 rfl rfl ?_
  refine ev_getP 53 mm_cl12 (j := 50) (Nat.le_of_ble_eq_true rfl) dX12_resample_50 lk1335 (fun _ _ _ => rfl) (hM.1 0 _ rfl) (a := (m + 44)) (hM.2.2 43 _ _ _ rfl) rfl ?_
  refine ev_iload_n 54 dX12_resample_53 rfl rfl ?_
  refine ev_iald 55 _ dX12_resample_54 (hM.1 44 _ rfl) rfl (by have hNN := hM.2.1 44 _ rfl; omega) rfl ?_
  refine ev_eqI (y := nI (ot)) (o1) ?_
  refine ev_istore 57 (lv' := [_, _, _, some (.int _), _, _, _, _, _, _]) dX12_resample_55 (Nat.le_of_ble_eq_true rfl) rfl rfl ?_
  refine ev_aload_n 58 dX12_resample_57 rfl rfl ?_
  refine ev_iload 60 dX12_resample_58 rfl rfl ?_
  refine ev_iload_n 61 dX12_resample_60 rfl rfl ?_
  refine ev_imulN 62 dX12_resample_61 rfl ?_
  refine ev_iload_n 63 dX12_resample_62 rfl rfl ?_
  refine ev_idivN 64 dX12_resample_63 (by omega) (by omega) (by omega) rfl ?_
  refine ev_eqI (y := nI (N)) ((by rw [hN])) ?_
  refine ev_putI 67 mm_cl12 (j := 9) (Nat.le_of_ble_eq_true rfl) dX12_resample_64 lk1294 rfl (fun _ _ _ => rfl) rfl rfl (hM.1 0 _ rfl) rfl ?_
  refine ev_iconstN 68 0 dX12_resample_67 rfl ?_
  refine ev_istore 70 (lv' := [_, _, _, _, some (.int _), _, _, _, _, _]) dX12_resample_68 (Nat.le_of_ble_eq_true rfl) rfl rfl ?_
  exact e
end RS0
section RS1
variable {g : mm_G}
theorem jo_resample {c u d : Int32} : JO g mX11_resample mX12_resample [.int c, .int u, .int d] := by
  refine jo_mk fun K x m B I J P n R o fl φ ρ hK hR h => ?_
  obtain ⟨hV, hM, -⟩ := RG_ly h
  obtain ⟨h8, hx4, hm0⟩ := RG_n h
  have xm := (RC_xm h).1
  rcases cd_cases h8 c with ⟨k, hk, rfl⟩ | hc
  · rcases in_cases (lo := 1) (hi := 4) (by omega) (by omega) u with ⟨up, u1, u2, rfl⟩ | hu
    · rcases in_cases (lo := 1) (hi := 8) (by omega) (by omega) d with ⟨dn, d1, d2, rfl⟩ | hd
      · obtain ⟨⟨ot, a1, a2, a3, a4⟩, -, -, -, -, -, -, ⟨da, f1, f2, f3, f4⟩, -⟩ := RC_d h hk
        by_cases e0 : da = 0
        · subst e0
          exact Or.inl ⟨_, _, cl_resample_s (CA_of h hk) u1 u2 d1 d2 f2, fun I1 h1 => ml_resample_s (MA_of h hk (h1 _ (by omega))) u1 u2 d1 d2 (by rw [h1 _ (by omega)]; exact f3)⟩
        · right
          have v1 : ∀ (F : Nat → Int32) (G : Nat → Int32) q, q ≠ x → q ≠ x + 21 → va_up (va_up (vz I x) x F) (x + 21) G q = I q := fun F G q q1 q2 => (va_up_n _ _ q2).trans ((va_up_n _ _ q1).trans (va_up_n _ _ q1))
          have rc := RC_be (N := ot * up / dn) (val := rsv up dn ot (I (o k + 28))) (T := 0) h (rs_n a1 u2 d1) rfl rfl
          rw [sp_up_0, sp_up_0] at rc
          exact ⟨_, _, J, _, J, cl_resample_t (A := I (o k + 28)) (CA_of h hk) u1 u2 d1 d2 f2 (by omega) (by omega) a2 a1 rfl (fun _ _ => rfl), ml_resample_t (MA_of h hk (v1 _ _ _ (by omega) (by omega))) u1 u2 d1 d2 (by rw [v1 _ _ _ (by omega) (by omega)]; exact f3) (by omega) (by omega) (by rw [v1 _ _ _ (by omega) (by omega)]; exact a3) a1 rfl (fun i hi => by rw [v1 _ _ _ (by omega) (by omega)]; exact (a4 i (by omega)).1.symm), rc.1, rc.2⟩
      · exact Or.inl ⟨_, _, cl_resample_b2 (CA_of h hk) u1 u2 hd, fun I1 h1 => ml_resample_b2 (MA_of h hk (h1 _ (by omega))) u1 u2 hd⟩
    · exact Or.inl ⟨_, _, cl_resample_b (CA_of h hk) hu, fun I1 h1 => ml_resample_b (MA_of h hk (h1 _ (by omega))) hu⟩
  · exact Or.inl ⟨_, _, cl_resample_f hV hx4 hc, fun I1 h1 => ml_resample_f hM (by rw [h1 _ (by omega)]; exact hm0) hc⟩
end RS1
