/-! THE TAPE -/
def tyv (w : Int64) (nn i : Nat) : Int32 := b8 ((w >>> ((nI (8 * (nn - 1 - i))).toInt64 &&& 63)).toInt32)
section TY0
variable {g : mm_G} {B : mm_B} {I : mm_TI} {J : mm_TJ} {P : mm_TP} {x m o n k : Nat}
theorem cl_type_b {w : Int64} {c : Int32} (hV : lyV B P x) (hc : ¬ (nI 1 ≤ c ∧ c ≤ nI 8)) : Ct g mX11_type [.ref x, .long w, .int c] B I J P (some (.int (-1)), B, vst I x (-1), J, P) := by
  refine ct_of (lv := [some (.ref x), some (.long w), none, some (.int c), none]) (by decide +kernel) (Nat.le_of_ble_eq_true rfl) rfl ?_
  refine ev_aload_n 1 dX11_type_0 rfl rfl ?_
  refine ev_iconstN 2 0 dX11_type_1 rfl ?_
  refine ev_putI 5 mm_cl11 (j := 9) (Nat.le_of_ble_eq_true rfl) dX11_type_2 lk270 rfl (fun _ _ _ => rfl) rfl rfl (hV.1 0 _ rfl) rfl ?_
  refine ev_iload_n 6 dX11_type_5 rfl rfl ?_
  refine ev_iconstN 7 1 dX11_type_6 rfl ?_
  refine ev_icmp_lt 10 16 dX11_type_7 (by decide) rfl (fun h1 => ?_) (fun h1 => ?_)
  · refine ev_aload_n 17 dX11_type_16 rfl rfl ?_
    refine ev_iconst 18 (v := -1) dX11_type_17 (by decide +kernel) rfl ?_
    refine ev_invV 21 (Mc := mX11_refuse) ⟨lk303, lk75, hdX11_refuse, (Nat.le_of_ble_eq_true rfl), (Nat.le_of_ble_eq_true rfl)⟩ lk300 lk302 lk0 mm_cl11 rfl dX11_type_18 (ct_refuse hV) rfl (hV.1 0 _ rfl) (Nat.le_of_ble_eq_true rfl) rfl rfl ?_
    exact ev_iret dX11_type_21 rfl (rfl)
  · refine ev_iload_n 11 dX11_type_10 rfl rfl ?_
    refine ev_bipushN 13 8 dX11_type_11 (by decide +kernel) rfl ?_
    refine ev_icmp_le 16 22 dX11_type_13 (by decide) rfl (fun hx => absurd hx ((fun h2 => hc ⟨Int32.not_lt.mp h1, h2⟩))) (fun hbr => ?_)
    refine ev_aload_n 17 dX11_type_16 rfl rfl ?_
    refine ev_iconst 18 (v := -1) dX11_type_17 (by decide +kernel) rfl ?_
    refine ev_invV 21 (Mc := mX11_refuse) ⟨lk303, lk75, hdX11_refuse, (Nat.le_of_ble_eq_true rfl), (Nat.le_of_ble_eq_true rfl)⟩ lk300 lk302 lk0 mm_cl11 rfl dX11_type_18 (ct_refuse hV) rfl (hV.1 0 _ rfl) (Nat.le_of_ble_eq_true rfl) rfl rfl ?_
    exact ev_iret dX11_type_21 rfl (rfl)
theorem cl_type_u {w : Int64} {nn t : Nat} (hV : lyV B P x) (h1 : 1 ≤ nn) (h2 : nn ≤ 8) (ht : I x 6 = nI t) (h6 : t ≤ 64) (hu : 64 < t + nn) : Ct g mX11_type [.ref x, .long w, .int (nI nn)] B I J P (some (.int (-3)), B, vst I x (-3), J, P) := by
  refine ct_of (lv := [some (.ref x), some (.long w), none, some (.int (nI nn)), none]) (by decide +kernel) (Nat.le_of_ble_eq_true rfl) rfl ?_
  refine ev_aload_n 1 dX11_type_0 rfl rfl ?_
  refine ev_iconstN 2 0 dX11_type_1 rfl ?_
  refine ev_putI 5 mm_cl11 (j := 9) (Nat.le_of_ble_eq_true rfl) dX11_type_2 lk270 rfl (fun _ _ _ => rfl) rfl rfl (hV.1 0 _ rfl) rfl ?_
  refine ev_iload_n 6 dX11_type_5 rfl rfl ?_
  refine ev_iconstN 7 1 dX11_type_6 rfl ?_
  refine ev_icmp_ltN 10 16 dX11_type_7 (by decide) (by omega) (by omega) rfl (fun hx => absurd hx ((by omega))) (fun hbr => ?_)
  refine ev_iload_n 11 dX11_type_10 rfl rfl ?_
  refine ev_bipushN 13 8 dX11_type_11 (by decide +kernel) rfl ?_
  refine ev_icmp_leN 16 22 dX11_type_13 (by decide) (by omega) (by omega) rfl (fun hbr => ?_) (fun hx => absurd ((by omega)) hx)
  refine ev_iload_n 23 dX11_type_22 rfl rfl ?_
  refine ev_bipushN 25 64 dX11_type_23 (by decide +kernel) rfl ?_
  refine ev_aload_n 26 dX11_type_25 rfl rfl ?_
  refine ev_getI 29 mm_cl11 (j := 6) (Nat.le_of_ble_eq_true rfl) dX11_type_26 lk267 (fun _ _ _ => rfl) (hV.1 0 _ rfl) rfl ?_
  refine ev_eqI (y := nI (t)) ((vzx ht (by omega))) ?_
  refine ev_isubN 30 dX11_type_29 (by omega) rfl ?_
  refine ev_icmp_leN 33 40 dX11_type_30 (by decide) (by omega) (by omega) rfl (fun hx => absurd hx ((by omega))) (fun hbr => ?_)
  refine ev_aload_n 34 dX11_type_33 rfl rfl ?_
  refine ev_bipush 36 (v := -3) dX11_type_34 (by decide +kernel) rfl ?_
  refine ev_invV 39 (Mc := mX11_refuse) ⟨lk303, lk75, hdX11_refuse, (Nat.le_of_ble_eq_true rfl), (Nat.le_of_ble_eq_true rfl)⟩ lk300 lk302 lk0 mm_cl11 rfl dX11_type_36 (ct_refuse hV) rfl (hV.1 0 _ rfl) (Nat.le_of_ble_eq_true rfl) rfl rfl ?_
  exact ev_iret dX11_type_39 rfl (rfl)
theorem lx_type {w : Int64} {nn t : Nat} {I0 : mm_TI} (hV : lyV B P x) (h2 : nn ≤ 8) (h6 : t + nn ≤ 64) : ∀ (d i : Nat), i + d = nn →
    Ev g mX11_type 45 [some (.ref x), some (.long w), none, some (.int (nI nn)), some (.int ((nI d - nI 1)))] [] B (va_up (va_up I0 (x + 20) (sgp (I0 (x + 20)) t i (tyv w nn))) x (va_up (I0 x) 6 (nI (t + i)))) J P (some (.int (nI (t + nn))), B, va_up (va_up I0 (x + 20) (sgp (I0 (x + 20)) t nn (tyv w nn))) x (va_up (I0 x) 6 (nI (t + nn))), J, P) := by
  intro d
  induction d with
  | zero =>
    intro i hi
    obtain rfl : i = nn := by omega
    refine ev_iload 47 dX11_type_45 rfl rfl ?_
    refine ev_if_lt 50 84 dX11_type_47 (by decide) rfl (fun hbr => ?_) (fun hx => absurd (nI_01) hx)
    refine ev_aload_n 85 dX11_type_84 rfl rfl ?_
    refine ev_getI 88 mm_cl11 (j := 6) (Nat.le_of_ble_eq_true rfl) dX11_type_85 lk267 (fun _ _ _ => rfl) (hV.1 0 _ rfl) rfl ?_
    refine ev_eqI (y := nI ((t+i))) ((by rw [va_up_s, va_up_s])) ?_
    exact ev_iret dX11_type_88 rfl (rfl)
  | succ d ih =>
    intro i hi
    have e := ih (i + 1) (by omega)
    rw [nI_s1]
    generalize hIi : va_up (va_up I0 (x + 20) (sgp (I0 (x + 20)) t i (tyv w nn))) x (va_up (I0 x) 6 (nI (t + i))) = Ii
    have f6 : Ii x 6 = nI (t + i) := by rw [← hIi, va_up_s, va_up_s]
    have g6 : va_up Ii (x + 20) (va_up (Ii (x + 20)) (t + i) (tyv w nn i)) x = Ii x := va_up_n _ _ (by omega)
    have e8 : (tyv w nn i).toInt8.toInt32 = tyv w nn i := b8_b8 _
    refine ev_iload 47 dX11_type_45 rfl rfl ?_
    refine ev_if_ltN 50 84 dX11_type_47 (by decide) (by omega) rfl (fun hx => absurd hx (not_false)) (fun hbr => ?_)
    refine ev_aload_n 51 dX11_type_50 rfl rfl ?_
    refine ev_getP 54 mm_cl11 (j := 5) (Nat.le_of_ble_eq_true rfl) dX11_type_51 lk266 (fun _ _ _ => rfl) (hV.1 0 _ rfl) (a := (x + 20)) (hV.2.2 4 _ _ _ rfl) rfl ?_
    refine ev_aload_n 55 dX11_type_54 rfl rfl ?_
    refine ev_getI 58 mm_cl11 (j := 6) (Nat.le_of_ble_eq_true rfl) dX11_type_55 lk267 (fun _ _ _ => rfl) (hV.1 0 _ rfl) rfl ?_
    refine ev_eqI (y := nI ((t+i))) (f6) ?_
    refine ev_lload_n 59 dX11_type_58 rfl rfl ?_
    refine ev_bipushN 61 8 dX11_type_59 (by decide +kernel) rfl ?_
    refine ev_iload 63 dX11_type_61 rfl rfl ?_
    refine ev_imulN 64 dX11_type_63 rfl ?_
    refine ev_lshr 65 dX11_type_64 rfl ?_
    refine ev_l2i 66 dX11_type_65 rfl ?_
    refine ev_i2b 67 dX11_type_66 rfl ?_
    refine ev_eqI (y := ((tyv w nn i))) ((by unfold tyv; rw [show nn - 1 - i = d by omega]; rfl)) ?_
    refine ev_bast 68 _ dX11_type_67 (hV.1 20 _ rfl) rfl (by have hNN := hV.2.1 20 _ rfl; omega) rfl ?_
    rw [e8]
    refine ev_aload_n 69 dX11_type_68 rfl rfl ?_
    refine ev_dup 70 dX11_type_69 rfl rfl ?_
    refine ev_getI 73 mm_cl11 (j := 6) (Nat.le_of_ble_eq_true rfl) dX11_type_70 lk267 (fun _ _ _ => rfl) (hV.1 0 _ rfl) rfl ?_
    refine ev_eqI (y := nI ((t+i))) ((by rw [g6]; exact f6)) ?_
    refine ev_iconstN 74 1 dX11_type_73 rfl ?_
    refine ev_iaddN 75 dX11_type_74 rfl ?_
    refine ev_putI 78 mm_cl11 (j := 6) (Nat.le_of_ble_eq_true rfl) dX11_type_75 lk267 rfl (fun _ _ _ => rfl) rfl rfl (hV.1 0 _ rfl) rfl ?_
    rw [g6, ← hIi, va_up_n _ _ (show x + 20 ≠ x by omega), va_up_s, va_up_s, bx_uu, sgp_grow rfl, va_3 _ _ _ _ (by omega), va_3 _ _ _ _ (by omega)]
    refine ev_iinc 81 (lv' := [_, _, _, some (.int _), _]) dX11_type_78 rfl rfl (Nat.le_of_ble_eq_true rfl) rfl rfl ?_
    refine ev_goto 45 dX11_type_81 (by decide) ?_
    rw [nI_m1]
    exact e
theorem cl_type_t {w : Int64} {nn t : Nat} (hV : lyV B P x) (h1 : 1 ≤ nn) (h2 : nn ≤ 8) (ht : I x 6 = nI t) (h6 : t + nn ≤ 64) : Ct g mX11_type [.ref x, .long w, .int (nI nn)] B I J P (some (.int (nI (t + nn))), B, va_up (va_up (vz I x) (x + 20) (sgp (I (x + 20)) t nn (tyv w nn))) x (va_up (vz I x x) 6 (nI (t + nn))), J, P) := by
  have e := lx_type (g := g) (J := J) (w := w) (I0 := vz I x) hV h2 h6 nn 0 (by omega)
  have e6 : vz I x x 6 = nI t := vzx ht (by omega)
  rw [sgp_0, va_up_id, show nI (t + 0) = vz I x x 6 from e6.symm, va_up_id, va_up_id, show vz I x (x + 20) = I (x + 20) from va_up_n _ _ (by omega)] at e
  refine ct_of (lv := [some (.ref x), some (.long w), none, some (.int (nI nn)), none]) (by decide +kernel) (Nat.le_of_ble_eq_true rfl) rfl ?_
  refine ev_aload_n 1 dX11_type_0 rfl rfl ?_
  refine ev_iconstN 2 0 dX11_type_1 rfl ?_
  refine ev_putI 5 mm_cl11 (j := 9) (Nat.le_of_ble_eq_true rfl) dX11_type_2 lk270 rfl (fun _ _ _ => rfl) rfl rfl (hV.1 0 _ rfl) rfl ?_
  refine ev_iload_n 6 dX11_type_5 rfl rfl ?_
  refine ev_iconstN 7 1 dX11_type_6 rfl ?_
  refine ev_icmp_ltN 10 16 dX11_type_7 (by decide) (by omega) (by omega) rfl (fun hx => absurd hx ((by omega))) (fun hbr => ?_)
  refine ev_iload_n 11 dX11_type_10 rfl rfl ?_
  refine ev_bipushN 13 8 dX11_type_11 (by decide +kernel) rfl ?_
  refine ev_icmp_leN 16 22 dX11_type_13 (by decide) (by omega) (by omega) rfl (fun hbr => ?_) (fun hx => absurd ((by omega)) hx)
  refine ev_iload_n 23 dX11_type_22 rfl rfl ?_
  refine ev_bipushN 25 64 dX11_type_23 (by decide +kernel) rfl ?_
  refine ev_aload_n 26 dX11_type_25 rfl rfl ?_
  refine ev_getI 29 mm_cl11 (j := 6) (Nat.le_of_ble_eq_true rfl) dX11_type_26 lk267 (fun _ _ _ => rfl) (hV.1 0 _ rfl) rfl ?_
  refine ev_eqI (y := nI (t)) (e6) ?_
  refine ev_isubN 30 dX11_type_29 (by omega) rfl ?_
  refine ev_icmp_leN 33 40 dX11_type_30 (by decide) (by omega) (by omega) rfl (fun hbr => ?_) (fun hx => absurd ((by omega)) hx)
  refine ev_iload_n 41 dX11_type_40 rfl rfl ?_
  refine ev_iconstN 42 1 dX11_type_41 rfl ?_
  refine ev_isub 43 dX11_type_42 rfl ?_
  refine ev_istore 45 (lv' := [_, _, _, some (.int _), _]) dX11_type_43 (Nat.le_of_ble_eq_true rfl) rfl rfl ?_
  exact e
theorem ml_type_b {w : Int64} {c : Int32} (hM : lyM B P m) (hc : ¬ (nI 1 ≤ c ∧ c ≤ nI 8)) : Ct g mX12_type [.ref m, .long w, .int c] B I J P (some (.int (-1)), B, mo_st I m (-1), J, P) := by
  refine ct_of (lv := [some (.ref m), some (.long w), none, some (.int c), none]) (by decide +kernel) (Nat.le_of_ble_eq_true rfl) rfl ?_
  refine ev_iload_n 1 dX12_type_0 rfl rfl ?_
  refine ev_iconstN 2 1 dX12_type_1 rfl ?_
  refine ev_bipushN 4 8 dX12_type_2 (by decide +kernel) rfl ?_
  refine ev_invS 7 (Mc := mX12_in) ⟨lk1536, lk80, hdX12_in, (Nat.le_of_ble_eq_true rfl), (Nat.le_of_ble_eq_true rfl)⟩ lk1534 lk1535 dX12_type_4 (ct_X12_in_f hc) rfl (Nat.le_of_ble_eq_true rfl) rfl rfl ?_
  refine ev_if_neN 10 16 dX12_type_7 (by decide) (by omega) rfl (fun hx => absurd ((by omega)) hx) (fun hbr => ?_)
  refine ev_aload_n 11 dX12_type_10 rfl rfl ?_
  refine ev_iconst 12 (v := -1) dX12_type_11 (by decide +kernel) rfl ?_
  refine ev_invV 15 (Mc := mX12_refused) ⟨lk1540, lk80, hdX12_refused, (Nat.le_of_ble_eq_true rfl), (Nat.le_of_ble_eq_true rfl)⟩ lk1537 lk1539 lk38 mm_cl12 rfl dX12_type_12 (ct_X12_refused hM) rfl (hM.1 0 _ rfl) (Nat.le_of_ble_eq_true rfl) rfl rfl ?_
  exact ev_iret dX12_type_15 rfl (rfl)
theorem ml_type_u {w : Int64} {nn t : Nat} (hM : lyM B P m) (h1 : 1 ≤ nn) (h2 : nn ≤ 8) (ht : I m 7 = nI t) (h6 : t ≤ 64) (hu : 64 < t + nn) : Ct g mX12_type [.ref m, .long w, .int (nI nn)] B I J P (some (.int (-3)), B, mo_st I m (-3), J, P) := by
  refine ct_of (lv := [some (.ref m), some (.long w), none, some (.int (nI nn)), none]) (by decide +kernel) (Nat.le_of_ble_eq_true rfl) rfl ?_
  refine ev_iload_n 1 dX12_type_0 rfl rfl ?_
  refine ev_iconstN 2 1 dX12_type_1 rfl ?_
  refine ev_bipushN 4 8 dX12_type_2 (by decide +kernel) rfl ?_
  refine ev_invS 7 (Mc := mX12_in) ⟨lk1536, lk80, hdX12_in, (Nat.le_of_ble_eq_true rfl), (Nat.le_of_ble_eq_true rfl)⟩ lk1534 lk1535 dX12_type_4 (ct_X12_in_t (in_t h1 h2 (by omega))) rfl (Nat.le_of_ble_eq_true rfl) rfl rfl ?_
  refine ev_if_neN 10 16 dX12_type_7 (by decide) (by omega) rfl (fun hbr => ?_) (fun hx => absurd hx ((by omega)))
  refine ev_aload_n 17 dX12_type_16 rfl rfl ?_
  refine ev_getI 20 mm_cl12 (j := 7) (Nat.le_of_ble_eq_true rfl) dX12_type_17 lk1292 (fun _ _ _ => rfl) (hM.1 0 _ rfl) rfl ?_
  refine ev_eqI (y := nI (t)) (ht) ?_
  refine ev_iload_n 21 dX12_type_20 rfl rfl ?_
  refine ev_iaddN 22 dX12_type_21 rfl ?_
  refine ev_bipushN 24 64 dX12_type_22 (by decide +kernel) rfl ?_
  refine ev_icmp_leN 27 34 dX12_type_24 (by decide) (by omega) (by omega) rfl (fun hx => absurd hx ((by omega))) (fun hbr => ?_)
  refine ev_aload_n 28 dX12_type_27 rfl rfl ?_
  refine ev_bipush 30 (v := -3) dX12_type_28 (by decide +kernel) rfl ?_
  refine ev_invV 33 (Mc := mX12_refused) ⟨lk1540, lk80, hdX12_refused, (Nat.le_of_ble_eq_true rfl), (Nat.le_of_ble_eq_true rfl)⟩ lk1537 lk1539 lk38 mm_cl12 rfl dX12_type_30 (ct_X12_refused hM) rfl (hM.1 0 _ rfl) (Nat.le_of_ble_eq_true rfl) rfl rfl ?_
  exact ev_iret dX12_type_33 rfl (rfl)
theorem lx_mtype {w : Int64} {nn t : Nat} {I0 : mm_TI} (hM : lyM B P m) (h2 : nn ≤ 8) (h6 : t + nn ≤ 64) : ∀ (d i : Nat), i + d = nn →
    Ev g mX12_type 39 [some (.ref m), some (.long w), none, some (.int (nI nn)), some (.int ((nI d - nI 1)))] [] B (va_up (va_up I0 (m + 3) (sgp (I0 (m + 3)) t i (tyv w nn))) m (va_up (I0 m) 7 (nI (t + i)))) J P (some (.int (nI (t + nn))), B, mo_st (va_up (va_up I0 (m + 3) (sgp (I0 (m + 3)) t nn (tyv w nn))) m (va_up (I0 m) 7 (nI (t + nn)))) m (nI 0), J, P) := by
  intro d
  induction d with
  | zero =>
    intro i hi
    obtain rfl : i = nn := by omega
    refine ev_iload 41 dX12_type_39 rfl rfl ?_
    refine ev_if_lt 44 78 dX12_type_41 (by decide) rfl (fun hbr => ?_) (fun hx => absurd (nI_01) hx)
    refine ev_aload_n 79 dX12_type_78 rfl rfl ?_
    refine ev_aload_n 80 dX12_type_79 rfl rfl ?_
    refine ev_getI 83 mm_cl12 (j := 7) (Nat.le_of_ble_eq_true rfl) dX12_type_80 lk1292 (fun _ _ _ => rfl) (hM.1 0 _ rfl) rfl ?_
    refine ev_eqI (y := nI ((t+i))) ((by rw [va_up_s, va_up_s])) ?_
    refine ev_invV 86 (Mc := mX12_done) ⟨lk1544, lk80, hdX12_done, (Nat.le_of_ble_eq_true rfl), (Nat.le_of_ble_eq_true rfl)⟩ lk1541 lk1543 lk39 mm_cl12 rfl dX12_type_83 (ct_X12_done hM) rfl (hM.1 0 _ rfl) (Nat.le_of_ble_eq_true rfl) rfl rfl ?_
    exact ev_iret dX12_type_86 rfl (rfl)
  | succ d ih =>
    intro i hi
    have e := ih (i + 1) (by omega)
    rw [nI_s1]
    generalize hIi : va_up (va_up I0 (m + 3) (sgp (I0 (m + 3)) t i (tyv w nn))) m (va_up (I0 m) 7 (nI (t + i))) = Ii
    have f6 : Ii m 7 = nI (t + i) := by rw [← hIi, va_up_s, va_up_s]
    have g6 : va_up Ii (m + 3) (va_up (Ii (m + 3)) (t + i) (tyv w nn i)) m = Ii m := va_up_n _ _ (by omega)
    refine ev_iload 41 dX12_type_39 rfl rfl ?_
    refine ev_if_ltN 44 78 dX12_type_41 (by decide) (by omega) rfl (fun hx => absurd hx (not_false)) (fun hbr => ?_)
    refine ev_aload_n 45 dX12_type_44 rfl rfl ?_
    refine ev_getP 48 mm_cl12 (j := 6) (Nat.le_of_ble_eq_true rfl) dX12_type_45 lk1291 (fun _ _ _ => rfl) (hM.1 0 _ rfl) (a := (m + 3)) (hM.2.2 2 _ _ _ rfl) rfl ?_
    refine ev_aload_n 49 dX12_type_48 rfl rfl ?_
    refine ev_getI 52 mm_cl12 (j := 7) (Nat.le_of_ble_eq_true rfl) dX12_type_49 lk1292 (fun _ _ _ => rfl) (hM.1 0 _ rfl) rfl ?_
    refine ev_eqI (y := nI ((t+i))) (f6) ?_
    refine ev_lload_n 53 dX12_type_52 rfl rfl ?_
    refine ev_bipushN 55 8 dX12_type_53 (by decide +kernel) rfl ?_
    refine ev_iload 57 dX12_type_55 rfl rfl ?_
    refine ev_imulN 58 dX12_type_57 rfl ?_
    refine ev_lshr 59 dX12_type_58 rfl ?_
    refine ev_l2i 60 dX12_type_59 rfl ?_
    refine ev_i2b 61 dX12_type_60 rfl ?_
    refine ev_eqI (y := ((tyv w nn i))) ((by unfold tyv; rw [show nn - 1 - i = d by omega]; rfl)) ?_
    refine ev_iast 62 _ dX12_type_61 (hM.1 3 _ rfl) rfl (by have hNN := hM.2.1 3 _ rfl; omega) rfl ?_
    refine ev_aload_n 63 dX12_type_62 rfl rfl ?_
    refine ev_dup 64 dX12_type_63 rfl rfl ?_
    refine ev_getI 67 mm_cl12 (j := 7) (Nat.le_of_ble_eq_true rfl) dX12_type_64 lk1292 (fun _ _ _ => rfl) (hM.1 0 _ rfl) rfl ?_
    refine ev_eqI (y := nI ((t+i))) ((by rw [g6]; exact f6)) ?_
    refine ev_iconstN 68 1 dX12_type_67 rfl ?_
    refine ev_iaddN 69 dX12_type_68 rfl ?_
    refine ev_putI 72 mm_cl12 (j := 7) (Nat.le_of_ble_eq_true rfl) dX12_type_69 lk1292 rfl (fun _ _ _ => rfl) rfl rfl (hM.1 0 _ rfl) rfl ?_
    rw [g6, ← hIi, va_up_n _ _ (show m + 3 ≠ m by omega), va_up_s, va_up_s, bx_uu, sgp_grow rfl, va_3 _ _ _ _ (by omega), va_3 _ _ _ _ (by omega)]
    refine ev_iinc 75 (lv' := [_, _, _, some (.int _), _]) dX12_type_72 rfl rfl (Nat.le_of_ble_eq_true rfl) rfl rfl ?_
    refine ev_goto 39 dX12_type_75 (by decide) ?_
    rw [nI_m1]
    exact e
theorem ml_type_t {w : Int64} {nn t : Nat} (hM : lyM B P m) (h1 : 1 ≤ nn) (h2 : nn ≤ 8) (ht : I m 7 = nI t) (h6 : t + nn ≤ 64) : Ct g mX12_type [.ref m, .long w, .int (nI nn)] B I J P (some (.int (nI (t + nn))), B, mo_st (va_up (va_up I (m + 3) (sgp (I (m + 3)) t nn (tyv w nn))) m (va_up (I m) 7 (nI (t + nn)))) m (nI 0), J, P) := by
  have e := lx_mtype (g := g) (J := J) (w := w) (I0 := I) hM h2 h6 nn 0 (by omega)
  rw [sgp_0, va_up_id, show nI (t + 0) = I m 7 from ht.symm, va_up_id, va_up_id] at e
  refine ct_of (lv := [some (.ref m), some (.long w), none, some (.int (nI nn)), none]) (by decide +kernel) (Nat.le_of_ble_eq_true rfl) rfl ?_
  refine ev_iload_n 1 dX12_type_0 rfl rfl ?_
  refine ev_iconstN 2 1 dX12_type_1 rfl ?_
  refine ev_bipushN 4 8 dX12_type_2 (by decide +kernel) rfl ?_
  refine ev_invS 7 (Mc := mX12_in) ⟨lk1536, lk80, hdX12_in, (Nat.le_of_ble_eq_true rfl), (Nat.le_of_ble_eq_true rfl)⟩ lk1534 lk1535 dX12_type_4 (ct_X12_in_t (in_t h1 h2 (by omega))) rfl (Nat.le_of_ble_eq_true rfl) rfl rfl ?_
  refine ev_if_neN 10 16 dX12_type_7 (by decide) (by omega) rfl (fun hbr => ?_) (fun hx => absurd hx ((by omega)))
  refine ev_aload_n 17 dX12_type_16 rfl rfl ?_
  refine ev_getI 20 mm_cl12 (j := 7) (Nat.le_of_ble_eq_true rfl) dX12_type_17 lk1292 (fun _ _ _ => rfl) (hM.1 0 _ rfl) rfl ?_
  refine ev_eqI (y := nI (t)) (ht) ?_
  refine ev_iload_n 21 dX12_type_20 rfl rfl ?_
  refine ev_iaddN 22 dX12_type_21 rfl ?_
  refine ev_bipushN 24 64 dX12_type_22 (by decide +kernel) rfl ?_
  refine ev_icmp_leN 27 34 dX12_type_24 (by decide) (by omega) (by omega) rfl (fun hbr => ?_) (fun hx => absurd ((by omega)) hx)
  refine ev_iload_n 35 dX12_type_34 rfl rfl ?_
  refine ev_iconstN 36 1 dX12_type_35 rfl ?_
  refine ev_isub 37 dX12_type_36 rfl ?_
  refine ev_istore 39 (lv' := [_, _, _, some (.int _), _]) dX12_type_37 (Nat.le_of_ble_eq_true rfl) rfl rfl ?_
  exact e
end TY0
section TY1
variable {g : mm_G}
theorem jo_type {w : Int64} {c : Int32} : JO g mX11_type mX12_type [.long w, .int c] := by
  refine jo_mk fun K x m B I J P n R o fl φ ρ hK hR h => ?_
  obtain ⟨hV, hM, -⟩ := RG_ly h
  obtain ⟨h8, hx4, hm0⟩ := RG_n h
  obtain ⟨xm, mn⟩ := RC_xm h
  obtain ⟨t, t1, t2, t3, t4⟩ := RG_p h
  rcases in_cases (lo := 1) (hi := 8) (by omega) (by omega) c with ⟨nn, n1, n2, rfl⟩ | hc
  · by_cases hu : 64 < t + nn
    · exact Or.inl ⟨_, _, cl_type_u hV n1 n2 t2 t1 hu, fun I1 h1 => ml_type_u hM n1 n2 (by rw [h1 _ (by omega)]; exact t3) t1 hu⟩
    · right
      have h6 : t + nn ≤ 64 := by omega
      have cl := cl_type_t (g := g) (J := J) (w := w) hV n1 n2 t2 h6
      have v0 : ∀ q, q ≠ x → vz I x q = I q := fun q hq => va_up_n _ _ hq
      generalize hI1 : va_up (va_up (vz I x) (x + 20) (sgp (I (x + 20)) t nn (tyv w nn))) x (va_up (vz I x x) 6 (nI (t + nn))) = I1 at cl
      have g1 : ∀ q, q ≠ x → q ≠ x + 20 → I1 q = I q := fun q q1 q2 => by rw [← hI1, va_up_n _ _ q1, va_up_n _ _ q2, v0 _ q1]
      have gx : I1 x = va_up (va_up (I x) 9 (nI 0)) 6 (nI (t + nn)) := by rw [← hI1, va_up_s, show vz I x x = va_up (I x) 9 (nI 0) from va_up_s _ _ _]
      have g20 : I1 (x + 20) = sgp (I (x + 20)) t nn (tyv w nn) := by rw [← hI1, va_up_n _ _ (by omega), va_up_s]
      have ml := ml_type_t (g := g) (J := J) (w := w) (I := I1) hM n1 n2 (by rw [g1 m (by omega) (by omega)]; exact t3) h6
      generalize hI2 : mo_st (va_up (va_up I1 (m + 3) (sgp (I1 (m + 3)) t nn (tyv w nn))) m (va_up (I1 m) 7 (nI (t + nn)))) m (nI 0) = I2 at ml
      have g2 : ∀ q, q ≠ m → q ≠ m + 3 → I2 q = I1 q := fun q q1 q2 => by rw [← hI2]; exact (va_up_n _ _ q1).trans ((va_up_n _ _ q1).trans (va_up_n _ _ q2))
      have gm : I2 m = va_up (va_up (I m) 7 (nI (t + nn))) 1 (nI 0) := by
        rw [← hI2]; refine (va_up_s _ _ _).trans ?_
        rw [va_up_s, g1 m (by omega) (by omega)]
      have g3 : I2 (m + 3) = sgp (I (m + 3)) t nn (tyv w nn) := by
        rw [← hI2]; refine (va_up_n _ _ (by omega)).trans ?_
        rw [va_up_n _ _ (by omega), va_up_s, g1 _ (by omega) (by omega)]
      have fo : ∀ q, q ≠ x → q ≠ m → q ≠ x + 20 → q ≠ m + 3 → I2 q = I q := fun q a b c d => by rw [g2 q b d, g1 q a c]
      have fx : I2 x = va_up (va_up (I x) 9 (nI 0)) 6 (nI (t + nn)) := by rw [g2 x (by omega) (by omega), gx]
      have f20 : I2 (x + 20) = sgp (I (x + 20)) t nn (tyv w nn) := by rw [g2 _ (by omega) (by omega), g20]
      have ro := fun r hr => RC_row h (r := r) hr
      refine ⟨_, I1, J, I2, J, cl, ml, RC_gl h (RCg_mk h (Ext_rf B) h.1.1 hV hM (fun q hq => fo q (by omega) (by omega) (by omega) (by omega)) ⟨h8, by rw [fx, va_up_n _ _ (by omega), va_up_n _ _ (by omega)]; exact hx4, by rw [gm, va_up_n _ _ (by omega), va_up_n _ _ (by omega)]; exact hm0⟩ ⟨(RG_j h).1, fun i hi => by rw [fo (x + 2) (by omega) (by omega) (by omega) (by omega), fo (m + 1) (by omega) (by omega) (by omega) (by omega)]; exact (RG_j h).2 i hi⟩ (RGt_cg (RG_t h) (by rw [fo (x + 1) (by omega) (by omega) (by omega) (by omega)]) (by rw [gm, va_up_n _ _ (by omega), va_up_n _ _ (by omega)]) (fo _ (by omega) (by omega) (by omega) (by omega)) (fo _ (by omega) (by omega) (by omega) (by omega))) ⟨t + nn, h6, by rw [fx, va_up_s], by rw [gm, va_up_n _ _ (by omega), va_up_s], fun i hi => ?_⟩ (RGb_cg (RG_b h) (by rw [fx, va_up_n _ _ (by omega), va_up_n _ _ (by omega)]) (by rw [gm, va_up_n _ _ (by omega), va_up_n _ _ (by omega)]) (fo _ (by omega) (by omega) (by omega) (by omega)) (fo _ (by omega) (by omega) (by omega) (by omega))) (RGz_cg (RG_z h) (fun k k1 k2 => fo _ (by omega) (by omega) (by omega) (by omega)) rfl rfl) (RGr_cg (RG_r h) (Ext_rf B) (by rw [gm, va_up_n _ _ (by omega), va_up_n _ _ (by omega)]) (fun r hr => by have := ro r hr; exact fo _ (by omega) (by omega) (by omega) (by omega)) (fo _ (by omega) (by omega) (by omega) (by omega)) (fo _ (by omega) (by omega) (by omega) (by omega)) (fo _ (by omega) (by omega) (by omega) (by omega)))) (by rw [fx, gm, va_up_n _ _ (by omega), va_up_s, va_up_s]) (fun q a b => fo q (by omega) (by omega) (by omega) (by omega)) (fun _ _ _ => rfl), fun q hq => fo q (by omega) (by omega) (by omega) (by omega)⟩
      rw [f20, g3]
      by_cases e : i < t
      · rw [sgp_out (by omega), sgp_out (by omega)]; exact t4 i e
      · rw [show i = t + (i - t) by omega, sgp_in (by omega), sgp_in (by omega)]
        exact ⟨rfl, b8_b8 _⟩
  · exact Or.inl ⟨_, _, cl_type_b hV hc, fun I1 h1 => ml_type_b hM hc⟩
end TY1
