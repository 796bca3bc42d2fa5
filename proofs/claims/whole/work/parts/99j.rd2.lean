/-! READERS, more -/
section RE0
variable {g : mm_G} {B : mm_B} {I : mm_TI} {J : mm_TJ} {P : mm_TP} {x m o n k : Nat}
theorem nI_out {lo hi : Nat} {c : Int32} (hh : hi < 2 ^ 31) (hl : lo ≤ hi) (h : ¬ (nI lo ≤ c ∧ c ≤ nI hi)) : c.toInt < (lo : Int) ∨ (hi : Int) < c.toInt := by
  by_cases a : c.toInt < (lo : Int)
  · exact Or.inl a
  · right
    have h1 : nI lo ≤ c := Int32.le_iff_toInt_le.mpr (by rw [nI_toInt (by omega)]; omega)
    have h2 : ¬ c ≤ nI hi := fun e => h ⟨h1, e⟩
    have := Int32.lt_iff_toInt_lt.mp (Int32.not_le.mp h2)
    rw [nI_toInt hh] at this; exact this
theorem cl_told_0 {v : Int32} (hV : lyV B P x) (hv : I x 4 = v) : Ct g mX11_told [.ref x, .int (nI 0)] B I J P (some (.int v), B, vst I x (nI 0), J, P) := by
  refine ct_of (lv := [some (.ref x), some (.int (nI (0)))]) (by decide +kernel) (Nat.le_of_ble_eq_true rfl) rfl ?_
  refine ev_aload_n 1 dX11_told_0 rfl rfl ?_
  refine ev_iconstN 2 0 dX11_told_1 rfl ?_
  refine ev_putI 5 mm_cl11 (j := 9) (Nat.le_of_ble_eq_true rfl) dX11_told_2 lk270 rfl (fun _ _ _ => rfl) rfl rfl (hV.1 0 _ rfl) rfl ?_
  refine ev_iload_n 6 dX11_told_5 rfl rfl ?_
  refine ev_tableIn 36 dX11_told_6 (by decide) (by decide) rfl (by decide) ?_
  refine ev_aload_n 37 dX11_told_36 rfl rfl ?_
  refine ev_getI 40 mm_cl11 (j := 4) (Nat.le_of_ble_eq_true rfl) dX11_told_37 lk265 (fun _ _ _ => rfl) (hV.1 0 _ rfl) rfl ?_
  refine ev_eqI (y := (v)) ((vzx hv (by omega))) ?_
  exact ev_iret dX11_told_40 rfl (rfl)
theorem cl_told_1 {v : Int32} (hV : lyV B P x) (hv : I x 6 = v) : Ct g mX11_told [.ref x, .int (nI 1)] B I J P (some (.int v), B, vst I x (nI 0), J, P) := by
  refine ct_of (lv := [some (.ref x), some (.int (nI (1)))]) (by decide +kernel) (Nat.le_of_ble_eq_true rfl) rfl ?_
  refine ev_aload_n 1 dX11_told_0 rfl rfl ?_
  refine ev_iconstN 2 0 dX11_told_1 rfl ?_
  refine ev_putI 5 mm_cl11 (j := 9) (Nat.le_of_ble_eq_true rfl) dX11_told_2 lk270 rfl (fun _ _ _ => rfl) rfl rfl (hV.1 0 _ rfl) rfl ?_
  refine ev_iload_n 6 dX11_told_5 rfl rfl ?_
  refine ev_tableIn 41 dX11_told_6 (by decide) (by decide) rfl (by decide) ?_
  refine ev_aload_n 42 dX11_told_41 rfl rfl ?_
  refine ev_getI 45 mm_cl11 (j := 6) (Nat.le_of_ble_eq_true rfl) dX11_told_42 lk267 (fun _ _ _ => rfl) (hV.1 0 _ rfl) rfl ?_
  refine ev_eqI (y := (v)) ((vzx hv (by omega))) ?_
  exact ev_iret dX11_told_45 rfl (rfl)
theorem cl_told_2 {v : Int32} (hV : lyV B P x) (hv : I (x + 1) 2 = v) : Ct g mX11_told [.ref x, .int (nI 2)] B I J P (some (.int v), B, vst I x (nI 0), J, P) := by
  refine ct_of (lv := [some (.ref x), some (.int (nI (2)))]) (by decide +kernel) (Nat.le_of_ble_eq_true rfl) rfl ?_
  refine ev_aload_n 1 dX11_told_0 rfl rfl ?_
  refine ev_iconstN 2 0 dX11_told_1 rfl ?_
  refine ev_putI 5 mm_cl11 (j := 9) (Nat.le_of_ble_eq_true rfl) dX11_told_2 lk270 rfl (fun _ _ _ => rfl) rfl rfl (hV.1 0 _ rfl) rfl ?_
  refine ev_iload_n 6 dX11_told_5 rfl rfl ?_
  refine ev_tableIn 46 dX11_told_6 (by decide) (by decide) rfl (by decide) ?_
  refine ev_aload_n 47 dX11_told_46 rfl rfl ?_
  refine ev_getP 50 mm_cl11 (j := 0) (Nat.le_of_ble_eq_true rfl) dX11_told_47 lk261 (fun _ _ _ => rfl) (hV.1 0 _ rfl) (a := (x + 1)) (hV.2.2 0 _ _ _ rfl) rfl ?_
  refine ev_getI 53 mm_cl10 (j := 2) (Nat.le_of_ble_eq_true rfl) dX11_told_50 lk113 (fun _ _ _ => rfl) (hV.1 1 _ rfl) rfl ?_
  refine ev_eqI (y := (v)) ((vzk hv (by omega))) ?_
  exact ev_iret dX11_told_53 rfl (rfl)
theorem cl_told_3 {v : Int32} (hV : lyV B P x) (hv : I x 8 = v) : Ct g mX11_told [.ref x, .int (nI 3)] B I J P (some (.int v), B, vst I x (nI 0), J, P) := by
  refine ct_of (lv := [some (.ref x), some (.int (nI (3)))]) (by decide +kernel) (Nat.le_of_ble_eq_true rfl) rfl ?_
  refine ev_aload_n 1 dX11_told_0 rfl rfl ?_
  refine ev_iconstN 2 0 dX11_told_1 rfl ?_
  refine ev_putI 5 mm_cl11 (j := 9) (Nat.le_of_ble_eq_true rfl) dX11_told_2 lk270 rfl (fun _ _ _ => rfl) rfl rfl (hV.1 0 _ rfl) rfl ?_
  refine ev_iload_n 6 dX11_told_5 rfl rfl ?_
  refine ev_tableIn 54 dX11_told_6 (by decide) (by decide) rfl (by decide) ?_
  refine ev_aload_n 55 dX11_told_54 rfl rfl ?_
  refine ev_getI 58 mm_cl11 (j := 8) (Nat.le_of_ble_eq_true rfl) dX11_told_55 lk269 (fun _ _ _ => rfl) (hV.1 0 _ rfl) rfl ?_
  refine ev_eqI (y := (v)) ((vzx hv (by omega))) ?_
  exact ev_iret dX11_told_58 rfl (rfl)
theorem cl_told_f {c : Int32} (hV : lyV B P x) (hc : ¬ (nI 0 ≤ c ∧ c ≤ nI 3)) : Ct g mX11_told [.ref x, .int c] B I J P (some (.int (-1)), B, vst I x (-1), J, P) := by
  refine ct_of (lv := [some (.ref x), some (.int (c))]) (by decide +kernel) (Nat.le_of_ble_eq_true rfl) rfl ?_
  refine ev_aload_n 1 dX11_told_0 rfl rfl ?_
  refine ev_iconstN 2 0 dX11_told_1 rfl ?_
  refine ev_putI 5 mm_cl11 (j := 9) (Nat.le_of_ble_eq_true rfl) dX11_told_2 lk270 rfl (fun _ _ _ => rfl) rfl rfl (hV.1 0 _ rfl) rfl ?_
  refine ev_iload_n 6 dX11_told_5 rfl rfl ?_
  refine ev_tableOut 59 dX11_told_6 (nI_out (lo := 0) (hi := 3) (by omega) (by omega) hc) (by decide) ?_
  refine ev_aload_n 60 dX11_told_59 rfl rfl ?_
  refine ev_iconst 61 (v := -1) dX11_told_60 (by decide +kernel) rfl ?_
  refine ev_invV 64 (Mc := mX11_refuse) ⟨lk303, lk75, hdX11_refuse, (Nat.le_of_ble_eq_true rfl), (Nat.le_of_ble_eq_true rfl)⟩ lk300 lk302 lk0 mm_cl11 rfl dX11_told_61 (ct_refuse hV) rfl (hV.1 0 _ rfl) (Nat.le_of_ble_eq_true rfl) rfl rfl ?_
  exact ev_iret dX11_told_64 rfl (rfl)
theorem ml_told_0 {v : Int32} (hM : lyM B P m) (hv : I m 0 = v) : Ct g mX12_told [.ref m, .int (nI 0)] B I J P (some (.int v), B, mo_st I m (nI 0), J, P) := by
  refine ct_of (lv := [some (.ref m), some (.int (nI (0)))]) (by decide +kernel) (Nat.le_of_ble_eq_true rfl) rfl ?_
  refine ev_iload_n 1 dX12_told_0 rfl rfl ?_
  refine ev_tableIn 32 dX12_told_1 (by decide) (by decide) rfl (by decide) ?_
  refine ev_aload_n 33 dX12_told_32 rfl rfl ?_
  refine ev_aload_n 34 dX12_told_33 rfl rfl ?_
  refine ev_getI 37 mm_cl12 (j := 0) (Nat.le_of_ble_eq_true rfl) dX12_told_34 lk1285 (fun _ _ _ => rfl) (hM.1 0 _ rfl) rfl ?_
  refine ev_eqI (y := (v)) (hv) ?_
  refine ev_invV 40 (Mc := mX12_done) ⟨lk1544, lk80, hdX12_done, (Nat.le_of_ble_eq_true rfl), (Nat.le_of_ble_eq_true rfl)⟩ lk1541 lk1543 lk39 mm_cl12 rfl dX12_told_37 (ct_X12_done hM) rfl (hM.1 0 _ rfl) (Nat.le_of_ble_eq_true rfl) rfl rfl ?_
  exact ev_iret dX12_told_40 rfl (rfl)
theorem ml_told_1 {v : Int32} (hM : lyM B P m) (hv : I m 7 = v) : Ct g mX12_told [.ref m, .int (nI 1)] B I J P (some (.int v), B, mo_st I m (nI 0), J, P) := by
  refine ct_of (lv := [some (.ref m), some (.int (nI (1)))]) (by decide +kernel) (Nat.le_of_ble_eq_true rfl) rfl ?_
  refine ev_iload_n 1 dX12_told_0 rfl rfl ?_
  refine ev_tableIn 41 dX12_told_1 (by decide) (by decide) rfl (by decide) ?_
  refine ev_aload_n 42 dX12_told_41 rfl rfl ?_
  refine ev_aload_n 43 dX12_told_42 rfl rfl ?_
  refine ev_getI 46 mm_cl12 (j := 7) (Nat.le_of_ble_eq_true rfl) dX12_told_43 lk1292 (fun _ _ _ => rfl) (hM.1 0 _ rfl) rfl ?_
  refine ev_eqI (y := (v)) (hv) ?_
  refine ev_invV 49 (Mc := mX12_done) ⟨lk1544, lk80, hdX12_done, (Nat.le_of_ble_eq_true rfl), (Nat.le_of_ble_eq_true rfl)⟩ lk1541 lk1543 lk39 mm_cl12 rfl dX12_told_46 (ct_X12_done hM) rfl (hM.1 0 _ rfl) (Nat.le_of_ble_eq_true rfl) rfl rfl ?_
  exact ev_iret dX12_told_49 rfl (rfl)
theorem ml_told_2 {v : Int32} (hM : lyM B P m) (hv : I m 5 = v) : Ct g mX12_told [.ref m, .int (nI 2)] B I J P (some (.int v), B, mo_st I m (nI 0), J, P) := by
  refine ct_of (lv := [some (.ref m), some (.int (nI (2)))]) (by decide +kernel) (Nat.le_of_ble_eq_true rfl) rfl ?_
  refine ev_iload_n 1 dX12_told_0 rfl rfl ?_
  refine ev_tableIn 50 dX12_told_1 (by decide) (by decide) rfl (by decide) ?_
  refine ev_aload_n 51 dX12_told_50 rfl rfl ?_
  refine ev_aload_n 52 dX12_told_51 rfl rfl ?_
  refine ev_getI 55 mm_cl12 (j := 5) (Nat.le_of_ble_eq_true rfl) dX12_told_52 lk1290 (fun _ _ _ => rfl) (hM.1 0 _ rfl) rfl ?_
  refine ev_eqI (y := (v)) (hv) ?_
  refine ev_invV 58 (Mc := mX12_done) ⟨lk1544, lk80, hdX12_done, (Nat.le_of_ble_eq_true rfl), (Nat.le_of_ble_eq_true rfl)⟩ lk1541 lk1543 lk39 mm_cl12 rfl dX12_told_55 (ct_X12_done hM) rfl (hM.1 0 _ rfl) (Nat.le_of_ble_eq_true rfl) rfl rfl ?_
  exact ev_iret dX12_told_58 rfl (rfl)
theorem ml_told_3 {v : Int32} (hM : lyM B P m) (hv : I m 9 = v) : Ct g mX12_told [.ref m, .int (nI 3)] B I J P (some (.int v), B, mo_st I m (nI 0), J, P) := by
  refine ct_of (lv := [some (.ref m), some (.int (nI (3)))]) (by decide +kernel) (Nat.le_of_ble_eq_true rfl) rfl ?_
  refine ev_iload_n 1 dX12_told_0 rfl rfl ?_
  refine ev_tableIn 59 dX12_told_1 (by decide) (by decide) rfl (by decide) ?_
  refine ev_aload_n 60 dX12_told_59 rfl rfl ?_
  refine ev_aload_n 61 dX12_told_60 rfl rfl ?_
  refine ev_getI 64 mm_cl12 (j := 9) (Nat.le_of_ble_eq_true rfl) dX12_told_61 lk1294 (fun _ _ _ => rfl) (hM.1 0 _ rfl) rfl ?_
  refine ev_eqI (y := (v)) (hv) ?_
  refine ev_invV 67 (Mc := mX12_done) ⟨lk1544, lk80, hdX12_done, (Nat.le_of_ble_eq_true rfl), (Nat.le_of_ble_eq_true rfl)⟩ lk1541 lk1543 lk39 mm_cl12 rfl dX12_told_64 (ct_X12_done hM) rfl (hM.1 0 _ rfl) (Nat.le_of_ble_eq_true rfl) rfl rfl ?_
  exact ev_iret dX12_told_67 rfl (rfl)
theorem ml_told_f {c : Int32} (hM : lyM B P m) (hc : ¬ (nI 0 ≤ c ∧ c ≤ nI 3)) : Ct g mX12_told [.ref m, .int c] B I J P (some (.int (-1)), B, mo_st I m (-1), J, P) := by
  refine ct_of (lv := [some (.ref m), some (.int (c))]) (by decide +kernel) (Nat.le_of_ble_eq_true rfl) rfl ?_
  refine ev_iload_n 1 dX12_told_0 rfl rfl ?_
  refine ev_tableOut 68 dX12_told_1 (nI_out (lo := 0) (hi := 3) (by omega) (by omega) hc) (by decide) ?_
  refine ev_aload_n 69 dX12_told_68 rfl rfl ?_
  refine ev_iconst 70 (v := -1) dX12_told_69 (by decide +kernel) rfl ?_
  refine ev_invV 73 (Mc := mX12_refused) ⟨lk1540, lk80, hdX12_refused, (Nat.le_of_ble_eq_true rfl), (Nat.le_of_ble_eq_true rfl)⟩ lk1537 lk1539 lk38 mm_cl12 rfl dX12_told_70 (ct_X12_refused hM) rfl (hM.1 0 _ rfl) (Nat.le_of_ble_eq_true rfl) rfl rfl ?_
  exact ev_iret dX12_told_73 rfl (rfl)
theorem cl_out_f {c i : Int32} (hV : lyV B P x) (hx : I x 4 = nI n) (hc : ¬ (0 ≤ c ∧ c < nI n)) : Ct g mX11_out [.ref x, .int c, .int i] B I J P (some (.int (-2147483648)), B, vst I x (-1), J, P) := by
  refine ct_of (lv := [some (.ref x), some (.int (c)), some (.int (i)), none]) (by decide +kernel) (Nat.le_of_ble_eq_true rfl) rfl ?_
  refine ev_aload_n 1 dX11_out_0 rfl rfl ?_
  refine ev_iconstN 2 0 dX11_out_1 rfl ?_
  refine ev_putI 5 mm_cl11 (j := 9) (Nat.le_of_ble_eq_true rfl) dX11_out_2 lk270 rfl (fun _ _ _ => rfl) rfl rfl (hV.1 0 _ rfl) rfl ?_
  refine ev_aload_n 6 dX11_out_5 rfl rfl ?_
  refine ev_iload_n 7 dX11_out_6 rfl rfl ?_
  refine ev_invV 10 (Mc := mX11_coderAt) ⟨lk570, lk75, hdX11_coderAt, (Nat.le_of_ble_eq_true rfl), (Nat.le_of_ble_eq_true rfl)⟩ lk567 lk569 lk1 mm_cl11 rfl dX11_out_7 (ca_f hV hx hc) rfl (hV.1 0 _ rfl) (Nat.le_of_ble_eq_true rfl) rfl rfl ?_
  refine ev_astore_nN 11 (lv' := [_, _, some (.int _), _]) dX11_out_10 (Nat.le_of_ble_eq_true rfl) rfl rfl ?_
  refine ev_aload_nN 12 dX11_out_11 rfl rfl ?_
  refine ev_ifnonnull_n 15 dX11_out_12 rfl ?_
  refine ev_aload_n 16 dX11_out_15 rfl rfl ?_
  refine ev_invV 19 (Mc := mX11_unknown) ⟨lk1177, lk75, hdX11_unknown, (Nat.le_of_ble_eq_true rfl), (Nat.le_of_ble_eq_true rfl)⟩ lk1174 lk1176 lk35 mm_cl11 rfl dX11_out_16 (ct_unknown hV) rfl (hV.1 0 _ rfl) (Nat.le_of_ble_eq_true rfl) rfl rfl ?_
  refine ev_goto 41 dX11_out_19 (by decide) ?_
  exact ev_iret dX11_out_41 rfl (rfl)
theorem cl_out_b {ot : Nat} {i : Int32} (h : CA B I P x o n k) (ho : I (o + 17) 6 = nI ot) (hi : ¬ (0 ≤ i ∧ i < nI ot)) : Ct g mX11_out [.ref x, .int (nI k), .int i] B I J P (some (.int (-2147483648)), B, vst I x (-1), J, P) := by
  have ca := ca_t (g := g) (J := J) h
  obtain ⟨hV, hC, hxo, hx, h8, hk, hP⟩ := h
  refine ct_of (lv := [some (.ref x), some (.int (nI (k))), some (.int (i)), none]) (by decide +kernel) (Nat.le_of_ble_eq_true rfl) rfl ?_
  refine ev_aload_n 1 dX11_out_0 rfl rfl ?_
  refine ev_iconstN 2 0 dX11_out_1 rfl ?_
  refine ev_putI 5 mm_cl11 (j := 9) (Nat.le_of_ble_eq_true rfl) dX11_out_2 lk270 rfl (fun _ _ _ => rfl) rfl rfl (hV.1 0 _ rfl) rfl ?_
  refine ev_aload_n 6 dX11_out_5 rfl rfl ?_
  refine ev_iload_n 7 dX11_out_6 rfl rfl ?_
  refine ev_invV 10 (Mc := mX11_coderAt) ⟨lk570, lk75, hdX11_coderAt, (Nat.le_of_ble_eq_true rfl), (Nat.le_of_ble_eq_true rfl)⟩ lk567 lk569 lk1 mm_cl11 rfl dX11_out_7 (ca) rfl (hV.1 0 _ rfl) (Nat.le_of_ble_eq_true rfl) rfl rfl ?_
  refine ev_astore_n 11 (lv' := [_, _, some (.int _), _]) dX11_out_10 (Nat.le_of_ble_eq_true rfl) rfl rfl ?_
  refine ev_aload_n 12 dX11_out_11 rfl rfl ?_
  refine ev_ifnonnull_r 22 dX11_out_12 (by decide) ?_
  refine ev_aload_n 23 dX11_out_22 rfl rfl ?_
  refine ev_aload_n 24 dX11_out_23 rfl rfl ?_
  refine ev_getP 27 mm_cl0 (j := 4) (Nat.le_of_ble_eq_true rfl) dX11_out_24 lk551 (fun _ _ _ => rfl) (hC.1 0 _ rfl) (a := (o + 17)) (hC.2.2.1 3 _ _ _ rfl) rfl ?_
  refine ev_getP 30 mm_cl1 (j := 5) (Nat.le_of_ble_eq_true rfl) dX11_out_27 lk480 (fun _ _ _ => rfl) (hC.1 17 _ rfl) (a := (o + 28)) (hC.2.2.1 16 _ _ _ rfl) rfl ?_
  refine ev_aload_n 31 dX11_out_30 rfl rfl ?_
  refine ev_getP 34 mm_cl0 (j := 4) (Nat.le_of_ble_eq_true rfl) dX11_out_31 lk551 (fun _ _ _ => rfl) (hC.1 0 _ rfl) (a := (o + 17)) (hC.2.2.1 3 _ _ _ rfl) rfl ?_
  refine ev_getI 37 mm_cl1 (j := 6) (Nat.le_of_ble_eq_true rfl) dX11_out_34 lk482 (fun _ _ _ => rfl) (hC.1 17 _ rfl) rfl ?_
  refine ev_eqI (y := nI (ot)) ((vzk ho (by omega))) ?_
  refine ev_iload_n 38 dX11_out_37 rfl rfl ?_
  refine ev_invV 41 (Mc := mX11_entry) ⟨lk1181, lk75, hdX11_entry, (Nat.le_of_ble_eq_true rfl), (Nat.le_of_ble_eq_true rfl)⟩ lk1178 lk1180 lk36 mm_cl11 rfl dX11_out_38 (ct_entry_f (hC.1 28 _ rfl) hi hV) rfl (hV.1 0 _ rfl) (Nat.le_of_ble_eq_true rfl) rfl rfl ?_
  exact ev_iret dX11_out_41 rfl (rfl)
theorem cl_out_t {ot i : Nat} {v : Int32} (h : CA B I P x o n k) (ho : I (o + 17) 6 = nI ot) (h3 : ot ≤ 321) (hi : i < ot) (hv : I (o + 28) i = v) : Ct g mX11_out [.ref x, .int (nI k), .int (nI i)] B I J P (some (.int v), B, vst I x (nI 0), J, P) := by
  have ca := ca_t (g := g) (J := J) h
  obtain ⟨hV, hC, hxo, hx, h8, hk, hP⟩ := h
  refine ct_of (lv := [some (.ref x), some (.int (nI (k))), some (.int (nI (i))), none]) (by decide +kernel) (Nat.le_of_ble_eq_true rfl) rfl ?_
  refine ev_aload_n 1 dX11_out_0 rfl rfl ?_
  refine ev_iconstN 2 0 dX11_out_1 rfl ?_
  refine ev_putI 5 mm_cl11 (j := 9) (Nat.le_of_ble_eq_true rfl) dX11_out_2 lk270 rfl (fun _ _ _ => rfl) rfl rfl (hV.1 0 _ rfl) rfl ?_
  refine ev_aload_n 6 dX11_out_5 rfl rfl ?_
  refine ev_iload_n 7 dX11_out_6 rfl rfl ?_
  refine ev_invV 10 (Mc := mX11_coderAt) ⟨lk570, lk75, hdX11_coderAt, (Nat.le_of_ble_eq_true rfl), (Nat.le_of_ble_eq_true rfl)⟩ lk567 lk569 lk1 mm_cl11 rfl dX11_out_7 (ca) rfl (hV.1 0 _ rfl) (Nat.le_of_ble_eq_true rfl) rfl rfl ?_
  refine ev_astore_n 11 (lv' := [_, _, some (.int _), _]) dX11_out_10 (Nat.le_of_ble_eq_true rfl) rfl rfl ?_
  refine ev_aload_n 12 dX11_out_11 rfl rfl ?_
  refine ev_ifnonnull_r 22 dX11_out_12 (by decide) ?_
  refine ev_aload_n 23 dX11_out_22 rfl rfl ?_
  refine ev_aload_n 24 dX11_out_23 rfl rfl ?_
  refine ev_getP 27 mm_cl0 (j := 4) (Nat.le_of_ble_eq_true rfl) dX11_out_24 lk551 (fun _ _ _ => rfl) (hC.1 0 _ rfl) (a := (o + 17)) (hC.2.2.1 3 _ _ _ rfl) rfl ?_
  refine ev_getP 30 mm_cl1 (j := 5) (Nat.le_of_ble_eq_true rfl) dX11_out_27 lk480 (fun _ _ _ => rfl) (hC.1 17 _ rfl) (a := (o + 28)) (hC.2.2.1 16 _ _ _ rfl) rfl ?_
  refine ev_aload_n 31 dX11_out_30 rfl rfl ?_
  refine ev_getP 34 mm_cl0 (j := 4) (Nat.le_of_ble_eq_true rfl) dX11_out_31 lk551 (fun _ _ _ => rfl) (hC.1 0 _ rfl) (a := (o + 17)) (hC.2.2.1 3 _ _ _ rfl) rfl ?_
  refine ev_getI 37 mm_cl1 (j := 6) (Nat.le_of_ble_eq_true rfl) dX11_out_34 lk482 (fun _ _ _ => rfl) (hC.1 17 _ rfl) rfl ?_
  refine ev_eqI (y := nI (ot)) ((vzk ho (by omega))) ?_
  refine ev_iload_n 38 dX11_out_37 rfl rfl ?_
  refine ev_invV 41 (Mc := mX11_entry) ⟨lk1181, lk75, hdX11_entry, (Nat.le_of_ble_eq_true rfl), (Nat.le_of_ble_eq_true rfl)⟩ lk1178 lk1180 lk36 mm_cl11 rfl dX11_out_38 (ct_entry_t (hC.1 28 _ rfl) (by rw [hC.2.1 28 _ rfl]; exact h3) (by omega) hi (vzk hv (by omega)) hV) rfl (hV.1 0 _ rfl) (Nat.le_of_ble_eq_true rfl) rfl rfl ?_
  exact ev_iret dX11_out_41 rfl (rfl)
theorem ml_out_f {c i : Int32} (hM : lyM B P m) (hn : I m 0 = nI n) (hc : ¬ (0 ≤ c ∧ c < nI n)) : Ct g mX12_out [.ref m, .int c, .int i] B I J P (some (.int (-2147483648)), B, mo_st I m (-1), J, P) := by
  refine ct_of (lv := [some (.ref m), some (.int (c)), some (.int (i))]) (by decide +kernel) (Nat.le_of_ble_eq_true rfl) rfl ?_
  refine ev_aload_n 1 dX12_out_0 rfl rfl ?_
  refine ev_iload_n 2 dX12_out_1 rfl rfl ?_
  refine ev_invV 5 (Mc := mX12_isCoder) ⟨lk1552, lk80, hdX12_isCoder, (Nat.le_of_ble_eq_true rfl), (Nat.le_of_ble_eq_true rfl)⟩ lk1549 lk1551 lk40 mm_cl12 rfl dX12_out_2 (ct_X12_isCoder_f hM (by rw [hn]; exact hc)) rfl (hM.1 0 _ rfl) (Nat.le_of_ble_eq_true rfl) rfl rfl ?_
  refine ev_if_eqN 8 43 dX12_out_5 (by decide) (by omega) rfl (fun hbr => ?_) (fun hx => absurd ((by omega)) hx)
  refine ev_aload_n 44 dX12_out_43 rfl rfl ?_
  refine ev_iconst 45 (v := -1) dX12_out_44 (by decide +kernel) rfl ?_
  refine ev_invV 48 (Mc := mX12_refusedNo) ⟨lk1714, lk80, hdX12_refusedNo, (Nat.le_of_ble_eq_true rfl), (Nat.le_of_ble_eq_true rfl)⟩ lk1711 lk1713 lk61 mm_cl12 rfl dX12_out_45 (ct_X12_refusedNo hM) rfl (hM.1 0 _ rfl) (Nat.le_of_ble_eq_true rfl) rfl rfl ?_
  exact ev_iret dX12_out_48 rfl (rfl)
theorem ml_out_b {ot : Nat} {i : Int32} (h : MA B I P m n k) (ho : I (m + 44) k = nI ot) (h3 : ot ≤ 321) (hi : ¬ (0 ≤ i ∧ i < nI ot)) : Ct g mX12_out [.ref m, .int (nI k), .int i] B I J P (some (.int (-2147483648)), B, mo_st I m (-1), J, P) := by
  obtain ⟨hM, hn, h8, hk⟩ := h
  refine ct_of (lv := [some (.ref m), some (.int (nI (k))), some (.int (i))]) (by decide +kernel) (Nat.le_of_ble_eq_true rfl) rfl ?_
  refine ev_aload_n 1 dX12_out_0 rfl rfl ?_
  refine ev_iload_n 2 dX12_out_1 rfl rfl ?_
  refine ev_invV 5 (Mc := mX12_isCoder) ⟨lk1552, lk80, hdX12_isCoder, (Nat.le_of_ble_eq_true rfl), (Nat.le_of_ble_eq_true rfl)⟩ lk1549 lk1551 lk40 mm_cl12 rfl dX12_out_2 (ct_X12_isCoder_t hM hn h8 hk) rfl (hM.1 0 _ rfl) (Nat.le_of_ble_eq_true rfl) rfl rfl ?_
  refine ev_if_eqN 8 43 dX12_out_5 (by decide) (by omega) rfl (fun hx => absurd hx ((by omega))) (fun hbr => ?_)
  refine ev_iload_n 9 dX12_out_8 rfl rfl ?_
  refine ev_iconstN 10 0 dX12_out_9 rfl ?_
  refine ev_aload_n 11 dX12_out_10 rfl rfl ?_
  refine ev_getP 14 mm_cl12 (j := 50) (Nat.le_of_ble_eq_true rfl) dX12_out_11 lk1335 (fun _ _ _ => rfl) (hM.1 0 _ rfl) (a := (m + 44)) (hM.2.2 43 _ _ _ rfl) rfl ?_
  refine ev_iload_n 15 dX12_out_14 rfl rfl ?_
  refine ev_iald 16 _ dX12_out_15 (hM.1 44 _ rfl) rfl (by have hNN := hM.2.1 44 _ rfl; omega) rfl ?_
  refine ev_eqI (y := ((nI ot))) (ho) ?_
  refine ev_iconstN 17 1 dX12_out_16 rfl ?_
  refine ev_isub 18 dX12_out_17 rfl ?_
  refine ev_invS 21 (Mc := mX12_in) ⟨lk1536, lk80, hdX12_in, (Nat.le_of_ble_eq_true rfl), (Nat.le_of_ble_eq_true rfl)⟩ lk1534 lk1535 dX12_out_18 (ct_X12_in_f (nI_inr (by omega) hi)) rfl (Nat.le_of_ble_eq_true rfl) rfl rfl ?_
  refine ev_if_eqN 24 43 dX12_out_21 (by decide) (by omega) rfl (fun hbr => ?_) (fun hx => absurd ((by omega)) hx)
  refine ev_aload_n 44 dX12_out_43 rfl rfl ?_
  refine ev_iconst 45 (v := -1) dX12_out_44 (by decide +kernel) rfl ?_
  refine ev_invV 48 (Mc := mX12_refusedNo) ⟨lk1714, lk80, hdX12_refusedNo, (Nat.le_of_ble_eq_true rfl), (Nat.le_of_ble_eq_true rfl)⟩ lk1711 lk1713 lk61 mm_cl12 rfl dX12_out_45 (ct_X12_refusedNo hM) rfl (hM.1 0 _ rfl) (Nat.le_of_ble_eq_true rfl) rfl rfl ?_
  exact ev_iret dX12_out_48 rfl (rfl)
theorem ml_out_t {ot i : Nat} {v : Int32} (h : MA B I P m n k) (ho : I (m + 44) k = nI ot) (h3 : ot ≤ 321) (hi : i < ot) (hv : I (m + 45) (322 * k + i) = v) : Ct g mX12_out [.ref m, .int (nI k), .int (nI i)] B I J P (some (.int v), B, mo_st I m (nI 0), J, P) := by
  obtain ⟨hM, hn, h8, hk⟩ := h
  refine ct_of (lv := [some (.ref m), some (.int (nI (k))), some (.int (nI (i)))]) (by decide +kernel) (Nat.le_of_ble_eq_true rfl) rfl ?_
  refine ev_aload_n 1 dX12_out_0 rfl rfl ?_
  refine ev_iload_n 2 dX12_out_1 rfl rfl ?_
  refine ev_invV 5 (Mc := mX12_isCoder) ⟨lk1552, lk80, hdX12_isCoder, (Nat.le_of_ble_eq_true rfl), (Nat.le_of_ble_eq_true rfl)⟩ lk1549 lk1551 lk40 mm_cl12 rfl dX12_out_2 (ct_X12_isCoder_t hM hn h8 hk) rfl (hM.1 0 _ rfl) (Nat.le_of_ble_eq_true rfl) rfl rfl ?_
  refine ev_if_eqN 8 43 dX12_out_5 (by decide) (by omega) rfl (fun hx => absurd hx ((by omega))) (fun hbr => ?_)
  refine ev_iload_n 9 dX12_out_8 rfl rfl ?_
  refine ev_iconstN 10 0 dX12_out_9 rfl ?_
  refine ev_aload_n 11 dX12_out_10 rfl rfl ?_
  refine ev_getP 14 mm_cl12 (j := 50) (Nat.le_of_ble_eq_true rfl) dX12_out_11 lk1335 (fun _ _ _ => rfl) (hM.1 0 _ rfl) (a := (m + 44)) (hM.2.2 43 _ _ _ rfl) rfl ?_
  refine ev_iload_n 15 dX12_out_14 rfl rfl ?_
  refine ev_iald 16 _ dX12_out_15 (hM.1 44 _ rfl) rfl (by have hNN := hM.2.1 44 _ rfl; omega) rfl ?_
  refine ev_eqI (y := ((nI ot))) (ho) ?_
  refine ev_iconstN 17 1 dX12_out_16 rfl ?_
  refine ev_isub 18 dX12_out_17 rfl ?_
  refine ev_invS 21 (Mc := mX12_in) ⟨lk1536, lk80, hdX12_in, (Nat.le_of_ble_eq_true rfl), (Nat.le_of_ble_eq_true rfl)⟩ lk1534 lk1535 dX12_out_18 (ct_X12_in_t (nI_inr' (by omega) hi)) rfl (Nat.le_of_ble_eq_true rfl) rfl rfl ?_
  refine ev_if_eqN 24 43 dX12_out_21 (by decide) (by omega) rfl (fun hx => absurd hx ((by omega))) (fun hbr => ?_)
  refine ev_aload_n 25 dX12_out_24 rfl rfl ?_
  refine ev_aload_n 26 dX12_out_25 rfl rfl ?_
  refine ev_getP 29 mm_cl12 (j := 51) (Nat.le_of_ble_eq_true rfl) dX12_out_26 lk1336 (fun _ _ _ => rfl) (hM.1 0 _ rfl) (a := (m + 45)) (hM.2.2 44 _ _ _ rfl) rfl ?_
  refine ev_sipushN 32 322 dX12_out_29 (by decide +kernel) rfl ?_
  refine ev_iload_n 33 dX12_out_32 rfl rfl ?_
  refine ev_imulN 34 dX12_out_33 rfl ?_
  refine ev_iload_n 35 dX12_out_34 rfl rfl ?_
  refine ev_iaddN 36 dX12_out_35 rfl ?_
  refine ev_iald 37 _ dX12_out_36 (hM.1 45 _ rfl) rfl (by have hNN := hM.2.1 45 _ rfl; omega) rfl ?_
  refine ev_eqI (y := (v)) (hv) ?_
  refine ev_invV 40 (Mc := mX12_done) ⟨lk1544, lk80, hdX12_done, (Nat.le_of_ble_eq_true rfl), (Nat.le_of_ble_eq_true rfl)⟩ lk1541 lk1543 lk39 mm_cl12 rfl dX12_out_37 (ct_X12_done hM) rfl (hM.1 0 _ rfl) (Nat.le_of_ble_eq_true rfl) rfl rfl ?_
  refine ev_goto 48 dX12_out_40 (by decide) ?_
  exact ev_iret dX12_out_48 rfl (rfl)
theorem cl_index_f {c i : Int32} (hV : lyV B P x) (hx : I x 4 = nI n) (hc : ¬ (0 ≤ c ∧ c < nI n)) : Ct g mX11_index [.ref x, .int c, .int i] B I J P (some (.int (-2147483648)), B, vst I x (-1), J, P) := by
  refine ct_of (lv := [some (.ref x), some (.int (c)), some (.int (i))]) (by decide +kernel) (Nat.le_of_ble_eq_true rfl) rfl ?_
  refine ev_aload_n 1 dX11_index_0 rfl rfl ?_
  refine ev_aload_n 2 dX11_index_1 rfl rfl ?_
  refine ev_iload_n 3 dX11_index_2 rfl rfl ?_
  refine ev_iload_n 4 dX11_index_3 rfl rfl ?_
  refine ev_iconstN 5 1 dX11_index_4 rfl ?_
  refine ev_icmp_lt 8 18 dX11_index_5 (by decide) rfl (fun h1 => ?_) (fun h1 => ?_)
  · refine ev_iconstN 19 0 dX11_index_18 rfl ?_
    refine ev_invV 22 (Mc := mX11_pickRefusal) ⟨lk889, lk75, hdX11_pickRefusal, (Nat.le_of_ble_eq_true rfl), (Nat.le_of_ble_eq_true rfl)⟩ lk886 lk888 lk22 mm_cl11 rfl dX11_index_19 (ct_pickRefusal_f hV hx hc) rfl (hV.1 0 _ rfl) (Nat.le_of_ble_eq_true rfl) rfl rfl ?_
    refine ev_putI 25 mm_cl11 (j := 9) (Nat.le_of_ble_eq_true rfl) dX11_index_22 lk270 rfl (fun _ _ _ => rfl) rfl rfl (hV.1 0 _ rfl) rfl ?_
    refine ev_aload_n 26 dX11_index_25 rfl rfl ?_
    refine ev_getI 29 mm_cl11 (j := 9) (Nat.le_of_ble_eq_true rfl) dX11_index_26 lk270 (fun _ _ _ => rfl) (hV.1 0 _ rfl) rfl ?_
    refine ev_eqI (y := (-1)) ((by rw [va_up_s, va_up_s])) ?_
    refine ev_if_eq 32 37 dX11_index_29 (by decide) rfl (fun hx => absurd hx ((by decide))) (fun hbr => ?_)
    refine ev_ldc 34 dX11_index_32 lk898 rfl ?_
    refine ev_goto 56 dX11_index_34 (by decide) ?_
    exact ev_iret dX11_index_56 rfl (rfl)
  · refine ev_iload_n 9 dX11_index_8 rfl rfl ?_
    refine ev_bipushN 11 8 dX11_index_9 (by decide +kernel) rfl ?_
    refine ev_icmp_gt 14 18 dX11_index_11 (by decide) rfl (fun h2 => ?_) (fun h2 => ?_)
    · refine ev_iconstN 19 0 dX11_index_18 rfl ?_
      refine ev_invV 22 (Mc := mX11_pickRefusal) ⟨lk889, lk75, hdX11_pickRefusal, (Nat.le_of_ble_eq_true rfl), (Nat.le_of_ble_eq_true rfl)⟩ lk886 lk888 lk22 mm_cl11 rfl dX11_index_19 (ct_pickRefusal_f hV hx hc) rfl (hV.1 0 _ rfl) (Nat.le_of_ble_eq_true rfl) rfl rfl ?_
      refine ev_putI 25 mm_cl11 (j := 9) (Nat.le_of_ble_eq_true rfl) dX11_index_22 lk270 rfl (fun _ _ _ => rfl) rfl rfl (hV.1 0 _ rfl) rfl ?_
      refine ev_aload_n 26 dX11_index_25 rfl rfl ?_
      refine ev_getI 29 mm_cl11 (j := 9) (Nat.le_of_ble_eq_true rfl) dX11_index_26 lk270 (fun _ _ _ => rfl) (hV.1 0 _ rfl) rfl ?_
      refine ev_eqI (y := (-1)) ((by rw [va_up_s, va_up_s])) ?_
      refine ev_if_eq 32 37 dX11_index_29 (by decide) rfl (fun hx => absurd hx ((by decide))) (fun hbr => ?_)
      refine ev_ldc 34 dX11_index_32 lk898 rfl ?_
      refine ev_goto 56 dX11_index_34 (by decide) ?_
      exact ev_iret dX11_index_56 rfl (rfl)
    · refine ev_iconstN 15 1 dX11_index_14 rfl ?_
      refine ev_goto 19 dX11_index_15 (by decide) ?_
      refine ev_invV 22 (Mc := mX11_pickRefusal) ⟨lk889, lk75, hdX11_pickRefusal, (Nat.le_of_ble_eq_true rfl), (Nat.le_of_ble_eq_true rfl)⟩ lk886 lk888 lk22 mm_cl11 rfl dX11_index_19 (ct_pickRefusal_f hV hx hc) rfl (hV.1 0 _ rfl) (Nat.le_of_ble_eq_true rfl) rfl rfl ?_
      refine ev_putI 25 mm_cl11 (j := 9) (Nat.le_of_ble_eq_true rfl) dX11_index_22 lk270 rfl (fun _ _ _ => rfl) rfl rfl (hV.1 0 _ rfl) rfl ?_
      refine ev_aload_n 26 dX11_index_25 rfl rfl ?_
      refine ev_getI 29 mm_cl11 (j := 9) (Nat.le_of_ble_eq_true rfl) dX11_index_26 lk270 (fun _ _ _ => rfl) (hV.1 0 _ rfl) rfl ?_
      refine ev_eqI (y := (-1)) ((by rw [va_up_s, va_up_s])) ?_
      refine ev_if_eq 32 37 dX11_index_29 (by decide) rfl (fun hx => absurd hx ((by decide))) (fun hbr => ?_)
      refine ev_ldc 34 dX11_index_32 lk898 rfl ?_
      refine ev_goto 56 dX11_index_34 (by decide) ?_
      exact ev_iret dX11_index_56 rfl (rfl)
theorem cl_index_b {i : Int32} (h : CA B I P x o n k) (hi : ¬ (nI 1 ≤ i ∧ i ≤ nI 8)) : Ct g mX11_index [.ref x, .int (nI k), .int i] B I J P (some (.int (-2147483648)), B, vst I x (-1), J, P) := by
  have pr := ct_pickRefusal_b (g := g) (J := J) h
  obtain ⟨hV, hC, hxo, hx, h8, hk, hP⟩ := h
  refine ct_of (lv := [some (.ref x), some (.int (nI (k))), some (.int (i))]) (by decide +kernel) (Nat.le_of_ble_eq_true rfl) rfl ?_
  refine ev_aload_n 1 dX11_index_0 rfl rfl ?_
  refine ev_aload_n 2 dX11_index_1 rfl rfl ?_
  refine ev_iload_n 3 dX11_index_2 rfl rfl ?_
  refine ev_iload_n 4 dX11_index_3 rfl rfl ?_
  refine ev_iconstN 5 1 dX11_index_4 rfl ?_
  refine ev_icmp_lt 8 18 dX11_index_5 (by decide) rfl (fun h1 => ?_) (fun h1 => ?_)
  · refine ev_iconstN 19 0 dX11_index_18 rfl ?_
    refine ev_invV 22 (Mc := mX11_pickRefusal) ⟨lk889, lk75, hdX11_pickRefusal, (Nat.le_of_ble_eq_true rfl), (Nat.le_of_ble_eq_true rfl)⟩ lk886 lk888 lk22 mm_cl11 rfl dX11_index_19 (pr) rfl (hV.1 0 _ rfl) (Nat.le_of_ble_eq_true rfl) rfl rfl ?_
    refine ev_putI 25 mm_cl11 (j := 9) (Nat.le_of_ble_eq_true rfl) dX11_index_22 lk270 rfl (fun _ _ _ => rfl) rfl rfl (hV.1 0 _ rfl) rfl ?_
    refine ev_aload_n 26 dX11_index_25 rfl rfl ?_
    refine ev_getI 29 mm_cl11 (j := 9) (Nat.le_of_ble_eq_true rfl) dX11_index_26 lk270 (fun _ _ _ => rfl) (hV.1 0 _ rfl) rfl ?_
    refine ev_eqI (y := (-1)) ((by rw [va_up_s, va_up_s])) ?_
    refine ev_if_eq 32 37 dX11_index_29 (by decide) rfl (fun hx => absurd hx ((by decide))) (fun hbr => ?_)
    refine ev_ldc 34 dX11_index_32 lk898 rfl ?_
    refine ev_goto 56 dX11_index_34 (by decide) ?_
    exact ev_iret dX11_index_56 rfl (rfl)
  · refine ev_iload_n 9 dX11_index_8 rfl rfl ?_
    refine ev_bipushN 11 8 dX11_index_9 (by decide +kernel) rfl ?_
    refine ev_icmp_gt 14 18 dX11_index_11 (by decide) rfl (fun hbr => ?_) (fun hx => absurd ((Int32.not_le.mp (fun h2 => hi ⟨Int32.not_lt.mp h1, h2⟩))) hx)
    refine ev_iconstN 19 0 dX11_index_18 rfl ?_
    refine ev_invV 22 (Mc := mX11_pickRefusal) ⟨lk889, lk75, hdX11_pickRefusal, (Nat.le_of_ble_eq_true rfl), (Nat.le_of_ble_eq_true rfl)⟩ lk886 lk888 lk22 mm_cl11 rfl dX11_index_19 (pr) rfl (hV.1 0 _ rfl) (Nat.le_of_ble_eq_true rfl) rfl rfl ?_
    refine ev_putI 25 mm_cl11 (j := 9) (Nat.le_of_ble_eq_true rfl) dX11_index_22 lk270 rfl (fun _ _ _ => rfl) rfl rfl (hV.1 0 _ rfl) rfl ?_
    refine ev_aload_n 26 dX11_index_25 rfl rfl ?_
    refine ev_getI 29 mm_cl11 (j := 9) (Nat.le_of_ble_eq_true rfl) dX11_index_26 lk270 (fun _ _ _ => rfl) (hV.1 0 _ rfl) rfl ?_
    refine ev_eqI (y := (-1)) ((by rw [va_up_s, va_up_s])) ?_
    refine ev_if_eq 32 37 dX11_index_29 (by decide) rfl (fun hx => absurd hx ((by decide))) (fun hbr => ?_)
    refine ev_ldc 34 dX11_index_32 lk898 rfl ?_
    refine ev_goto 56 dX11_index_34 (by decide) ?_
    exact ev_iret dX11_index_56 rfl (rfl)
theorem cl_index_s {i : Nat} (h : CA B I P x o n k) (h1 : 1 ≤ i) (h2 : i ≤ 8) (r9 : I (o + 4) 9 = nI 0) : Ct g mX11_index [.ref x, .int (nI k), .int (nI i)] B I J P (some (.int (-2147483648)), B, vst I x (-2), J, P) := by
  have pr := ct_pickRefusal_t (g := g) (J := J) (sp := 0) h (by omega) r9
  obtain ⟨hV, hC, hxo, hx, h8, hk, hP⟩ := h
  refine ct_of (lv := [some (.ref x), some (.int (nI (k))), some (.int (nI (i)))]) (by decide +kernel) (Nat.le_of_ble_eq_true rfl) rfl ?_
  refine ev_aload_n 1 dX11_index_0 rfl rfl ?_
  refine ev_aload_n 2 dX11_index_1 rfl rfl ?_
  refine ev_iload_n 3 dX11_index_2 rfl rfl ?_
  refine ev_iload_n 4 dX11_index_3 rfl rfl ?_
  refine ev_iconstN 5 1 dX11_index_4 rfl ?_
  refine ev_icmp_ltN 8 18 dX11_index_5 (by decide) (by omega) (by omega) rfl (fun hx => absurd hx ((by omega))) (fun hbr => ?_)
  refine ev_iload_n 9 dX11_index_8 rfl rfl ?_
  refine ev_bipushN 11 8 dX11_index_9 (by decide +kernel) rfl ?_
  refine ev_icmp_gtN 14 18 dX11_index_11 (by decide) (by omega) (by omega) rfl (fun hx => absurd hx ((by omega))) (fun hbr => ?_)
  refine ev_iconstN 15 1 dX11_index_14 rfl ?_
  refine ev_goto 19 dX11_index_15 (by decide) ?_
  refine ev_invV 22 (Mc := mX11_pickRefusal) ⟨lk889, lk75, hdX11_pickRefusal, (Nat.le_of_ble_eq_true rfl), (Nat.le_of_ble_eq_true rfl)⟩ lk886 lk888 lk22 mm_cl11 rfl dX11_index_19 (pr) rfl (hV.1 0 _ rfl) (Nat.le_of_ble_eq_true rfl) rfl rfl ?_
  refine ev_putI 25 mm_cl11 (j := 9) (Nat.le_of_ble_eq_true rfl) dX11_index_22 lk270 rfl (fun _ _ _ => rfl) rfl rfl (hV.1 0 _ rfl) rfl ?_
  refine ev_aload_n 26 dX11_index_25 rfl rfl ?_
  refine ev_getI 29 mm_cl11 (j := 9) (Nat.le_of_ble_eq_true rfl) dX11_index_26 lk270 (fun _ _ _ => rfl) (hV.1 0 _ rfl) rfl ?_
  refine ev_eqI (y := (-2)) ((by rw [va_up_s, va_up_s, if_neg (by omega)])) ?_
  refine ev_if_eq 32 37 dX11_index_29 (by decide) rfl (fun hx => absurd hx ((by decide))) (fun hbr => ?_)
  refine ev_ldc 34 dX11_index_32 lk898 rfl ?_
  refine ev_goto 56 dX11_index_34 (by decide) ?_
  exact ev_iret dX11_index_56 rfl (rfl)
theorem cl_index_t {i : Nat} {v : Int32} (h : CA B I P x o n k) (h1 : 1 ≤ i) (h2 : i ≤ 8) (r9 : I (o + 4) 9 = nI 1) (hv : I (o + 16) (i - 1) = v) : Ct g mX11_index [.ref x, .int (nI k), .int (nI i)] B I J P (some (.int v), B, vst I x (nI 0), J, P) := by
  have pr := ct_pickRefusal_t (g := g) (J := J) (sp := 1) h (by omega) r9
  obtain ⟨hV, hC, hxo, hx, h8, hk, hP⟩ := h
  rw [if_pos rfl] at pr
  refine ct_of (lv := [some (.ref x), some (.int (nI (k))), some (.int (nI (i)))]) (by decide +kernel) (Nat.le_of_ble_eq_true rfl) rfl ?_
  refine ev_aload_n 1 dX11_index_0 rfl rfl ?_
  refine ev_aload_n 2 dX11_index_1 rfl rfl ?_
  refine ev_iload_n 3 dX11_index_2 rfl rfl ?_
  refine ev_iload_n 4 dX11_index_3 rfl rfl ?_
  refine ev_iconstN 5 1 dX11_index_4 rfl ?_
  refine ev_icmp_ltN 8 18 dX11_index_5 (by decide) (by omega) (by omega) rfl (fun hx => absurd hx ((by omega))) (fun hbr => ?_)
  refine ev_iload_n 9 dX11_index_8 rfl rfl ?_
  refine ev_bipushN 11 8 dX11_index_9 (by decide +kernel) rfl ?_
  refine ev_icmp_gtN 14 18 dX11_index_11 (by decide) (by omega) (by omega) rfl (fun hx => absurd hx ((by omega))) (fun hbr => ?_)
  refine ev_iconstN 15 1 dX11_index_14 rfl ?_
  refine ev_goto 19 dX11_index_15 (by decide) ?_
  refine ev_invV 22 (Mc := mX11_pickRefusal) ⟨lk889, lk75, hdX11_pickRefusal, (Nat.le_of_ble_eq_true rfl), (Nat.le_of_ble_eq_true rfl)⟩ lk886 lk888 lk22 mm_cl11 rfl dX11_index_19 (pr) rfl (hV.1 0 _ rfl) (Nat.le_of_ble_eq_true rfl) rfl rfl ?_
  refine ev_putI 25 mm_cl11 (j := 9) (Nat.le_of_ble_eq_true rfl) dX11_index_22 lk270 rfl (fun _ _ _ => rfl) rfl rfl (hV.1 0 _ rfl) rfl ?_
  refine ev_aload_n 26 dX11_index_25 rfl rfl ?_
  refine ev_getI 29 mm_cl11 (j := 9) (Nat.le_of_ble_eq_true rfl) dX11_index_26 lk270 (fun _ _ _ => rfl) (hV.1 0 _ rfl) rfl ?_
  refine ev_eqI (y := nI (0)) ((by rw [va_up_s, va_up_s])) ?_
  refine ev_if_eqN 32 37 dX11_index_29 (by decide) (by omega) rfl (fun hbr => ?_) (fun hx => absurd ((by omega)) hx)
  refine ev_aload_n 38 dX11_index_37 rfl rfl ?_
  refine ev_getP 41 mm_cl11 (j := 3) (Nat.le_of_ble_eq_true rfl) dX11_index_38 lk264 (fun _ _ _ => rfl) (hV.1 0 _ rfl) (a := (x + 19)) (hV.2.2 3 _ _ _ rfl) rfl ?_
  refine ev_iload_n 42 dX11_index_41 rfl rfl ?_
  refine ev_aald 43 _ 0 dX11_index_42 (hV.1 19 _ rfl) rfl (by have hNN := hV.2.1 19 _ rfl; omega) rfl ?_
  refine ev_eqR (a := o) (hP) ?_
  refine ev_getP 46 mm_cl0 (j := 3) (Nat.le_of_ble_eq_true rfl) dX11_index_43 lk549 (fun _ _ _ => rfl) (hC.1 0 _ rfl) (a := (o + 4)) (hC.2.2.1 2 _ _ _ rfl) rfl ?_
  refine ev_getP 49 mm_cl2 (j := 3) (Nat.le_of_ble_eq_true rfl) dX11_index_46 lk373 (fun _ _ _ => rfl) (hC.1 4 _ rfl) (a := (o + 13)) (hC.2.2.1 5 _ _ _ rfl) rfl ?_
  refine ev_getP 52 mm_cl6 (j := 2) (Nat.le_of_ble_eq_true rfl) dX11_index_49 lk349 (fun _ _ _ => rfl) (hC.1 13 _ rfl) (a := (o + 16)) (hC.2.2.1 12 _ _ _ rfl) rfl ?_
  refine ev_iload_n 53 dX11_index_52 rfl rfl ?_
  refine ev_iconstN 54 1 dX11_index_53 rfl ?_
  refine ev_isubN 55 dX11_index_54 (by omega) rfl ?_
  refine ev_iald 56 _ dX11_index_55 (hC.1 16 _ rfl) rfl (by have hNN := hC.2.1 16 _ rfl; omega) rfl ?_
  refine ev_eqI (y := (v)) ((vzk hv (by omega))) ?_
  exact ev_iret dX11_index_56 rfl (rfl)
theorem ml_index_f {c i : Int32} (hM : lyM B P m) (hn : I m 0 = nI n) (hc : ¬ (0 ≤ c ∧ c < nI n)) : Ct g mX12_index [.ref m, .int c, .int i] B I J P (some (.int (-2147483648)), B, mo_st I m (-1), J, P) := by
  refine ct_of (lv := [some (.ref m), some (.int (c)), some (.int (i))]) (by decide +kernel) (Nat.le_of_ble_eq_true rfl) rfl ?_
  refine ev_aload_n 1 dX12_index_0 rfl rfl ?_
  refine ev_iload_n 2 dX12_index_1 rfl rfl ?_
  refine ev_invV 5 (Mc := mX12_isCoder) ⟨lk1552, lk80, hdX12_isCoder, (Nat.le_of_ble_eq_true rfl), (Nat.le_of_ble_eq_true rfl)⟩ lk1549 lk1551 lk40 mm_cl12 rfl dX12_index_2 (ct_X12_isCoder_f hM (by rw [hn]; exact hc)) rfl (hM.1 0 _ rfl) (Nat.le_of_ble_eq_true rfl) rfl rfl ?_
  refine ev_if_eqN 8 18 dX12_index_5 (by decide) (by omega) rfl (fun hbr => ?_) (fun hx => absurd ((by omega)) hx)
  refine ev_aload_n 19 dX12_index_18 rfl rfl ?_
  refine ev_iconst 20 (v := -1) dX12_index_19 (by decide +kernel) rfl ?_
  refine ev_invV 23 (Mc := mX12_refusedNo) ⟨lk1714, lk80, hdX12_refusedNo, (Nat.le_of_ble_eq_true rfl), (Nat.le_of_ble_eq_true rfl)⟩ lk1711 lk1713 lk61 mm_cl12 rfl dX12_index_20 (ct_X12_refusedNo hM) rfl (hM.1 0 _ rfl) (Nat.le_of_ble_eq_true rfl) rfl rfl ?_
  exact ev_iret dX12_index_23 rfl (rfl)
theorem ml_index_b {i : Int32} (h : MA B I P m n k) (hi : ¬ (nI 1 ≤ i ∧ i ≤ nI 8)) : Ct g mX12_index [.ref m, .int (nI k), .int i] B I J P (some (.int (-2147483648)), B, mo_st I m (-1), J, P) := by
  obtain ⟨hM, hn, h8, hk⟩ := h
  refine ct_of (lv := [some (.ref m), some (.int (nI (k))), some (.int (i))]) (by decide +kernel) (Nat.le_of_ble_eq_true rfl) rfl ?_
  refine ev_aload_n 1 dX12_index_0 rfl rfl ?_
  refine ev_iload_n 2 dX12_index_1 rfl rfl ?_
  refine ev_invV 5 (Mc := mX12_isCoder) ⟨lk1552, lk80, hdX12_isCoder, (Nat.le_of_ble_eq_true rfl), (Nat.le_of_ble_eq_true rfl)⟩ lk1549 lk1551 lk40 mm_cl12 rfl dX12_index_2 (ct_X12_isCoder_t hM hn h8 hk) rfl (hM.1 0 _ rfl) (Nat.le_of_ble_eq_true rfl) rfl rfl ?_
  refine ev_if_eqN 8 18 dX12_index_5 (by decide) (by omega) rfl (fun hx => absurd hx ((by omega))) (fun hbr => ?_)
  refine ev_iload_n 9 dX12_index_8 rfl rfl ?_
  refine ev_iconstN 10 1 dX12_index_9 rfl ?_
  refine ev_bipushN 12 8 dX12_index_10 (by decide +kernel) rfl ?_
  refine ev_invS 15 (Mc := mX12_in) ⟨lk1536, lk80, hdX12_in, (Nat.le_of_ble_eq_true rfl), (Nat.le_of_ble_eq_true rfl)⟩ lk1534 lk1535 dX12_index_12 (ct_X12_in_f hi) rfl (Nat.le_of_ble_eq_true rfl) rfl rfl ?_
  refine ev_if_neN 18 24 dX12_index_15 (by decide) (by omega) rfl (fun hx => absurd ((by omega)) hx) (fun hbr => ?_)
  refine ev_aload_n 19 dX12_index_18 rfl rfl ?_
  refine ev_iconst 20 (v := -1) dX12_index_19 (by decide +kernel) rfl ?_
  refine ev_invV 23 (Mc := mX12_refusedNo) ⟨lk1714, lk80, hdX12_refusedNo, (Nat.le_of_ble_eq_true rfl), (Nat.le_of_ble_eq_true rfl)⟩ lk1711 lk1713 lk61 mm_cl12 rfl dX12_index_20 (ct_X12_refusedNo hM) rfl (hM.1 0 _ rfl) (Nat.le_of_ble_eq_true rfl) rfl rfl ?_
  exact ev_iret dX12_index_23 rfl (rfl)
theorem ml_index_s {i so : Nat} (h : MA B I P m n k) (h1 : 1 ≤ i) (h2 : i ≤ 8) (r : I (m + 20) k = nI so) (hs : so ≠ 1) (hs2 : so ≤ 2) : Ct g mX12_index [.ref m, .int (nI k), .int (nI i)] B I J P (some (.int (-2147483648)), B, mo_st I m (-2), J, P) := by
  obtain ⟨hM, hn, h8, hk⟩ := h
  refine ct_of (lv := [some (.ref m), some (.int (nI (k))), some (.int (nI (i)))]) (by decide +kernel) (Nat.le_of_ble_eq_true rfl) rfl ?_
  refine ev_aload_n 1 dX12_index_0 rfl rfl ?_
  refine ev_iload_n 2 dX12_index_1 rfl rfl ?_
  refine ev_invV 5 (Mc := mX12_isCoder) ⟨lk1552, lk80, hdX12_isCoder, (Nat.le_of_ble_eq_true rfl), (Nat.le_of_ble_eq_true rfl)⟩ lk1549 lk1551 lk40 mm_cl12 rfl dX12_index_2 (ct_X12_isCoder_t hM hn h8 hk) rfl (hM.1 0 _ rfl) (Nat.le_of_ble_eq_true rfl) rfl rfl ?_
  refine ev_if_eqN 8 18 dX12_index_5 (by decide) (by omega) rfl (fun hx => absurd hx ((by omega))) (fun hbr => ?_)
  refine ev_iload_n 9 dX12_index_8 rfl rfl ?_
  refine ev_iconstN 10 1 dX12_index_9 rfl ?_
  refine ev_bipushN 12 8 dX12_index_10 (by decide +kernel) rfl ?_
  refine ev_invS 15 (Mc := mX12_in) ⟨lk1536, lk80, hdX12_in, (Nat.le_of_ble_eq_true rfl), (Nat.le_of_ble_eq_true rfl)⟩ lk1534 lk1535 dX12_index_12 (ct_X12_in_t (in_t h1 h2 (by omega))) rfl (Nat.le_of_ble_eq_true rfl) rfl rfl ?_
  refine ev_if_neN 18 24 dX12_index_15 (by decide) (by omega) rfl (fun hbr => ?_) (fun hx => absurd hx ((by omega)))
  refine ev_aload_n 25 dX12_index_24 rfl rfl ?_
  refine ev_getP 28 mm_cl12 (j := 25) (Nat.le_of_ble_eq_true rfl) dX12_index_25 lk1310 (fun _ _ _ => rfl) (hM.1 0 _ rfl) (a := (m + 20)) (hM.2.2 19 _ _ _ rfl) rfl ?_
  refine ev_iload_n 29 dX12_index_28 rfl rfl ?_
  refine ev_iald 30 _ dX12_index_29 (hM.1 20 _ rfl) rfl (by have hNN := hM.2.1 20 _ rfl; omega) rfl ?_
  refine ev_eqI (y := nI (so)) (r) ?_
  refine ev_iconstN 31 1 dX12_index_30 rfl ?_
  refine ev_icmp_eqN 34 43 dX12_index_31 (by decide) (by omega) (by omega) rfl (fun hx => absurd hx ((by omega))) (fun hbr => ?_)
  refine ev_aload_n 35 dX12_index_34 rfl rfl ?_
  refine ev_bipush 37 (v := -2) dX12_index_35 (by decide +kernel) rfl ?_
  refine ev_invV 40 (Mc := mX12_refusedNo) ⟨lk1714, lk80, hdX12_refusedNo, (Nat.le_of_ble_eq_true rfl), (Nat.le_of_ble_eq_true rfl)⟩ lk1711 lk1713 lk61 mm_cl12 rfl dX12_index_37 (ct_X12_refusedNo hM) rfl (hM.1 0 _ rfl) (Nat.le_of_ble_eq_true rfl) rfl rfl ?_
  refine ev_goto 60 dX12_index_40 (by decide) ?_
  exact ev_iret dX12_index_60 rfl (rfl)
theorem ml_index_t {i : Nat} {v : Int32} (h : MA B I P m n k) (h1 : 1 ≤ i) (h2 : i ≤ 8) (r : I (m + 20) k = nI 1) (hv : I (m + 21) (8 * k + (i - 1)) = v) : Ct g mX12_index [.ref m, .int (nI k), .int (nI i)] B I J P (some (.int v), B, mo_st I m (nI 0), J, P) := by
  obtain ⟨hM, hn, h8, hk⟩ := h
  refine ct_of (lv := [some (.ref m), some (.int (nI (k))), some (.int (nI (i)))]) (by decide +kernel) (Nat.le_of_ble_eq_true rfl) rfl ?_
  refine ev_aload_n 1 dX12_index_0 rfl rfl ?_
  refine ev_iload_n 2 dX12_index_1 rfl rfl ?_
  refine ev_invV 5 (Mc := mX12_isCoder) ⟨lk1552, lk80, hdX12_isCoder, (Nat.le_of_ble_eq_true rfl), (Nat.le_of_ble_eq_true rfl)⟩ lk1549 lk1551 lk40 mm_cl12 rfl dX12_index_2 (ct_X12_isCoder_t hM hn h8 hk) rfl (hM.1 0 _ rfl) (Nat.le_of_ble_eq_true rfl) rfl rfl ?_
  refine ev_if_eqN 8 18 dX12_index_5 (by decide) (by omega) rfl (fun hx => absurd hx ((by omega))) (fun hbr => ?_)
  refine ev_iload_n 9 dX12_index_8 rfl rfl ?_
  refine ev_iconstN 10 1 dX12_index_9 rfl ?_
  refine ev_bipushN 12 8 dX12_index_10 (by decide +kernel) rfl ?_
  refine ev_invS 15 (Mc := mX12_in) ⟨lk1536, lk80, hdX12_in, (Nat.le_of_ble_eq_true rfl), (Nat.le_of_ble_eq_true rfl)⟩ lk1534 lk1535 dX12_index_12 (ct_X12_in_t (in_t h1 h2 (by omega))) rfl (Nat.le_of_ble_eq_true rfl) rfl rfl ?_
  refine ev_if_neN 18 24 dX12_index_15 (by decide) (by omega) rfl (fun hbr => ?_) (fun hx => absurd hx ((by omega)))
  refine ev_aload_n 25 dX12_index_24 rfl rfl ?_
  refine ev_getP 28 mm_cl12 (j := 25) (Nat.le_of_ble_eq_true rfl) dX12_index_25 lk1310 (fun _ _ _ => rfl) (hM.1 0 _ rfl) (a := (m + 20)) (hM.2.2 19 _ _ _ rfl) rfl ?_
  refine ev_iload_n 29 dX12_index_28 rfl rfl ?_
  refine ev_iald 30 _ dX12_index_29 (hM.1 20 _ rfl) rfl (by have hNN := hM.2.1 20 _ rfl; omega) rfl ?_
  refine ev_eqI (y := nI (1)) (r) ?_
  refine ev_iconstN 31 1 dX12_index_30 rfl ?_
  refine ev_icmp_eqN 34 43 dX12_index_31 (by decide) (by omega) (by omega) rfl (fun hbr => ?_) (fun hx => absurd ((by omega)) hx)
  refine ev_aload_n 44 dX12_index_43 rfl rfl ?_
  refine ev_aload_n 45 dX12_index_44 rfl rfl ?_
  refine ev_getP 48 mm_cl12 (j := 26) (Nat.le_of_ble_eq_true rfl) dX12_index_45 lk1311 (fun _ _ _ => rfl) (hM.1 0 _ rfl) (a := (m + 21)) (hM.2.2 20 _ _ _ rfl) rfl ?_
  refine ev_bipushN 50 8 dX12_index_48 (by decide +kernel) rfl ?_
  refine ev_iload_n 51 dX12_index_50 rfl rfl ?_
  refine ev_imulN 52 dX12_index_51 rfl ?_
  refine ev_iload_n 53 dX12_index_52 rfl rfl ?_
  refine ev_iaddN 54 dX12_index_53 rfl ?_
  refine ev_iconstN 55 1 dX12_index_54 rfl ?_
  refine ev_isubN 56 dX12_index_55 (by omega) rfl ?_
  refine ev_iald 57 _ dX12_index_56 (hM.1 21 _ rfl) rfl (by have hNN := hM.2.1 21 _ rfl; omega) rfl ?_
  refine ev_eqI (y := (v)) ((by rw [show 8 * k + i - 1 = 8 * k + (i - 1) by omega]; exact hv)) ?_
  refine ev_invV 60 (Mc := mX12_done) ⟨lk1544, lk80, hdX12_done, (Nat.le_of_ble_eq_true rfl), (Nat.le_of_ble_eq_true rfl)⟩ lk1541 lk1543 lk39 mm_cl12 rfl dX12_index_57 (ct_X12_done hM) rfl (hM.1 0 _ rfl) (Nat.le_of_ble_eq_true rfl) rfl rfl ?_
  exact ev_iret dX12_index_60 rfl (rfl)
end RE0
section RE1
variable {g : mm_G} {c i : Int32}
theorem jo_told : JO g mX11_told mX12_told [.int c] := by
  refine jo_rd fun K x m B I J P n R o fl φ ρ hK h => ?_
  obtain ⟨hV, hM, -⟩ := RG_ly h
  have xm := (RC_xm h).1
  rcases in_cases (lo := 0) (hi := 3) (by omega) (by omega) c with ⟨i, h1, h2, rfl⟩ | hc
  · have : i = 0 ∨ i = 1 ∨ i = 2 ∨ i = 3 := by omega
    rcases this with rfl | rfl | rfl | rfl
    · exact ⟨_, _, cl_told_0 hV (RG_n h).2.1, fun I1 h3 => ml_told_0 hM (by rw [h3 _ (by omega)]; exact (RG_n h).2.2)⟩
    · obtain ⟨t, t1, t2, t3, -⟩ := RG_p h
      exact ⟨_, _, cl_told_1 hV t2, fun I1 h3 => ml_told_1 hM (by rw [h3 _ (by omega)]; exact t3)⟩
    · obtain ⟨t, t1, t2, t3, -⟩ := RG_t h
      exact ⟨_, _, cl_told_2 hV t2, fun I1 h3 => ml_told_2 hM (by rw [h3 _ (by omega)]; exact t3)⟩
    · obtain ⟨t, t1, t2, t3, -⟩ := RG_b h
      exact ⟨_, _, cl_told_3 hV t2, fun I1 h3 => ml_told_3 hM (by rw [h3 _ (by omega)]; exact t3)⟩
  · exact ⟨_, _, cl_told_f hV hc, fun I1 h1 => ml_told_f hM hc⟩
theorem jo_out : JO g mX11_out mX12_out [.int c, .int i] := by
  refine jo_rd fun K x m B I J P n R o fl φ ρ hK h => ?_
  obtain ⟨hV, hM, -⟩ := RG_ly h
  obtain ⟨h8, hx4, hm0⟩ := RG_n h
  have xm := (RC_xm h).1
  rcases cd_cases h8 c with ⟨k, hk, rfl⟩ | hc
  · obtain ⟨⟨ot, o1, o2, o3, o4⟩, -⟩ := RC_d h hk
    rcases nn_cases (b := ot) (by omega) i with ⟨j, hj, rfl⟩ | hc
    · exact ⟨_, _, cl_out_t (CA_of h hk) o2 o1 hj (o4 j hj).1, fun I1 h1 => ml_out_t (MA_of h hk (h1 _ (by omega))) (by rw [h1 _ (by omega)]; exact o3) o1 hj (by rw [h1 _ (by omega)])⟩
    · exact ⟨_, _, cl_out_b (CA_of h hk) o2 hc, fun I1 h1 => ml_out_b (MA_of h hk (h1 _ (by omega))) (by rw [h1 _ (by omega)]; exact o3) o1 hc⟩
  · exact ⟨_, _, cl_out_f hV hx4 hc, fun I1 h1 => ml_out_f hM (by rw [h1 _ (by omega)]; exact hm0) hc⟩
theorem jo_index : JO g mX11_index mX12_index [.int c, .int i] := by
  refine jo_rd fun K x m B I J P n R o fl φ ρ hK h => ?_
  obtain ⟨hV, hM, -⟩ := RG_ly h
  obtain ⟨h8, hx4, hm0⟩ := RG_n h
  have xm := (RC_xm h).1
  rcases cd_cases h8 c with ⟨k, hk, rfl⟩ | hc
  · obtain ⟨so, s1, s2, s3, s4⟩ := RC_s h hk
    rcases in_cases (lo := 1) (hi := 8) (by omega) (by omega) i with ⟨j, j1, j2, rfl⟩ | hc
    · by_cases e : so = 1
      · subst e
        obtain ⟨sr, -, -, -, -, -, -, e, -⟩ := s4 rfl
        exact ⟨_, _, cl_index_t (CA_of h hk) j1 j2 s3 (e (j - 1) (by omega)), fun I1 h1 => ml_index_t (MA_of h hk (h1 _ (by omega))) j1 j2 (by rw [h1 _ (by omega)]; exact s2) (by rw [h1 _ (by omega)])⟩
      · rw [if_neg e] at s3
        exact ⟨_, _, cl_index_s (CA_of h hk) j1 j2 s3, fun I1 h1 => ml_index_s (MA_of h hk (h1 _ (by omega))) j1 j2 (by rw [h1 _ (by omega)]; exact s2) e s1⟩
    · exact ⟨_, _, cl_index_b (CA_of h hk) hc, fun I1 h1 => ml_index_b (MA_of h hk (h1 _ (by omega))) hc⟩
  · exact ⟨_, _, cl_index_f hV hx4 hc, fun I1 h1 => ml_index_f hM (by rw [h1 _ (by omega)]; exact hm0) hc⟩
end RE1
