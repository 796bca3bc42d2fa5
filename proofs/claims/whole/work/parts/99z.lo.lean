/-! LINES: drop and order -/
theorem sk_inj {i a b : Nat} (h : sk i a = sk i b) : a = b := by
  unfold sk at h
  split at h <;> split at h <;> omega
theorem sk_lt {i a L : Nat} (h : a + 1 < L) : sk i a < L := by
  unfold sk
  split <;> omega
section LO0
variable {g : mm_G} {B : mm_B} {I : mm_TI} {J : mm_TJ} {P : mm_TP} {x m o n k i j L f : Nat} {φ : Nat → Nat}
theorem cl_drop_f {c i : Int32} (hV : lyV B P x) (hf : Ct g mX11_frameAt [.ref x, .int c, .int i] B (vz I x) J P (some .null, B, vz I x, J, P)) : Ct g mX11_drop [.ref x, .int c, .int i] B I J P (some (.int (-1)), B, vst I x (-1), J, P) := by
  refine ct_of (lv := [some (.ref x), some (.int (c)), some (.int (i)), none]) (by decide +kernel) (Nat.le_of_ble_eq_true rfl) rfl ?_
  refine ev_aload_n 1 dX11_drop_0 rfl rfl ?_
  refine ev_iconstN 2 0 dX11_drop_1 rfl ?_
  refine ev_putI 5 mm_cl11 (j := 9) (Nat.le_of_ble_eq_true rfl) dX11_drop_2 lk270 rfl (fun _ _ _ => rfl) rfl rfl (hV.1 0 _ rfl) rfl ?_
  refine ev_aload_n 6 dX11_drop_5 rfl rfl ?_
  refine ev_iload_n 7 dX11_drop_6 rfl rfl ?_
  refine ev_iload_n 8 dX11_drop_7 rfl rfl ?_
  refine ev_invV 11 (Mc := mX11_frameAt) ⟨lk923, lk75, hdX11_frameAt, (Nat.le_of_ble_eq_true rfl), (Nat.le_of_ble_eq_true rfl)⟩ lk920 lk922 lk23 mm_cl11 rfl dX11_drop_8 (hf) rfl (hV.1 0 _ rfl) (Nat.le_of_ble_eq_true rfl) rfl rfl ?_
  refine ev_ifnonnull_n 14 dX11_drop_11 rfl ?_
  refine ev_aload_n 15 dX11_drop_14 rfl rfl ?_
  refine ev_iconst 16 (v := -1) dX11_drop_15 (by decide +kernel) rfl ?_
  refine ev_invV 19 (Mc := mX11_refuse) ⟨lk303, lk75, hdX11_refuse, (Nat.le_of_ble_eq_true rfl), (Nat.le_of_ble_eq_true rfl)⟩ lk300 lk302 lk0 mm_cl11 rfl dX11_drop_16 (ct_refuse hV) rfl (hV.1 0 _ rfl) (Nat.le_of_ble_eq_true rfl) rfl rfl ?_
  exact ev_iret dX11_drop_19 rfl (rfl)
theorem cx_drop (h : CA B I P x o n k) (hL : I (o + 2) 1 = nI L) (hl : L ≤ 250) (hi : i < L) (hφ : ∀ q, q < L → P (o + 3) q = some (φ q) ∧ mm_T B (φ q) = 104) :
    ∃ F' : Nat → Option Nat, (∀ q, q + 1 < L → F' q = some (φ (sk i q))) ∧ Ct g mX11_drop [.ref x, .int (nI k), .int (nI i)] B I J P (some (.int (nI (L - 1))), B, va_up (vz I x) (o + 2) (va_up (I (o + 2)) 1 (nI (L - 1))), J, va_up P (o + 3) F') := by
  have hf := ct_frameAt_t (g := g) (J := J) h hL hl hi (hφ i hi).1 (hφ i hi).2
  obtain ⟨hV, hC, hxo, hx, h8, hk, hP⟩ := h
  have tf := (hφ i hi).2
  have v2 : vz I x (o + 2) = I (o + 2) := va_up_n _ _ (by omega)
  obtain ⟨F', rm, hF⟩ := cx_X5_remove (g := g) (I := vz I x) (J := J) (i := i) hC hl hi (by rw [v2]; exact hL) hφ
  rw [v2] at rm
  refine ⟨F', hF, ?_⟩
  refine ct_of (lv := [some (.ref x), some (.int (nI (k))), some (.int (nI (i))), none]) (by decide +kernel) (Nat.le_of_ble_eq_true rfl) rfl ?_
  refine ev_aload_n 1 dX11_drop_0 rfl rfl ?_
  refine ev_iconstN 2 0 dX11_drop_1 rfl ?_
  refine ev_putI 5 mm_cl11 (j := 9) (Nat.le_of_ble_eq_true rfl) dX11_drop_2 lk270 rfl (fun _ _ _ => rfl) rfl rfl (hV.1 0 _ rfl) rfl ?_
  refine ev_aload_n 6 dX11_drop_5 rfl rfl ?_
  refine ev_iload_n 7 dX11_drop_6 rfl rfl ?_
  refine ev_iload_n 8 dX11_drop_7 rfl rfl ?_
  refine ev_invV 11 (Mc := mX11_frameAt) ⟨lk923, lk75, hdX11_frameAt, (Nat.le_of_ble_eq_true rfl), (Nat.le_of_ble_eq_true rfl)⟩ lk920 lk922 lk23 mm_cl11 rfl dX11_drop_8 (hf) rfl (hV.1 0 _ rfl) (Nat.le_of_ble_eq_true rfl) rfl rfl ?_
  refine ev_ifnonnull_r 20 dX11_drop_11 (by decide) ?_
  refine ev_aload_n 21 dX11_drop_20 rfl rfl ?_
  refine ev_getP 24 mm_cl11 (j := 3) (Nat.le_of_ble_eq_true rfl) dX11_drop_21 lk264 (fun _ _ _ => rfl) (hV.1 0 _ rfl) (a := (x + 19)) (hV.2.2 3 _ _ _ rfl) rfl ?_
  refine ev_iload_n 25 dX11_drop_24 rfl rfl ?_
  refine ev_aald 26 _ 0 dX11_drop_25 (hV.1 19 _ rfl) rfl (by have hNN := hV.2.1 19 _ rfl; omega) rfl ?_
  refine ev_eqR (a := o) (hP) ?_
  refine ev_getP 29 mm_cl0 (j := 2) (Nat.le_of_ble_eq_true rfl) dX11_drop_26 lk547 (fun _ _ _ => rfl) (hC.1 0 _ rfl) (a := (o + 2)) (hC.2.2.1 1 _ _ _ rfl) rfl ?_
  refine ev_astore_n 30 (lv' := [_, _, some (.int _), _]) dX11_drop_29 (Nat.le_of_ble_eq_true rfl) rfl rfl ?_
  refine ev_aload_n 31 dX11_drop_30 rfl rfl ?_
  refine ev_iload_n 32 dX11_drop_31 rfl rfl ?_
  refine ev_invVv 35 (Mc := mX5_remove) ⟨lk1011, lk82, hdX5_remove, (Nat.le_of_ble_eq_true rfl), (Nat.le_of_ble_eq_true rfl)⟩ lk1008 lk1009 lk1010 mm_cl5 rfl dX11_drop_32 (rm) rfl (hC.1 2 _ rfl) (Nat.le_of_ble_eq_true rfl) rfl rfl ?_
  refine ev_aload_n 36 dX11_drop_35 rfl rfl ?_
  refine ev_getI 39 mm_cl5 (j := 1) (Nat.le_of_ble_eq_true rfl) dX11_drop_36 lk320 (fun _ _ _ => rfl) (hC.1 2 _ rfl) rfl ?_
  refine ev_eqI (y := nI ((L-1))) ((by rw [va_up_s, va_up_s])) ?_
  exact ev_iret dX11_drop_39 rfl (rfl)
theorem cl_order_f {c i j : Int32} (hV : lyV B P x) (hf : Ct g mX11_frameAt [.ref x, .int c, .int i] B (vz I x) J P (some .null, B, vz I x, J, P)) : Ct g mX11_order [.ref x, .int c, .int i, .int j] B I J P (some (.int (-1)), B, vst I x (-1), J, P) := by
  refine ct_of (lv := [some (.ref x), some (.int (c)), some (.int (i)), some (.int (j)), none, none]) (by decide +kernel) (Nat.le_of_ble_eq_true rfl) rfl ?_
  refine ev_aload_n 1 dX11_order_0 rfl rfl ?_
  refine ev_iconstN 2 0 dX11_order_1 rfl ?_
  refine ev_putI 5 mm_cl11 (j := 9) (Nat.le_of_ble_eq_true rfl) dX11_order_2 lk270 rfl (fun _ _ _ => rfl) rfl rfl (hV.1 0 _ rfl) rfl ?_
  refine ev_aload_n 6 dX11_order_5 rfl rfl ?_
  refine ev_iload_n 7 dX11_order_6 rfl rfl ?_
  refine ev_iload_n 8 dX11_order_7 rfl rfl ?_
  refine ev_invV 11 (Mc := mX11_frameAt) ⟨lk923, lk75, hdX11_frameAt, (Nat.le_of_ble_eq_true rfl), (Nat.le_of_ble_eq_true rfl)⟩ lk920 lk922 lk23 mm_cl11 rfl dX11_order_8 (hf) rfl (hV.1 0 _ rfl) (Nat.le_of_ble_eq_true rfl) rfl rfl ?_
  refine ev_ifnull_n 23 dX11_order_11 (by decide) ?_
  refine ev_aload_n 24 dX11_order_23 rfl rfl ?_
  refine ev_iconst 25 (v := -1) dX11_order_24 (by decide +kernel) rfl ?_
  refine ev_invV 28 (Mc := mX11_refuse) ⟨lk303, lk75, hdX11_refuse, (Nat.le_of_ble_eq_true rfl), (Nat.le_of_ble_eq_true rfl)⟩ lk300 lk302 lk0 mm_cl11 rfl dX11_order_25 (ct_refuse hV) rfl (hV.1 0 _ rfl) (Nat.le_of_ble_eq_true rfl) rfl rfl ?_
  exact ev_iret dX11_order_28 rfl (rfl)
theorem cl_order_g {c i j : Int32} (hV : lyV B P x) (tf : mm_T B f = 104) (hf : Ct g mX11_frameAt [.ref x, .int c, .int i] B (vz I x) J P (some (.ref f), B, vz I x, J, P)) (hg : Ct g mX11_frameAt [.ref x, .int c, .int j] B (vz I x) J P (some .null, B, vz I x, J, P)) : Ct g mX11_order [.ref x, .int c, .int i, .int j] B I J P (some (.int (-1)), B, vst I x (-1), J, P) := by
  refine ct_of (lv := [some (.ref x), some (.int (c)), some (.int (i)), some (.int (j)), none, none]) (by decide +kernel) (Nat.le_of_ble_eq_true rfl) rfl ?_
  refine ev_aload_n 1 dX11_order_0 rfl rfl ?_
  refine ev_iconstN 2 0 dX11_order_1 rfl ?_
  refine ev_putI 5 mm_cl11 (j := 9) (Nat.le_of_ble_eq_true rfl) dX11_order_2 lk270 rfl (fun _ _ _ => rfl) rfl rfl (hV.1 0 _ rfl) rfl ?_
  refine ev_aload_n 6 dX11_order_5 rfl rfl ?_
  refine ev_iload_n 7 dX11_order_6 rfl rfl ?_
  refine ev_iload_n 8 dX11_order_7 rfl rfl ?_
  refine ev_invV 11 (Mc := mX11_frameAt) ⟨lk923, lk75, hdX11_frameAt, (Nat.le_of_ble_eq_true rfl), (Nat.le_of_ble_eq_true rfl)⟩ lk920 lk922 lk23 mm_cl11 rfl dX11_order_8 (hf) rfl (hV.1 0 _ rfl) (Nat.le_of_ble_eq_true rfl) rfl rfl ?_
  refine ev_ifnull_r 14 dX11_order_11 rfl ?_
  refine ev_aload_n 15 dX11_order_14 rfl rfl ?_
  refine ev_iload_n 16 dX11_order_15 rfl rfl ?_
  refine ev_iload_n 17 dX11_order_16 rfl rfl ?_
  refine ev_invV 20 (Mc := mX11_frameAt) ⟨lk923, lk75, hdX11_frameAt, (Nat.le_of_ble_eq_true rfl), (Nat.le_of_ble_eq_true rfl)⟩ lk920 lk922 lk23 mm_cl11 rfl dX11_order_17 (hg) rfl (hV.1 0 _ rfl) (Nat.le_of_ble_eq_true rfl) rfl rfl ?_
  refine ev_ifnonnull_n 23 dX11_order_20 rfl ?_
  refine ev_aload_n 24 dX11_order_23 rfl rfl ?_
  refine ev_iconst 25 (v := -1) dX11_order_24 (by decide +kernel) rfl ?_
  refine ev_invV 28 (Mc := mX11_refuse) ⟨lk303, lk75, hdX11_refuse, (Nat.le_of_ble_eq_true rfl), (Nat.le_of_ble_eq_true rfl)⟩ lk300 lk302 lk0 mm_cl11 rfl dX11_order_25 (ct_refuse hV) rfl (hV.1 0 _ rfl) (Nat.le_of_ble_eq_true rfl) rfl rfl ?_
  exact ev_iret dX11_order_28 rfl (rfl)
theorem cx_order (h : CA B I P x o n k) (hL : I (o + 2) 1 = nI L) (hl : L ≤ 250) (hi : i < L) (hj : j < L) (hφ : ∀ q, q < L → P (o + 3) q = some (φ q) ∧ mm_T B (φ q) = 104) :
    ∃ F' : Nat → Option Nat, (∀ q, q < L → F' q = some (if q < j then φ (sk i q) else if q = j then φ i else φ (sk i (q - 1)))) ∧ Ct g mX11_order [.ref x, .int (nI k), .int (nI i), .int (nI j)] B I J P (some (.int (nI 1)), B, va_up (vz I x) (o + 2) (va_up (I (o + 2)) 1 (nI L)), J, va_up P (o + 3) F') := by
  have hf := ct_frameAt_t (g := g) (J := J) h hL hl hi (hφ i hi).1 (hφ i hi).2
  have hg := ct_frameAt_t (g := g) (J := J) h hL hl hj (hφ j hj).1 (hφ j hj).2
  obtain ⟨hV, hC, hxo, hx, h8, hk, hP⟩ := h
  have tf := (hφ i hi).2
  have tg := (hφ j hj).2
  have v2 : vz I x (o + 2) = I (o + 2) := va_up_n _ _ (by omega)
  obtain ⟨F1, rm, hF1⟩ := cx_X5_remove (g := g) (I := vz I x) (J := J) (i := i) hC hl hi (by rw [v2]; exact hL) hφ
  rw [v2] at rm
  obtain ⟨F', is, hF⟩ := cx_X5_insert (g := g) (I := va_up (vz I x) (o + 2) (va_up (I (o + 2)) 1 (nI (L - 1)))) (J := J) (P := va_up P (o + 3) F1) (n := L - 1) (i := j) (f := φ i) (φ := fun q => φ (sk i q)) (lyC_P3 hC) (by omega) (by omega) (by rw [va_up_s, va_up_s]) tf (fun q hq => ⟨by rw [va_up_s]; exact hF1 q (by omega), (hφ _ (sk_lt (by omega))).2⟩)
  rw [va_up_s, bx_uu, bx_uu, bx_uu, show L - 1 + 1 = L by omega] at is
  refine ⟨F', fun q hq => hF q (by omega), ?_⟩
  refine ct_of (lv := [some (.ref x), some (.int (nI (k))), some (.int (nI (i))), some (.int (nI (j))), none, none]) (by decide +kernel) (Nat.le_of_ble_eq_true rfl) rfl ?_
  refine ev_aload_n 1 dX11_order_0 rfl rfl ?_
  refine ev_iconstN 2 0 dX11_order_1 rfl ?_
  refine ev_putI 5 mm_cl11 (j := 9) (Nat.le_of_ble_eq_true rfl) dX11_order_2 lk270 rfl (fun _ _ _ => rfl) rfl rfl (hV.1 0 _ rfl) rfl ?_
  refine ev_aload_n 6 dX11_order_5 rfl rfl ?_
  refine ev_iload_n 7 dX11_order_6 rfl rfl ?_
  refine ev_iload_n 8 dX11_order_7 rfl rfl ?_
  refine ev_invV 11 (Mc := mX11_frameAt) ⟨lk923, lk75, hdX11_frameAt, (Nat.le_of_ble_eq_true rfl), (Nat.le_of_ble_eq_true rfl)⟩ lk920 lk922 lk23 mm_cl11 rfl dX11_order_8 (hf) rfl (hV.1 0 _ rfl) (Nat.le_of_ble_eq_true rfl) rfl rfl ?_
  refine ev_ifnull_r 14 dX11_order_11 rfl ?_
  refine ev_aload_n 15 dX11_order_14 rfl rfl ?_
  refine ev_iload_n 16 dX11_order_15 rfl rfl ?_
  refine ev_iload_n 17 dX11_order_16 rfl rfl ?_
  refine ev_invV 20 (Mc := mX11_frameAt) ⟨lk923, lk75, hdX11_frameAt, (Nat.le_of_ble_eq_true rfl), (Nat.le_of_ble_eq_true rfl)⟩ lk920 lk922 lk23 mm_cl11 rfl dX11_order_17 (hg) rfl (hV.1 0 _ rfl) (Nat.le_of_ble_eq_true rfl) rfl rfl ?_
  refine ev_ifnonnull_r 29 dX11_order_20 (by decide) ?_
  refine ev_aload_n 30 dX11_order_29 rfl rfl ?_
  refine ev_getP 33 mm_cl11 (j := 3) (Nat.le_of_ble_eq_true rfl) dX11_order_30 lk264 (fun _ _ _ => rfl) (hV.1 0 _ rfl) (a := (x + 19)) (hV.2.2 3 _ _ _ rfl) rfl ?_
  refine ev_iload_n 34 dX11_order_33 rfl rfl ?_
  refine ev_aald 35 _ 0 dX11_order_34 (hV.1 19 _ rfl) rfl (by have hNN := hV.2.1 19 _ rfl; omega) rfl ?_
  refine ev_eqR (a := o) (hP) ?_
  refine ev_getP 38 mm_cl0 (j := 2) (Nat.le_of_ble_eq_true rfl) dX11_order_35 lk547 (fun _ _ _ => rfl) (hC.1 0 _ rfl) (a := (o + 2)) (hC.2.2.1 1 _ _ _ rfl) rfl ?_
  refine ev_astore 40 (lv' := [_, _, _, some (.int _), _, _]) dX11_order_38 (Nat.le_of_ble_eq_true rfl) rfl rfl ?_
  refine ev_aload 42 dX11_order_40 rfl rfl ?_
  refine ev_getP 45 mm_cl5 (j := 0) (Nat.le_of_ble_eq_true rfl) dX11_order_42 lk318 (fun _ _ _ => rfl) (hC.1 2 _ rfl) (a := (o + 3)) (hC.2.2.1 4 _ _ _ rfl) rfl ?_
  refine ev_iload_n 46 dX11_order_45 rfl rfl ?_
  refine ev_aald 47 _ 4 dX11_order_46 (hC.1 3 _ rfl) rfl (by have hNN := hC.2.1 3 _ rfl; omega) rfl ?_
  refine ev_eqR (a := (φ i)) ((hφ i hi).1) ?_
  refine ev_astore 49 (lv' := [_, _, _, _, some (.ref _), _]) dX11_order_47 (Nat.le_of_ble_eq_true rfl) rfl rfl ?_
  refine ev_aload 51 dX11_order_49 rfl rfl ?_
  refine ev_iload_n 52 dX11_order_51 rfl rfl ?_
  refine ev_invVv 55 (Mc := mX5_remove) ⟨lk1011, lk82, hdX5_remove, (Nat.le_of_ble_eq_true rfl), (Nat.le_of_ble_eq_true rfl)⟩ lk1008 lk1009 lk1010 mm_cl5 rfl dX11_order_52 (rm) rfl (hC.1 2 _ rfl) (Nat.le_of_ble_eq_true rfl) rfl rfl ?_
  refine ev_aload 57 dX11_order_55 rfl rfl ?_
  refine ev_iload_n 58 dX11_order_57 rfl rfl ?_
  refine ev_aload 60 dX11_order_58 rfl rfl ?_
  refine ev_invVv 63 (Mc := mX5_insert) ⟨lk877, lk82, hdX5_insert, (Nat.le_of_ble_eq_true rfl), (Nat.le_of_ble_eq_true rfl)⟩ lk874 lk875 lk876 mm_cl5 rfl dX11_order_60 (is) rfl (hC.1 2 _ rfl) (Nat.le_of_ble_eq_true rfl) rfl rfl ?_
  refine ev_iconstN 64 1 dX11_order_63 rfl ?_
  exact ev_iret dX11_order_64 rfl (rfl)
theorem ml_drop_f {c i : Int32} (hM : lyM B P m) (hf : Ct g mX12_isFrame [.ref m, .int c, .int i] B I J P (some (.int (nI 0)), B, I, J, P)) : Ct g mX12_drop [.ref m, .int c, .int i] B I J P (some (.int (-1)), B, mo_st I m (-1), J, P) := by
  refine ct_of (lv := [some (.ref m), some (.int (c)), some (.int (i))]) (by decide +kernel) (Nat.le_of_ble_eq_true rfl) rfl ?_
  refine ev_aload_n 1 dX12_drop_0 rfl rfl ?_
  refine ev_iload_n 2 dX12_drop_1 rfl rfl ?_
  refine ev_iload_n 3 dX12_drop_2 rfl rfl ?_
  refine ev_invV 6 (Mc := mX12_isFrame) ⟨lk1728, lk80, hdX12_isFrame, (Nat.le_of_ble_eq_true rfl), (Nat.le_of_ble_eq_true rfl)⟩ lk1725 lk1727 lk62 mm_cl12 rfl dX12_drop_3 (hf) rfl (hM.1 0 _ rfl) (Nat.le_of_ble_eq_true rfl) rfl rfl ?_
  refine ev_if_neN 9 15 dX12_drop_6 (by decide) (by omega) rfl (fun hx => absurd ((by omega)) hx) (fun hbr => ?_)
  refine ev_aload_n 10 dX12_drop_9 rfl rfl ?_
  refine ev_iconst 11 (v := -1) dX12_drop_10 (by decide +kernel) rfl ?_
  refine ev_invV 14 (Mc := mX12_refused) ⟨lk1540, lk80, hdX12_refused, (Nat.le_of_ble_eq_true rfl), (Nat.le_of_ble_eq_true rfl)⟩ lk1537 lk1539 lk38 mm_cl12 rfl dX12_drop_11 (ct_X12_refused hM) rfl (hM.1 0 _ rfl) (Nat.le_of_ble_eq_true rfl) rfl rfl ?_
  exact ev_iret dX12_drop_14 rfl (rfl)
theorem cx_mdrop (h : MA B I P m n k) (hL : I (m + 28) k = nI L) (hl : L ≤ 250) (hi : i < L) :
    ∃ F' G' : Nat → Int32, ((∀ q, q + 1 < L → F' (250 * k + q) = I (m + 29) (250 * k + sk i q)) ∧ (∀ q, q < 250 * k ∨ 250 * k + 250 ≤ q → F' q = I (m + 29) q)) ∧ ((∀ q, q + 1 < L → G' (250 * k + q) = I (m + 30) (250 * k + sk i q)) ∧ (∀ q, q < 250 * k ∨ 250 * k + 250 ≤ q → G' q = I (m + 30) q)) ∧
    Ct g mX12_drop [.ref m, .int (nI k), .int (nI i)] B I J P (some (.int (nI (L - 1))), B, mo_st (va_up (va_up (va_up I (m + 29) F') (m + 30) G') (m + 28) (va_up (I (m + 28)) k (nI (L - 1)))) m (nI 0), J, P) := by
  have hf := ct_isFrame_t (g := g) (J := J) h hL hl hi
  obtain ⟨hM, hn, h8, hk⟩ := h
  obtain ⟨F', G', a, b, tk⟩ := cx_X12_take (g := g) (J := J) (i := i) hM (show k < 8 by omega) hl hi hL
  refine ⟨F', G', a, b, ?_⟩
  refine ct_of (lv := [some (.ref m), some (.int (nI (k))), some (.int (nI (i)))]) (by decide +kernel) (Nat.le_of_ble_eq_true rfl) rfl ?_
  refine ev_aload_n 1 dX12_drop_0 rfl rfl ?_
  refine ev_iload_n 2 dX12_drop_1 rfl rfl ?_
  refine ev_iload_n 3 dX12_drop_2 rfl rfl ?_
  refine ev_invV 6 (Mc := mX12_isFrame) ⟨lk1728, lk80, hdX12_isFrame, (Nat.le_of_ble_eq_true rfl), (Nat.le_of_ble_eq_true rfl)⟩ lk1725 lk1727 lk62 mm_cl12 rfl dX12_drop_3 (hf) rfl (hM.1 0 _ rfl) (Nat.le_of_ble_eq_true rfl) rfl rfl ?_
  refine ev_if_neN 9 15 dX12_drop_6 (by decide) (by omega) rfl (fun hbr => ?_) (fun hx => absurd hx ((by omega)))
  refine ev_aload_n 16 dX12_drop_15 rfl rfl ?_
  refine ev_iload_n 17 dX12_drop_16 rfl rfl ?_
  refine ev_iload_n 18 dX12_drop_17 rfl rfl ?_
  refine ev_invVv 21 (Mc := mX12_take) ⟨lk1764, lk80, hdX12_take, (Nat.le_of_ble_eq_true rfl), (Nat.le_of_ble_eq_true rfl)⟩ lk1761 lk1763 lk63 mm_cl12 rfl dX12_drop_18 (tk) rfl (hM.1 0 _ rfl) (Nat.le_of_ble_eq_true rfl) rfl rfl ?_
  refine ev_aload_n 22 dX12_drop_21 rfl rfl ?_
  refine ev_aload_n 23 dX12_drop_22 rfl rfl ?_
  refine ev_getP 26 mm_cl12 (j := 33) (Nat.le_of_ble_eq_true rfl) dX12_drop_23 lk1318 (fun _ _ _ => rfl) (hM.1 0 _ rfl) (a := (m + 28)) (hM.2.2 27 _ _ _ rfl) rfl ?_
  refine ev_iload_n 27 dX12_drop_26 rfl rfl ?_
  refine ev_iald 28 _ dX12_drop_27 (hM.1 28 _ rfl) rfl (by have hNN := hM.2.1 28 _ rfl; omega) rfl ?_
  refine ev_eqI (y := nI ((L-1))) ((by rw [va_up_s, va_up_s])) ?_
  refine ev_invV 31 (Mc := mX12_done) ⟨lk1544, lk80, hdX12_done, (Nat.le_of_ble_eq_true rfl), (Nat.le_of_ble_eq_true rfl)⟩ lk1541 lk1543 lk39 mm_cl12 rfl dX12_drop_28 (ct_X12_done hM) rfl (hM.1 0 _ rfl) (Nat.le_of_ble_eq_true rfl) rfl rfl ?_
  exact ev_iret dX12_drop_31 rfl (rfl)
theorem ml_order_f {c i j : Int32} (hM : lyM B P m) (hf : Ct g mX12_isFrame [.ref m, .int c, .int i] B I J P (some (.int (nI 0)), B, I, J, P)) : Ct g mX12_order [.ref m, .int c, .int i, .int j] B I J P (some (.int (-1)), B, mo_st I m (-1), J, P) := by
  refine ct_of (lv := [some (.ref m), some (.int (c)), some (.int (i)), some (.int (j)), none, none, none]) (by decide +kernel) (Nat.le_of_ble_eq_true rfl) rfl ?_
  refine ev_aload_n 1 dX12_order_0 rfl rfl ?_
  refine ev_iload_n 2 dX12_order_1 rfl rfl ?_
  refine ev_iload_n 3 dX12_order_2 rfl rfl ?_
  refine ev_invV 6 (Mc := mX12_isFrame) ⟨lk1728, lk80, hdX12_isFrame, (Nat.le_of_ble_eq_true rfl), (Nat.le_of_ble_eq_true rfl)⟩ lk1725 lk1727 lk62 mm_cl12 rfl dX12_order_3 (hf) rfl (hM.1 0 _ rfl) (Nat.le_of_ble_eq_true rfl) rfl rfl ?_
  refine ev_if_eqN 9 18 dX12_order_6 (by decide) (by omega) rfl (fun hbr => ?_) (fun hx => absurd ((by omega)) hx)
  refine ev_aload_n 19 dX12_order_18 rfl rfl ?_
  refine ev_iconst 20 (v := -1) dX12_order_19 (by decide +kernel) rfl ?_
  refine ev_invV 23 (Mc := mX12_refused) ⟨lk1540, lk80, hdX12_refused, (Nat.le_of_ble_eq_true rfl), (Nat.le_of_ble_eq_true rfl)⟩ lk1537 lk1539 lk38 mm_cl12 rfl dX12_order_20 (ct_X12_refused hM) rfl (hM.1 0 _ rfl) (Nat.le_of_ble_eq_true rfl) rfl rfl ?_
  exact ev_iret dX12_order_23 rfl (rfl)
theorem ml_order_g {c i j : Int32} (hM : lyM B P m) (hf : Ct g mX12_isFrame [.ref m, .int c, .int i] B I J P (some (.int (nI 1)), B, I, J, P)) (hg : Ct g mX12_isFrame [.ref m, .int c, .int j] B I J P (some (.int (nI 0)), B, I, J, P)) : Ct g mX12_order [.ref m, .int c, .int i, .int j] B I J P (some (.int (-1)), B, mo_st I m (-1), J, P) := by
  refine ct_of (lv := [some (.ref m), some (.int (c)), some (.int (i)), some (.int (j)), none, none, none]) (by decide +kernel) (Nat.le_of_ble_eq_true rfl) rfl ?_
  refine ev_aload_n 1 dX12_order_0 rfl rfl ?_
  refine ev_iload_n 2 dX12_order_1 rfl rfl ?_
  refine ev_iload_n 3 dX12_order_2 rfl rfl ?_
  refine ev_invV 6 (Mc := mX12_isFrame) ⟨lk1728, lk80, hdX12_isFrame, (Nat.le_of_ble_eq_true rfl), (Nat.le_of_ble_eq_true rfl)⟩ lk1725 lk1727 lk62 mm_cl12 rfl dX12_order_3 (hf) rfl (hM.1 0 _ rfl) (Nat.le_of_ble_eq_true rfl) rfl rfl ?_
  refine ev_if_eqN 9 18 dX12_order_6 (by decide) (by omega) rfl (fun hx => absurd hx ((by omega))) (fun hbr => ?_)
  refine ev_aload_n 10 dX12_order_9 rfl rfl ?_
  refine ev_iload_n 11 dX12_order_10 rfl rfl ?_
  refine ev_iload_n 12 dX12_order_11 rfl rfl ?_
  refine ev_invV 15 (Mc := mX12_isFrame) ⟨lk1728, lk80, hdX12_isFrame, (Nat.le_of_ble_eq_true rfl), (Nat.le_of_ble_eq_true rfl)⟩ lk1725 lk1727 lk62 mm_cl12 rfl dX12_order_12 (hg) rfl (hM.1 0 _ rfl) (Nat.le_of_ble_eq_true rfl) rfl rfl ?_
  refine ev_if_neN 18 24 dX12_order_15 (by decide) (by omega) rfl (fun hx => absurd ((by omega)) hx) (fun hbr => ?_)
  refine ev_aload_n 19 dX12_order_18 rfl rfl ?_
  refine ev_iconst 20 (v := -1) dX12_order_19 (by decide +kernel) rfl ?_
  refine ev_invV 23 (Mc := mX12_refused) ⟨lk1540, lk80, hdX12_refused, (Nat.le_of_ble_eq_true rfl), (Nat.le_of_ble_eq_true rfl)⟩ lk1537 lk1539 lk38 mm_cl12 rfl dX12_order_20 (ct_X12_refused hM) rfl (hM.1 0 _ rfl) (Nat.le_of_ble_eq_true rfl) rfl rfl ?_
  exact ev_iret dX12_order_23 rfl (rfl)
def oqF (j : Nat) (lab : Nat → Int32) (v : Int32) (q : Nat) : Int32 := if q < j then lab q else if q = j then v else lab (q - 1)
theorem lx_mord {v w : Int32} {lab ri : Nat → Int32} {F0 G0 : Nat → Int32} (hM : lyM B P m) (hk : k < 8) (hl : L ≤ 250) (hj : j < L) (h28 : I (m + 28) k = nI (L - 1)) : ∀ (d p : Nat), j + d = p → p < L → ∀ F G : Nat → Int32, (∀ q, q < L → q ≠ p → F (250 * k + q) = if q < p then lab q else lab (q - 1)) → (p + 1 < L → F (250 * k + p) = lab p) → (∀ q, q < 250 * k ∨ 250 * k + 250 ≤ q → F q = F0 q) → (∀ q, q < L → q ≠ p → G (250 * k + q) = if q < p then ri q else ri (q - 1)) → (p + 1 < L → G (250 * k + p) = ri p) → (∀ q, q < 250 * k ∨ 250 * k + 250 ≤ q → G q = G0 q) →
    ∃ F' G' : Nat → Int32, ((∀ q, q < L → F' (250 * k + q) = oqF j lab v q) ∧ (∀ q, q < 250 * k ∨ 250 * k + 250 ≤ q → F' q = F0 q)) ∧ ((∀ q, q < L → G' (250 * k + q) = oqF j ri w q) ∧ (∀ q, q < 250 * k ∨ 250 * k + 250 ≤ q → G' q = G0 q)) ∧
    Ev g mX12_order 66 [some (.ref m), some (.int (nI k)), some (.int (nI i)), some (.int (nI j)), some (.int v), some (.int w), some (.int (nI p))] [] B (va_up (va_up I (m + 29) F) (m + 30) G) J P (some (.int (nI 1)), B, mo_st (va_up (va_up (va_up I (m + 29) F') (m + 30) G') (m + 28) (va_up (I (m + 28)) k (nI L))) m (nI 0), J, P) := by
  intro d
  induction d with
  | zero =>
    intro p hp hpl F G f1 f2 f3 g1 g2 g3
    obtain rfl : j = p := by omega
    refine ⟨va_up F (250 * k + j) v, va_up G (250 * k + j) w, ⟨fun q hq => ?_, fun q hq => ?_⟩, ⟨fun q hq => ?_, fun q hq => ?_⟩, ?_⟩
    · unfold oqF
      by_cases e : q = j
      · subst e; rw [va_up_s, if_neg (by omega), if_pos rfl]
      · rw [va_up_n _ _ (by omega), f1 q hq e]
        by_cases e2 : q < j
        · rw [if_pos e2, if_pos e2]
        · rw [if_neg e2, if_neg e2, if_neg e]
    · rw [va_up_n _ _ (by omega)]; exact f3 q hq
    · unfold oqF
      by_cases e : q = j
      · subst e; rw [va_up_s, if_neg (by omega), if_pos rfl]
      · rw [va_up_n _ _ (by omega), g1 q hq e]
        by_cases e2 : q < j
        · rw [if_pos e2, if_pos e2]
        · rw [if_neg e2, if_neg e2, if_neg e]
    · rw [va_up_n _ _ (by omega)]; exact g3 q hq
    · refine ev_iload 68 dX12_order_66 rfl rfl ?_
      refine ev_iload_n 69 dX12_order_68 rfl rfl ?_
      refine ev_icmp_leN 72 134 dX12_order_69 (by decide) (by omega) (by omega) rfl (fun hbr => ?_) (fun hx => absurd ((by omega)) hx)
      refine ev_aload_n 135 dX12_order_134 rfl rfl ?_
      refine ev_getP 138 mm_cl12 (j := 34) (Nat.le_of_ble_eq_true rfl) dX12_order_135 lk1319 (fun _ _ _ => rfl) (hM.1 0 _ rfl) (a := (m + 29)) (hM.2.2 28 _ _ _ rfl) rfl ?_
      refine ev_sipushN 141 250 dX12_order_138 (by decide +kernel) rfl ?_
      refine ev_iload_n 142 dX12_order_141 rfl rfl ?_
      refine ev_imulN 143 dX12_order_142 rfl ?_
      refine ev_iload_n 144 dX12_order_143 rfl rfl ?_
      refine ev_iaddN 145 dX12_order_144 rfl ?_
      refine ev_iload 147 dX12_order_145 rfl rfl ?_
      refine ev_iast 148 _ dX12_order_147 (hM.1 29 _ rfl) rfl (by have hNN := hM.2.1 29 _ rfl; omega) rfl ?_
      refine ev_aload_n 149 dX12_order_148 rfl rfl ?_
      refine ev_getP 152 mm_cl12 (j := 35) (Nat.le_of_ble_eq_true rfl) dX12_order_149 lk1320 (fun _ _ _ => rfl) (hM.1 0 _ rfl) (a := (m + 30)) (hM.2.2 29 _ _ _ rfl) rfl ?_
      refine ev_sipushN 155 250 dX12_order_152 (by decide +kernel) rfl ?_
      refine ev_iload_n 156 dX12_order_155 rfl rfl ?_
      refine ev_imulN 157 dX12_order_156 rfl ?_
      refine ev_iload_n 158 dX12_order_157 rfl rfl ?_
      refine ev_iaddN 159 dX12_order_158 rfl ?_
      refine ev_iload 161 dX12_order_159 rfl rfl ?_
      refine ev_iast 162 _ dX12_order_161 (hM.1 30 _ rfl) rfl (by have hNN := hM.2.1 30 _ rfl; omega) rfl ?_
      rw [va_up_n _ _ (show m + 29 ≠ m + 30 by omega), va_up_s, va_3 _ _ _ _ (by omega), va_up_n _ _ (show m + 30 ≠ m + 29 by omega), va_up_s]
      refine ev_aload_n 163 dX12_order_162 rfl rfl ?_
      refine ev_getP 166 mm_cl12 (j := 33) (Nat.le_of_ble_eq_true rfl) dX12_order_163 lk1318 (fun _ _ _ => rfl) (hM.1 0 _ rfl) (a := (m + 28)) (hM.2.2 27 _ _ _ rfl) rfl ?_
      refine ev_iload_n 167 dX12_order_166 rfl rfl ?_
      refine ev_dup2_11 168 dX12_order_167 rfl rfl rfl ?_
      refine ev_iald 169 _ dX12_order_168 (hM.1 28 _ rfl) rfl (by have hNN := hM.2.1 28 _ rfl; omega) rfl ?_
      refine ev_eqI (y := nI ((L-1))) ((by rw [va_up_n _ _ (by omega), va_up_n _ _ (by omega), va_up_n _ _ (by omega)]; exact h28)) ?_
      refine ev_iconstN 170 1 dX12_order_169 rfl ?_
      refine ev_iaddN 171 dX12_order_170 rfl ?_
      refine ev_iast 172 _ dX12_order_171 (hM.1 28 _ rfl) rfl (by have hNN := hM.2.1 28 _ rfl; omega) rfl ?_
      rw [show L - 1 + 1 = L by omega, va_3 _ _ _ _ (show m + 29 ≠ m + 30 by omega), va_up_n _ _ (show m + 28 ≠ m + 30 by omega), va_up_n _ _ (show m + 28 ≠ m + 29 by omega)]
      refine ev_aload_n 173 dX12_order_172 rfl rfl ?_
      refine ev_iconstN 174 1 dX12_order_173 rfl ?_
      refine ev_invV 177 (Mc := mX12_done) ⟨lk1544, lk80, hdX12_done, (Nat.le_of_ble_eq_true rfl), (Nat.le_of_ble_eq_true rfl)⟩ lk1541 lk1543 lk39 mm_cl12 rfl dX12_order_174 (ct_X12_done hM) rfl (hM.1 0 _ rfl) (Nat.le_of_ble_eq_true rfl) rfl rfl ?_
      exact ev_iret dX12_order_177 rfl (rfl)
  | succ d ih =>
    intro p hp hpl F G f1 f2 f3 g1 g2 g3
    obtain ⟨p, rfl⟩ : ∃ p', p = p' + 1 := ⟨p - 1, by omega⟩
    obtain ⟨F', G', a, b, e⟩ := ih p (by omega) (by omega) (va_up F (250 * k + (p + 1)) (lab p)) (va_up G (250 * k + (p + 1)) (ri p)) (fun q hq hn => by
        by_cases e : q = p + 1
        · subst e; rw [va_up_s, if_neg (by omega)]; rfl
        · rw [va_up_n _ _ (by omega), f1 q hq e]
          by_cases e2 : q < p
          · rw [if_pos e2, if_pos (by omega)]
          · rw [if_neg e2, if_neg (by omega)]) (fun _ => by rw [va_up_n _ _ (by omega), f1 p (by omega) (by omega), if_pos (by omega)]) (fun q hq => by rw [va_up_n _ _ (by omega)]; exact f3 q hq) (fun q hq hn => by
        by_cases e : q = p + 1
        · subst e; rw [va_up_s, if_neg (by omega)]; rfl
        · rw [va_up_n _ _ (by omega), g1 q hq e]
          by_cases e2 : q < p
          · rw [if_pos e2, if_pos (by omega)]
          · rw [if_neg e2, if_neg (by omega)]) (fun _ => by rw [va_up_n _ _ (by omega), g1 p (by omega) (by omega), if_pos (by omega)]) (fun q hq => by rw [va_up_n _ _ (by omega)]; exact g3 q hq)
    refine ⟨F', G', a, b, ?_⟩
    have rf : F (250 * k + p) = lab p := by rw [f1 p (by omega) (by omega), if_pos (by omega)]
    have rg : G (250 * k + p) = ri p := by rw [g1 p (by omega) (by omega), if_pos (by omega)]
    refine ev_iload 68 dX12_order_66 rfl rfl ?_
    refine ev_iload_n 69 dX12_order_68 rfl rfl ?_
    refine ev_icmp_leN 72 134 dX12_order_69 (by decide) (by omega) (by omega) rfl (fun hx => absurd hx ((by omega))) (fun hbr => ?_)
    refine ev_aload_n 73 dX12_order_72 rfl rfl ?_
    refine ev_getP 76 mm_cl12 (j := 34) (Nat.le_of_ble_eq_true rfl) dX12_order_73 lk1319 (fun _ _ _ => rfl) (hM.1 0 _ rfl) (a := (m + 29)) (hM.2.2 28 _ _ _ rfl) rfl ?_
    refine ev_sipushN 79 250 dX12_order_76 (by decide +kernel) rfl ?_
    refine ev_iload_n 80 dX12_order_79 rfl rfl ?_
    refine ev_imulN 81 dX12_order_80 rfl ?_
    refine ev_iload 83 dX12_order_81 rfl rfl ?_
    refine ev_iaddN 84 dX12_order_83 rfl ?_
    refine ev_aload_n 85 dX12_order_84 rfl rfl ?_
    refine ev_getP 88 mm_cl12 (j := 34) (Nat.le_of_ble_eq_true rfl) dX12_order_85 lk1319 (fun _ _ _ => rfl) (hM.1 0 _ rfl) (a := (m + 29)) (hM.2.2 28 _ _ _ rfl) rfl ?_
    refine ev_sipushN 91 250 dX12_order_88 (by decide +kernel) rfl ?_
    refine ev_iload_n 92 dX12_order_91 rfl rfl ?_
    refine ev_imulN 93 dX12_order_92 rfl ?_
    refine ev_iload 95 dX12_order_93 rfl rfl ?_
    refine ev_iaddN 96 dX12_order_95 rfl ?_
    refine ev_iconstN 97 1 dX12_order_96 rfl ?_
    refine ev_isubN 98 dX12_order_97 (by omega) rfl ?_
    refine ev_iald 99 _ dX12_order_98 (hM.1 29 _ rfl) rfl (by have hNN := hM.2.1 29 _ rfl; omega) rfl ?_
    refine ev_eqI (y := ((lab p))) ((by rw [va_up_n _ _ (by omega), va_up_s, show 250 * k + (p + 1) - 1 = 250 * k + p by omega]; exact rf)) ?_
    refine ev_iast 100 _ dX12_order_99 (hM.1 29 _ rfl) rfl (by have hNN := hM.2.1 29 _ rfl; omega) rfl ?_
    rw [va_up_n _ _ (show m + 29 ≠ m + 30 by omega), va_up_s, va_3 _ _ _ _ (by omega)]
    refine ev_aload_n 101 dX12_order_100 rfl rfl ?_
    refine ev_getP 104 mm_cl12 (j := 35) (Nat.le_of_ble_eq_true rfl) dX12_order_101 lk1320 (fun _ _ _ => rfl) (hM.1 0 _ rfl) (a := (m + 30)) (hM.2.2 29 _ _ _ rfl) rfl ?_
    refine ev_sipushN 107 250 dX12_order_104 (by decide +kernel) rfl ?_
    refine ev_iload_n 108 dX12_order_107 rfl rfl ?_
    refine ev_imulN 109 dX12_order_108 rfl ?_
    refine ev_iload 111 dX12_order_109 rfl rfl ?_
    refine ev_iaddN 112 dX12_order_111 rfl ?_
    refine ev_aload_n 113 dX12_order_112 rfl rfl ?_
    refine ev_getP 116 mm_cl12 (j := 35) (Nat.le_of_ble_eq_true rfl) dX12_order_113 lk1320 (fun _ _ _ => rfl) (hM.1 0 _ rfl) (a := (m + 30)) (hM.2.2 29 _ _ _ rfl) rfl ?_
    refine ev_sipushN 119 250 dX12_order_116 (by decide +kernel) rfl ?_
    refine ev_iload_n 120 dX12_order_119 rfl rfl ?_
    refine ev_imulN 121 dX12_order_120 rfl ?_
    refine ev_iload 123 dX12_order_121 rfl rfl ?_
    refine ev_iaddN 124 dX12_order_123 rfl ?_
    refine ev_iconstN 125 1 dX12_order_124 rfl ?_
    refine ev_isubN 126 dX12_order_125 (by omega) rfl ?_
    refine ev_iald 127 _ dX12_order_126 (hM.1 30 _ rfl) rfl (by have hNN := hM.2.1 30 _ rfl; omega) rfl ?_
    refine ev_eqI (y := ((ri p))) ((by rw [va_up_s, show 250 * k + (p + 1) - 1 = 250 * k + p by omega]; exact rg)) ?_
    refine ev_iast 128 _ dX12_order_127 (hM.1 30 _ rfl) rfl (by have hNN := hM.2.1 30 _ rfl; omega) rfl ?_
    rw [va_up_s, bx_uu]
    refine ev_iincM 131 (lv' := [_, _, _, _, _, some (.int _), _]) 1 dX12_order_128 rfl (by omega) (Nat.le_of_ble_eq_true rfl) rfl rfl ?_
    refine ev_goto 66 dX12_order_131 (by decide) ?_
    exact e
theorem cx_morder (h : MA B I P m n k) (hL : I (m + 28) k = nI L) (hl : L ≤ 250) (hi : i < L) (hj : j < L) :
    ∃ F' G' : Nat → Int32, ((∀ q, q < L → F' (250 * k + q) = oqF j (fun q => I (m + 29) (250 * k + sk i q)) (I (m + 29) (250 * k + i)) q) ∧ (∀ q, q < 250 * k ∨ 250 * k + 250 ≤ q → F' q = I (m + 29) q)) ∧ ((∀ q, q < L → G' (250 * k + q) = oqF j (fun q => I (m + 30) (250 * k + sk i q)) (I (m + 30) (250 * k + i)) q) ∧ (∀ q, q < 250 * k ∨ 250 * k + 250 ≤ q → G' q = I (m + 30) q)) ∧
    Ct g mX12_order [.ref m, .int (nI k), .int (nI i), .int (nI j)] B I J P (some (.int (nI 1)), B, mo_st (va_up (va_up (va_up I (m + 29) F') (m + 30) G') (m + 28) (va_up (I (m + 28)) k (nI L))) m (nI 0), J, P) := by
  have hf := ct_isFrame_t (g := g) (J := J) h hL hl hi
  have hg := ct_isFrame_t (g := g) (J := J) h hL hl hj
  obtain ⟨hM, hn, h8, hk⟩ := h
  obtain ⟨F1, G1, a, b, tk⟩ := cx_X12_take (g := g) (J := J) (i := i) hM (show k < 8 by omega) hl hi hL
  obtain ⟨F', G', c, d, e⟩ := lx_mord (g := g) (J := J) (i := i) (j := j) (L := L) (I := va_up I (m + 28) (va_up (I (m + 28)) k (nI (L - 1)))) (v := I (m + 29) (250 * k + i)) (w := I (m + 30) (250 * k + i)) (lab := fun q => I (m + 29) (250 * k + sk i q)) (ri := fun q => I (m + 30) (250 * k + sk i q)) (F0 := I (m + 29)) (G0 := I (m + 30)) hM (show k < 8 by omega) hl hj (by rw [va_up_s, va_up_s]) (L - 1 - j) (L - 1) (by omega) (by omega) F1 G1 (fun q hq hn => by rw [if_pos (by omega)]; exact a.1 q (by omega)) (fun e => absurd e (by omega)) a.2 (fun q hq hn => by rw [if_pos (by omega)]; exact b.1 q (by omega)) (fun e => absurd e (by omega)) b.2
  refine ⟨F', G', c, d, ?_⟩
  have z : ∀ u w : Nat → Int32, va_up (va_up (va_up (va_up I (m + 28) u) (m + 29) F') (m + 30) G') (m + 28) w = va_up (va_up (va_up I (m + 29) F') (m + 30) G') (m + 28) w := fun u w => by rw [va_comm _ _ _ (show m + 28 ≠ m + 29 by omega), va_comm _ _ _ (show m + 28 ≠ m + 30 by omega), bx_uu]
  rw [va_up_s, bx_uu, z, va_comm _ _ _ (show m + 28 ≠ m + 29 by omega), va_comm _ _ _ (show m + 28 ≠ m + 30 by omega)] at e
  refine ct_of (lv := [some (.ref m), some (.int (nI k)), some (.int (nI i)), some (.int (nI j)), none, none, none]) (by decide +kernel) (Nat.le_of_ble_eq_true rfl) rfl ?_
  refine ev_aload_n 1 dX12_order_0 rfl rfl ?_
  refine ev_iload_n 2 dX12_order_1 rfl rfl ?_
  refine ev_iload_n 3 dX12_order_2 rfl rfl ?_
  refine ev_invV 6 (Mc := mX12_isFrame) ⟨lk1728, lk80, hdX12_isFrame, (Nat.le_of_ble_eq_true rfl), (Nat.le_of_ble_eq_true rfl)⟩ lk1725 lk1727 lk62 mm_cl12 rfl dX12_order_3 (hf) rfl (hM.1 0 _ rfl) (Nat.le_of_ble_eq_true rfl) rfl rfl ?_
  refine ev_if_eqN 9 18 dX12_order_6 (by decide) (by omega) rfl (fun hx => absurd hx ((by omega))) (fun hbr => ?_)
  refine ev_aload_n 10 dX12_order_9 rfl rfl ?_
  refine ev_iload_n 11 dX12_order_10 rfl rfl ?_
  refine ev_iload_n 12 dX12_order_11 rfl rfl ?_
  refine ev_invV 15 (Mc := mX12_isFrame) ⟨lk1728, lk80, hdX12_isFrame, (Nat.le_of_ble_eq_true rfl), (Nat.le_of_ble_eq_true rfl)⟩ lk1725 lk1727 lk62 mm_cl12 rfl dX12_order_12 (hg) rfl (hM.1 0 _ rfl) (Nat.le_of_ble_eq_true rfl) rfl rfl ?_
  refine ev_if_neN 18 24 dX12_order_15 (by decide) (by omega) rfl (fun hbr => ?_) (fun hx => absurd hx ((by omega)))
  refine ev_aload_n 25 dX12_order_24 rfl rfl ?_
  refine ev_getP 28 mm_cl12 (j := 34) (Nat.le_of_ble_eq_true rfl) dX12_order_25 lk1319 (fun _ _ _ => rfl) (hM.1 0 _ rfl) (a := (m + 29)) (hM.2.2 28 _ _ _ rfl) rfl ?_
  refine ev_sipushN 31 250 dX12_order_28 (by decide +kernel) rfl ?_
  refine ev_iload_n 32 dX12_order_31 rfl rfl ?_
  refine ev_imulN 33 dX12_order_32 rfl ?_
  refine ev_iload_n 34 dX12_order_33 rfl rfl ?_
  refine ev_iaddN 35 dX12_order_34 rfl ?_
  refine ev_iald 36 _ dX12_order_35 (hM.1 29 _ rfl) rfl (by have hNN := hM.2.1 29 _ rfl; omega) rfl ?_
  refine ev_eqI (y := ((I (m + 29) (250 * k + i)))) (rfl) ?_
  refine ev_istore 38 (lv' := [_, _, _, some (.int _), _, _, _]) dX12_order_36 (Nat.le_of_ble_eq_true rfl) rfl rfl ?_
  refine ev_aload_n 39 dX12_order_38 rfl rfl ?_
  refine ev_getP 42 mm_cl12 (j := 35) (Nat.le_of_ble_eq_true rfl) dX12_order_39 lk1320 (fun _ _ _ => rfl) (hM.1 0 _ rfl) (a := (m + 30)) (hM.2.2 29 _ _ _ rfl) rfl ?_
  refine ev_sipushN 45 250 dX12_order_42 (by decide +kernel) rfl ?_
  refine ev_iload_n 46 dX12_order_45 rfl rfl ?_
  refine ev_imulN 47 dX12_order_46 rfl ?_
  refine ev_iload_n 48 dX12_order_47 rfl rfl ?_
  refine ev_iaddN 49 dX12_order_48 rfl ?_
  refine ev_iald 50 _ dX12_order_49 (hM.1 30 _ rfl) rfl (by have hNN := hM.2.1 30 _ rfl; omega) rfl ?_
  refine ev_eqI (y := ((I (m + 30) (250 * k + i)))) (rfl) ?_
  refine ev_istore 52 (lv' := [_, _, _, _, some (.int _), _, _]) dX12_order_50 (Nat.le_of_ble_eq_true rfl) rfl rfl ?_
  refine ev_aload_n 53 dX12_order_52 rfl rfl ?_
  refine ev_iload_n 54 dX12_order_53 rfl rfl ?_
  refine ev_iload_n 55 dX12_order_54 rfl rfl ?_
  refine ev_invVv 58 (Mc := mX12_take) ⟨lk1764, lk80, hdX12_take, (Nat.le_of_ble_eq_true rfl), (Nat.le_of_ble_eq_true rfl)⟩ lk1761 lk1763 lk63 mm_cl12 rfl dX12_order_55 (tk) rfl (hM.1 0 _ rfl) (Nat.le_of_ble_eq_true rfl) rfl rfl ?_
  refine ev_aload_n 59 dX12_order_58 rfl rfl ?_
  refine ev_getP 62 mm_cl12 (j := 33) (Nat.le_of_ble_eq_true rfl) dX12_order_59 lk1318 (fun _ _ _ => rfl) (hM.1 0 _ rfl) (a := (m + 28)) (hM.2.2 27 _ _ _ rfl) rfl ?_
  refine ev_iload_n 63 dX12_order_62 rfl rfl ?_
  refine ev_iald 64 _ dX12_order_63 (hM.1 28 _ rfl) rfl (by have hNN := hM.2.1 28 _ rfl; omega) rfl ?_
  refine ev_eqI (y := nI ((L-1))) ((by rw [va_up_s, va_up_s])) ?_
  refine ev_istore 66 (lv' := [_, _, _, _, _, some (.int _), _]) dX12_order_64 (Nat.le_of_ble_eq_true rfl) rfl rfl ?_
  exact e
end LO0
