/-! SAMPLES AND WAVES -/
theorem nI_subn {a b : Nat} (h : b ≤ a) : nI a - nI b = nI (a - b) := by
  have e : nI (a - b) + nI b = nI a := by rw [nI_add, show a - b + b = a by omega]
  rw [← e, Int32.add_sub_cancel]
def ab_d (a b : Nat) : Nat := if a < b then b - a else a - b
theorem neg_t {d : Nat} (hd : d < 2 ^ 30) : (0 - nI d : Int32).toInt = -(d : Int) := by
  rw [Int32.toInt_sub, nI_toInt (by omega), show (0 : Int32).toInt = 0 from rfl, Int.bmod_eq_of_le (by omega) (by omega)]; omega
theorem nI_subm {a b : Nat} (h : a ≤ b) (hb : b < 2 ^ 30) : nI a - nI b = 0 - nI (b - a) := by
  apply Int32.toInt_inj.mp
  rw [neg_t (by omega), Int32.toInt_sub, nI_toInt (by omega), nI_toInt (by omega), Int.bmod_eq_of_le (by omega) (by omega)]; omega
theorem ab_c {a b : Nat} (ha : a < 2 ^ 30) (hb : b < 2 ^ 30) : (if 0 ≤ nI a - nI b then nI a - nI b else 0 - (nI a - nI b)) = nI (ab_d a b) := by
  unfold ab_d
  by_cases c : a < b
  · rw [if_pos c, nI_subm (by omega) hb, if_neg, Int32.sub_eq_add_neg, Int32.sub_eq_add_neg, Int32.zero_add, Int32.zero_add, Int32.neg_neg]
    intro h
    have := Int32.le_iff_toInt_le.mp h
    rw [neg_t (by omega), show (0 : Int32).toInt = 0 from rfl] at this; omega
  · rw [if_neg c, nI_subn (by omega), if_pos (nI_pos' (by omega))]
/-- a wave's samples -/
def wvv (kd : Nat) (pz : Int32) (p q i : Nat) : Int32 := if kd = 0 then pz else if kd = 1 then nI (2 * q * (i % p) / p) - nI q else if kd = 2 then (sp_dt (sp_dz p (i + 1)) * nI q) >>> (nI 7 &&& 31) else if kd = 3 then nI (2 * q * ab_d (2 * (i % p)) p / p) - nI q else nI (if i % p = 0 then q else 0)
def WG (kd p q : Int32) : Prop := (kd = 0 ∧ -32768 ≤ p ∧ p ≤ nI 32767) ∨ (¬ kd = 0 ∧ (nI 0 ≤ kd ∧ kd ≤ nI 4) ∧ (nI 0 ≤ q ∧ q ≤ nI 32767) ∧ ((kd = nI 2 ∧ nI 0 ≤ p) ∨ (¬ kd = nI 2 ∧ nI 2 ≤ p ∧ p ≤ nI 640)))
section WV0
variable {g : mm_G} {B : mm_B} {I : mm_TI} {J : mm_TJ} {P : mm_TP} {x m o n k : Nat}
theorem ct_addSample {w : Nat} {v : Int32} (hC : lyC B P x o) (hw : I o 1 = nI w) (h6 : w < 640) : Ct g mX0_addSample [.ref o, .int v] B I J P (none, B, va_up (va_up I (o + 1) (va_up (I (o + 1)) w v)) o (va_up (I o) 1 (nI (w + 1))), J, P) := by
  have e : va_up I (o + 1) (va_up (I (o + 1)) w v) o = I o := va_up_n _ _ (by omega)
  refine ct_of (lv := [some (.ref o), some (.int (v))]) (by decide +kernel) (Nat.le_of_ble_eq_true rfl) rfl ?_
  refine ev_aload_n 1 dX0_addSample_0 rfl rfl ?_
  refine ev_getI 4 mm_cl0 (j := 1) (Nat.le_of_ble_eq_true rfl) dX0_addSample_1 lk544 (fun _ _ _ => rfl) (hC.1 0 _ rfl) rfl ?_
  refine ev_eqI (y := nI (w)) (hw) ?_
  refine ev_sipushN 7 640 dX0_addSample_4 (by decide +kernel) rfl ?_
  refine ev_icmp_geN 10 30 dX0_addSample_7 (by decide) (by omega) (by omega) rfl (fun hx => absurd hx ((by omega))) (fun hbr => ?_)
  refine ev_aload_n 11 dX0_addSample_10 rfl rfl ?_
  refine ev_getP 14 mm_cl0 (j := 0) (Nat.le_of_ble_eq_true rfl) dX0_addSample_11 lk543 (fun _ _ _ => rfl) (hC.1 0 _ rfl) (a := (o + 1)) (hC.2.2.1 0 _ _ _ rfl) rfl ?_
  refine ev_aload_n 15 dX0_addSample_14 rfl rfl ?_
  refine ev_getI 18 mm_cl0 (j := 1) (Nat.le_of_ble_eq_true rfl) dX0_addSample_15 lk544 (fun _ _ _ => rfl) (hC.1 0 _ rfl) rfl ?_
  refine ev_eqI (y := nI (w)) (hw) ?_
  refine ev_iload_n 19 dX0_addSample_18 rfl rfl ?_
  refine ev_iast 20 _ dX0_addSample_19 (hC.1 1 _ rfl) rfl (by have hNN := hC.2.1 1 _ rfl; omega) rfl ?_
  refine ev_aload_n 21 dX0_addSample_20 rfl rfl ?_
  refine ev_dup 22 dX0_addSample_21 rfl rfl ?_
  refine ev_getI 25 mm_cl0 (j := 1) (Nat.le_of_ble_eq_true rfl) dX0_addSample_22 lk544 (fun _ _ _ => rfl) (hC.1 0 _ rfl) rfl ?_
  refine ev_eqI (y := nI (w)) ((by rw [e]; exact hw)) ?_
  refine ev_iconstN 26 1 dX0_addSample_25 rfl ?_
  refine ev_iaddN 27 dX0_addSample_26 rfl ?_
  refine ev_putI 30 mm_cl0 (j := 1) (Nat.le_of_ble_eq_true rfl) dX0_addSample_27 lk544 rfl (fun _ _ _ => rfl) rfl rfl (hC.1 0 _ rfl) rfl ?_
  rw [e]
  exact ev_vret dX0_addSample_30 rfl (rfl)
theorem cl_sample_f {c r : Int32} (hV : lyV B P x) (hx : I x 4 = nI n) (hc : ¬ (0 ≤ c ∧ c < nI n)) : Ct g mX11_sample [.ref x, .int c, .int r] B I J P (some (.int (-1)), B, vst I x (-1), J, P) := by
  refine ct_of (lv := [some (.ref x), some (.int (c)), some (.int (r)), none]) (by decide +kernel) (Nat.le_of_ble_eq_true rfl) rfl ?_
  refine ev_aload_n 1 dX11_sample_0 rfl rfl ?_
  refine ev_iconstN 2 0 dX11_sample_1 rfl ?_
  refine ev_putI 5 mm_cl11 (j := 9) (Nat.le_of_ble_eq_true rfl) dX11_sample_2 lk270 rfl (fun _ _ _ => rfl) rfl rfl (hV.1 0 _ rfl) rfl ?_
  refine ev_aload_n 6 dX11_sample_5 rfl rfl ?_
  refine ev_iload_n 7 dX11_sample_6 rfl rfl ?_
  refine ev_invV 10 (Mc := mX11_coderAt) ⟨lk570, lk75, hdX11_coderAt, (Nat.le_of_ble_eq_true rfl), (Nat.le_of_ble_eq_true rfl)⟩ lk567 lk569 lk1 mm_cl11 rfl dX11_sample_7 (ca_f hV hx hc) rfl (hV.1 0 _ rfl) (Nat.le_of_ble_eq_true rfl) rfl rfl ?_
  refine ev_astore_nN 11 (lv' := [_, _, some (.int _), _]) dX11_sample_10 (Nat.le_of_ble_eq_true rfl) rfl rfl ?_
  refine ev_aload_nN 12 dX11_sample_11 rfl rfl ?_
  refine ev_ifnull_n 22 dX11_sample_12 (by decide) ?_
  refine ev_aload_n 23 dX11_sample_22 rfl rfl ?_
  refine ev_iconst 24 (v := -1) dX11_sample_23 (by decide +kernel) rfl ?_
  refine ev_invV 27 (Mc := mX11_refuse) ⟨lk303, lk75, hdX11_refuse, (Nat.le_of_ble_eq_true rfl), (Nat.le_of_ble_eq_true rfl)⟩ lk300 lk302 lk0 mm_cl11 rfl dX11_sample_24 (ct_refuse hV) rfl (hV.1 0 _ rfl) (Nat.le_of_ble_eq_true rfl) rfl rfl ?_
  exact ev_iret dX11_sample_27 rfl (rfl)
theorem cl_sample_b {r : Int32} (h : CA B I P x o n k) (hr : ¬ (-32768 ≤ r ∧ r ≤ nI 32767)) : Ct g mX11_sample [.ref x, .int (nI k), .int r] B I J P (some (.int (-1)), B, vst I x (-1), J, P) := by
  have ca := ca_t (g := g) (J := J) h
  obtain ⟨hV, hC, hxo, hx, h8, hk, hP⟩ := h
  refine ct_of (lv := [some (.ref x), some (.int (nI (k))), some (.int (r)), none]) (by decide +kernel) (Nat.le_of_ble_eq_true rfl) rfl ?_
  refine ev_aload_n 1 dX11_sample_0 rfl rfl ?_
  refine ev_iconstN 2 0 dX11_sample_1 rfl ?_
  refine ev_putI 5 mm_cl11 (j := 9) (Nat.le_of_ble_eq_true rfl) dX11_sample_2 lk270 rfl (fun _ _ _ => rfl) rfl rfl (hV.1 0 _ rfl) rfl ?_
  refine ev_aload_n 6 dX11_sample_5 rfl rfl ?_
  refine ev_iload_n 7 dX11_sample_6 rfl rfl ?_
  refine ev_invV 10 (Mc := mX11_coderAt) ⟨lk570, lk75, hdX11_coderAt, (Nat.le_of_ble_eq_true rfl), (Nat.le_of_ble_eq_true rfl)⟩ lk567 lk569 lk1 mm_cl11 rfl dX11_sample_7 (ca) rfl (hV.1 0 _ rfl) (Nat.le_of_ble_eq_true rfl) rfl rfl ?_
  refine ev_astore_n 11 (lv' := [_, _, some (.int _), _]) dX11_sample_10 (Nat.le_of_ble_eq_true rfl) rfl rfl ?_
  refine ev_aload_n 12 dX11_sample_11 rfl rfl ?_
  refine ev_ifnull_r 15 dX11_sample_12 rfl ?_
  refine ev_iload_n 16 dX11_sample_15 rfl rfl ?_
  refine ev_invS 19 (Mc := mX11_isSample) ⟨lk605, lk75, hdX11_isSample, (Nat.le_of_ble_eq_true rfl), (Nat.le_of_ble_eq_true rfl)⟩ lk603 lk604 dX11_sample_16 (ct_isSample_f hr) rfl (Nat.le_of_ble_eq_true rfl) rfl rfl ?_
  refine ev_if_neN 22 28 dX11_sample_19 (by decide) (by omega) rfl (fun hx => absurd ((by omega)) hx) (fun hbr => ?_)
  refine ev_aload_n 23 dX11_sample_22 rfl rfl ?_
  refine ev_iconst 24 (v := -1) dX11_sample_23 (by decide +kernel) rfl ?_
  refine ev_invV 27 (Mc := mX11_refuse) ⟨lk303, lk75, hdX11_refuse, (Nat.le_of_ble_eq_true rfl), (Nat.le_of_ble_eq_true rfl)⟩ lk300 lk302 lk0 mm_cl11 rfl dX11_sample_24 (ct_refuse hV) rfl (hV.1 0 _ rfl) (Nat.le_of_ble_eq_true rfl) rfl rfl ?_
  exact ev_iret dX11_sample_27 rfl (rfl)
theorem cl_sample_u {r : Int32} (h : CA B I P x o n k) (hr : -32768 ≤ r ∧ r ≤ nI 32767) (hw : I o 1 = nI 640) : Ct g mX11_sample [.ref x, .int (nI k), .int r] B I J P (some (.int (-3)), B, vst I x (-3), J, P) := by
  have ca := ca_t (g := g) (J := J) h
  obtain ⟨hV, hC, hxo, hx, h8, hk, hP⟩ := h
  refine ct_of (lv := [some (.ref x), some (.int (nI (k))), some (.int (r)), none]) (by decide +kernel) (Nat.le_of_ble_eq_true rfl) rfl ?_
  refine ev_aload_n 1 dX11_sample_0 rfl rfl ?_
  refine ev_iconstN 2 0 dX11_sample_1 rfl ?_
  refine ev_putI 5 mm_cl11 (j := 9) (Nat.le_of_ble_eq_true rfl) dX11_sample_2 lk270 rfl (fun _ _ _ => rfl) rfl rfl (hV.1 0 _ rfl) rfl ?_
  refine ev_aload_n 6 dX11_sample_5 rfl rfl ?_
  refine ev_iload_n 7 dX11_sample_6 rfl rfl ?_
  refine ev_invV 10 (Mc := mX11_coderAt) ⟨lk570, lk75, hdX11_coderAt, (Nat.le_of_ble_eq_true rfl), (Nat.le_of_ble_eq_true rfl)⟩ lk567 lk569 lk1 mm_cl11 rfl dX11_sample_7 (ca) rfl (hV.1 0 _ rfl) (Nat.le_of_ble_eq_true rfl) rfl rfl ?_
  refine ev_astore_n 11 (lv' := [_, _, some (.int _), _]) dX11_sample_10 (Nat.le_of_ble_eq_true rfl) rfl rfl ?_
  refine ev_aload_n 12 dX11_sample_11 rfl rfl ?_
  refine ev_ifnull_r 15 dX11_sample_12 rfl ?_
  refine ev_iload_n 16 dX11_sample_15 rfl rfl ?_
  refine ev_invS 19 (Mc := mX11_isSample) ⟨lk605, lk75, hdX11_isSample, (Nat.le_of_ble_eq_true rfl), (Nat.le_of_ble_eq_true rfl)⟩ lk603 lk604 dX11_sample_16 (ct_isSample_t hr) rfl (Nat.le_of_ble_eq_true rfl) rfl rfl ?_
  refine ev_if_neN 22 28 dX11_sample_19 (by decide) (by omega) rfl (fun hbr => ?_) (fun hx => absurd hx ((by omega)))
  refine ev_aload_n 29 dX11_sample_28 rfl rfl ?_
  refine ev_getI 32 mm_cl0 (j := 1) (Nat.le_of_ble_eq_true rfl) dX11_sample_29 lk545 (fun _ _ _ => rfl) (hC.1 0 _ rfl) rfl ?_
  refine ev_eqI (y := nI (640)) ((vzk hw (by omega))) ?_
  refine ev_sipushN 35 640 dX11_sample_32 (by decide +kernel) rfl ?_
  refine ev_icmp_ltN 38 45 dX11_sample_35 (by decide) (by omega) (by omega) rfl (fun hx => absurd hx ((by omega))) (fun hbr => ?_)
  refine ev_aload_n 39 dX11_sample_38 rfl rfl ?_
  refine ev_bipush 41 (v := -3) dX11_sample_39 (by decide +kernel) rfl ?_
  refine ev_invV 44 (Mc := mX11_refuse) ⟨lk303, lk75, hdX11_refuse, (Nat.le_of_ble_eq_true rfl), (Nat.le_of_ble_eq_true rfl)⟩ lk300 lk302 lk0 mm_cl11 rfl dX11_sample_41 (ct_refuse hV) rfl (hV.1 0 _ rfl) (Nat.le_of_ble_eq_true rfl) rfl rfl ?_
  exact ev_iret dX11_sample_44 rfl (rfl)
theorem cl_sample_t {w : Nat} {r : Int32} (h : CA B I P x o n k) (hr : -32768 ≤ r ∧ r ≤ nI 32767) (hw : I o 1 = nI w) (h6 : w < 640) : Ct g mX11_sample [.ref x, .int (nI k), .int r] B I J P (some (.int (nI (w + 1))), B, va_up (va_up (vz I x) (o + 1) (va_up (I (o + 1)) w r)) o (va_up (I o) 1 (nI (w + 1))), J, P) := by
  have ca := ca_t (g := g) (J := J) h
  obtain ⟨hV, hC, hxo, hx, h8, hk, hP⟩ := h
  have ad := ct_addSample (g := g) (B := B) (I := vz I x) (J := J) (P := P) (v := r) hC (vzk hw (by omega)) h6
  rw [show vz I x (o + 1) = I (o + 1) from va_up_n _ _ (by omega), show vz I x o = I o from va_up_n _ _ (by omega)] at ad
  refine ct_of (lv := [some (.ref x), some (.int (nI (k))), some (.int (r)), none]) (by decide +kernel) (Nat.le_of_ble_eq_true rfl) rfl ?_
  refine ev_aload_n 1 dX11_sample_0 rfl rfl ?_
  refine ev_iconstN 2 0 dX11_sample_1 rfl ?_
  refine ev_putI 5 mm_cl11 (j := 9) (Nat.le_of_ble_eq_true rfl) dX11_sample_2 lk270 rfl (fun _ _ _ => rfl) rfl rfl (hV.1 0 _ rfl) rfl ?_
  refine ev_aload_n 6 dX11_sample_5 rfl rfl ?_
  refine ev_iload_n 7 dX11_sample_6 rfl rfl ?_
  refine ev_invV 10 (Mc := mX11_coderAt) ⟨lk570, lk75, hdX11_coderAt, (Nat.le_of_ble_eq_true rfl), (Nat.le_of_ble_eq_true rfl)⟩ lk567 lk569 lk1 mm_cl11 rfl dX11_sample_7 (ca) rfl (hV.1 0 _ rfl) (Nat.le_of_ble_eq_true rfl) rfl rfl ?_
  refine ev_astore_n 11 (lv' := [_, _, some (.int _), _]) dX11_sample_10 (Nat.le_of_ble_eq_true rfl) rfl rfl ?_
  refine ev_aload_n 12 dX11_sample_11 rfl rfl ?_
  refine ev_ifnull_r 15 dX11_sample_12 rfl ?_
  refine ev_iload_n 16 dX11_sample_15 rfl rfl ?_
  refine ev_invS 19 (Mc := mX11_isSample) ⟨lk605, lk75, hdX11_isSample, (Nat.le_of_ble_eq_true rfl), (Nat.le_of_ble_eq_true rfl)⟩ lk603 lk604 dX11_sample_16 (ct_isSample_t hr) rfl (Nat.le_of_ble_eq_true rfl) rfl rfl ?_
  refine ev_if_neN 22 28 dX11_sample_19 (by decide) (by omega) rfl (fun hbr => ?_) (fun hx => absurd hx ((by omega)))
  refine ev_aload_n 29 dX11_sample_28 rfl rfl ?_
  refine ev_getI 32 mm_cl0 (j := 1) (Nat.le_of_ble_eq_true rfl) dX11_sample_29 lk545 (fun _ _ _ => rfl) (hC.1 0 _ rfl) rfl ?_
  refine ev_eqI (y := nI (w)) ((vzk hw (by omega))) ?_
  refine ev_sipushN 35 640 dX11_sample_32 (by decide +kernel) rfl ?_
  refine ev_icmp_ltN 38 45 dX11_sample_35 (by decide) (by omega) (by omega) rfl (fun hbr => ?_) (fun hx => absurd ((by omega)) hx)
  refine ev_aload_n 46 dX11_sample_45 rfl rfl ?_
  refine ev_iload_n 47 dX11_sample_46 rfl rfl ?_
  refine ev_invVv 50 (Mc := mX0_addSample) ⟨lk609, lk81, hdX0_addSample, (Nat.le_of_ble_eq_true rfl), (Nat.le_of_ble_eq_true rfl)⟩ lk606 lk607 lk608 mm_cl0 rfl dX11_sample_47 (ad) rfl (hC.1 0 _ rfl) (Nat.le_of_ble_eq_true rfl) rfl rfl ?_
  refine ev_aload_n 51 dX11_sample_50 rfl rfl ?_
  refine ev_getI 54 mm_cl0 (j := 1) (Nat.le_of_ble_eq_true rfl) dX11_sample_51 lk545 (fun _ _ _ => rfl) (hC.1 0 _ rfl) rfl ?_
  refine ev_eqI (y := nI ((w+1))) ((by rw [va_up_s, va_up_s])) ?_
  exact ev_iret dX11_sample_54 rfl (rfl)
theorem ml_sample_f {c r : Int32} (hM : lyM B P m) (hn : I m 0 = nI n) (hc : ¬ (0 ≤ c ∧ c < nI n)) : Ct g mX12_sample [.ref m, .int c, .int r] B I J P (some (.int (-1)), B, mo_st I m (-1), J, P) := by
  refine ct_of (lv := [some (.ref m), some (.int (c)), some (.int (r))]) (by decide +kernel) (Nat.le_of_ble_eq_true rfl) rfl ?_
  refine ev_aload_n 1 dX12_sample_0 rfl rfl ?_
  refine ev_iload_n 2 dX12_sample_1 rfl rfl ?_
  refine ev_invV 5 (Mc := mX12_isCoder) ⟨lk1552, lk80, hdX12_isCoder, (Nat.le_of_ble_eq_true rfl), (Nat.le_of_ble_eq_true rfl)⟩ lk1549 lk1551 lk40 mm_cl12 rfl dX12_sample_2 (ct_X12_isCoder_f hM (by rw [hn]; exact hc)) rfl (hM.1 0 _ rfl) (Nat.le_of_ble_eq_true rfl) rfl rfl ?_
  refine ev_if_eqN 8 21 dX12_sample_5 (by decide) (by omega) rfl (fun hbr => ?_) (fun hx => absurd ((by omega)) hx)
  refine ev_aload_n 22 dX12_sample_21 rfl rfl ?_
  refine ev_iconst 23 (v := -1) dX12_sample_22 (by decide +kernel) rfl ?_
  refine ev_invV 26 (Mc := mX12_refused) ⟨lk1540, lk80, hdX12_refused, (Nat.le_of_ble_eq_true rfl), (Nat.le_of_ble_eq_true rfl)⟩ lk1537 lk1539 lk38 mm_cl12 rfl dX12_sample_23 (ct_X12_refused hM) rfl (hM.1 0 _ rfl) (Nat.le_of_ble_eq_true rfl) rfl rfl ?_
  exact ev_iret dX12_sample_26 rfl (rfl)
theorem ml_sample_b {r : Int32} (h : MA B I P m n k) (hr : ¬ (-32768 ≤ r ∧ r ≤ nI 32767)) : Ct g mX12_sample [.ref m, .int (nI k), .int r] B I J P (some (.int (-1)), B, mo_st I m (-1), J, P) := by
  obtain ⟨hM, hn, h8, hk⟩ := h
  refine ct_of (lv := [some (.ref m), some (.int (nI (k))), some (.int (r))]) (by decide +kernel) (Nat.le_of_ble_eq_true rfl) rfl ?_
  refine ev_aload_n 1 dX12_sample_0 rfl rfl ?_
  refine ev_iload_n 2 dX12_sample_1 rfl rfl ?_
  refine ev_invV 5 (Mc := mX12_isCoder) ⟨lk1552, lk80, hdX12_isCoder, (Nat.le_of_ble_eq_true rfl), (Nat.le_of_ble_eq_true rfl)⟩ lk1549 lk1551 lk40 mm_cl12 rfl dX12_sample_2 (ct_X12_isCoder_t hM hn h8 hk) rfl (hM.1 0 _ rfl) (Nat.le_of_ble_eq_true rfl) rfl rfl ?_
  refine ev_if_eqN 8 21 dX12_sample_5 (by decide) (by omega) rfl (fun hx => absurd hx ((by omega))) (fun hbr => ?_)
  refine ev_iload_n 9 dX12_sample_8 rfl rfl ?_
  refine ev_sipush 12 (v := -32768) dX12_sample_9 (by decide +kernel) rfl ?_
  refine ev_sipushN 15 32767 dX12_sample_12 (by decide +kernel) rfl ?_
  refine ev_invS 18 (Mc := mX12_in) ⟨lk1536, lk80, hdX12_in, (Nat.le_of_ble_eq_true rfl), (Nat.le_of_ble_eq_true rfl)⟩ lk1534 lk1535 dX12_sample_15 (ct_X12_in_f hr) rfl (Nat.le_of_ble_eq_true rfl) rfl rfl ?_
  refine ev_if_neN 21 27 dX12_sample_18 (by decide) (by omega) rfl (fun hx => absurd ((by omega)) hx) (fun hbr => ?_)
  refine ev_aload_n 22 dX12_sample_21 rfl rfl ?_
  refine ev_iconst 23 (v := -1) dX12_sample_22 (by decide +kernel) rfl ?_
  refine ev_invV 26 (Mc := mX12_refused) ⟨lk1540, lk80, hdX12_refused, (Nat.le_of_ble_eq_true rfl), (Nat.le_of_ble_eq_true rfl)⟩ lk1537 lk1539 lk38 mm_cl12 rfl dX12_sample_23 (ct_X12_refused hM) rfl (hM.1 0 _ rfl) (Nat.le_of_ble_eq_true rfl) rfl rfl ?_
  exact ev_iret dX12_sample_26 rfl (rfl)
theorem ml_sample_u {r : Int32} (h : MA B I P m n k) (hr : -32768 ≤ r ∧ r ≤ nI 32767) (hw : I (m + 11) k = nI 640) : Ct g mX12_sample [.ref m, .int (nI k), .int r] B I J P (some (.int (-3)), B, mo_st I m (-3), J, P) := by
  obtain ⟨hM, hn, h8, hk⟩ := h
  refine ct_of (lv := [some (.ref m), some (.int (nI (k))), some (.int (r))]) (by decide +kernel) (Nat.le_of_ble_eq_true rfl) rfl ?_
  refine ev_aload_n 1 dX12_sample_0 rfl rfl ?_
  refine ev_iload_n 2 dX12_sample_1 rfl rfl ?_
  refine ev_invV 5 (Mc := mX12_isCoder) ⟨lk1552, lk80, hdX12_isCoder, (Nat.le_of_ble_eq_true rfl), (Nat.le_of_ble_eq_true rfl)⟩ lk1549 lk1551 lk40 mm_cl12 rfl dX12_sample_2 (ct_X12_isCoder_t hM hn h8 hk) rfl (hM.1 0 _ rfl) (Nat.le_of_ble_eq_true rfl) rfl rfl ?_
  refine ev_if_eqN 8 21 dX12_sample_5 (by decide) (by omega) rfl (fun hx => absurd hx ((by omega))) (fun hbr => ?_)
  refine ev_iload_n 9 dX12_sample_8 rfl rfl ?_
  refine ev_sipush 12 (v := -32768) dX12_sample_9 (by decide +kernel) rfl ?_
  refine ev_sipushN 15 32767 dX12_sample_12 (by decide +kernel) rfl ?_
  refine ev_invS 18 (Mc := mX12_in) ⟨lk1536, lk80, hdX12_in, (Nat.le_of_ble_eq_true rfl), (Nat.le_of_ble_eq_true rfl)⟩ lk1534 lk1535 dX12_sample_15 (ct_X12_in_t hr) rfl (Nat.le_of_ble_eq_true rfl) rfl rfl ?_
  refine ev_if_neN 21 27 dX12_sample_18 (by decide) (by omega) rfl (fun hbr => ?_) (fun hx => absurd hx ((by omega)))
  refine ev_aload_n 28 dX12_sample_27 rfl rfl ?_
  refine ev_getP 31 mm_cl12 (j := 16) (Nat.le_of_ble_eq_true rfl) dX12_sample_28 lk1301 (fun _ _ _ => rfl) (hM.1 0 _ rfl) (a := (m + 11)) (hM.2.2 10 _ _ _ rfl) rfl ?_
  refine ev_iload_n 32 dX12_sample_31 rfl rfl ?_
  refine ev_iald 33 _ dX12_sample_32 (hM.1 11 _ rfl) rfl (by have hNN := hM.2.1 11 _ rfl; omega) rfl ?_
  refine ev_eqI (y := nI (640)) (hw) ?_
  refine ev_sipushN 36 640 dX12_sample_33 (by decide +kernel) rfl ?_
  refine ev_icmp_neN 39 46 dX12_sample_36 (by decide) (by omega) (by omega) rfl (fun hx => absurd ((by omega)) hx) (fun hbr => ?_)
  refine ev_aload_n 40 dX12_sample_39 rfl rfl ?_
  refine ev_bipush 42 (v := -3) dX12_sample_40 (by decide +kernel) rfl ?_
  refine ev_invV 45 (Mc := mX12_refused) ⟨lk1540, lk80, hdX12_refused, (Nat.le_of_ble_eq_true rfl), (Nat.le_of_ble_eq_true rfl)⟩ lk1537 lk1539 lk38 mm_cl12 rfl dX12_sample_42 (ct_X12_refused hM) rfl (hM.1 0 _ rfl) (Nat.le_of_ble_eq_true rfl) rfl rfl ?_
  exact ev_iret dX12_sample_45 rfl (rfl)
theorem ml_sample_t {w : Nat} {r : Int32} (h : MA B I P m n k) (hr : -32768 ≤ r ∧ r ≤ nI 32767) (hw : I (m + 11) k = nI w) (h6 : w < 640) : Ct g mX12_sample [.ref m, .int (nI k), .int r] B I J P (some (.int (nI (w + 1))), B, mo_st (va_up (va_up I (m + 12) (va_up (I (m + 12)) (640 * k + w) r)) (m + 11) (va_up (I (m + 11)) k (nI (w + 1)))) m (nI 0), J, P) := by
  obtain ⟨hM, hn, h8, hk⟩ := h
  have e : va_up I (m + 12) (va_up (I (m + 12)) (640 * k + w) r) (m + 11) = I (m + 11) := va_up_n _ _ (by omega)
  refine ct_of (lv := [some (.ref m), some (.int (nI (k))), some (.int (r))]) (by decide +kernel) (Nat.le_of_ble_eq_true rfl) rfl ?_
  refine ev_aload_n 1 dX12_sample_0 rfl rfl ?_
  refine ev_iload_n 2 dX12_sample_1 rfl rfl ?_
  refine ev_invV 5 (Mc := mX12_isCoder) ⟨lk1552, lk80, hdX12_isCoder, (Nat.le_of_ble_eq_true rfl), (Nat.le_of_ble_eq_true rfl)⟩ lk1549 lk1551 lk40 mm_cl12 rfl dX12_sample_2 (ct_X12_isCoder_t hM hn h8 hk) rfl (hM.1 0 _ rfl) (Nat.le_of_ble_eq_true rfl) rfl rfl ?_
  refine ev_if_eqN 8 21 dX12_sample_5 (by decide) (by omega) rfl (fun hx => absurd hx ((by omega))) (fun hbr => ?_)
  refine ev_iload_n 9 dX12_sample_8 rfl rfl ?_
  refine ev_sipush 12 (v := -32768) dX12_sample_9 (by decide +kernel) rfl ?_
  refine ev_sipushN 15 32767 dX12_sample_12 (by decide +kernel) rfl ?_
  refine ev_invS 18 (Mc := mX12_in) ⟨lk1536, lk80, hdX12_in, (Nat.le_of_ble_eq_true rfl), (Nat.le_of_ble_eq_true rfl)⟩ lk1534 lk1535 dX12_sample_15 (ct_X12_in_t hr) rfl (Nat.le_of_ble_eq_true rfl) rfl rfl ?_
  refine ev_if_neN 21 27 dX12_sample_18 (by decide) (by omega) rfl (fun hbr => ?_) (fun hx => absurd hx ((by omega)))
  refine ev_aload_n 28 dX12_sample_27 rfl rfl ?_
  refine ev_getP 31 mm_cl12 (j := 16) (Nat.le_of_ble_eq_true rfl) dX12_sample_28 lk1301 (fun _ _ _ => rfl) (hM.1 0 _ rfl) (a := (m + 11)) (hM.2.2 10 _ _ _ rfl) rfl ?_
  refine ev_iload_n 32 dX12_sample_31 rfl rfl ?_
  refine ev_iald 33 _ dX12_sample_32 (hM.1 11 _ rfl) rfl (by have hNN := hM.2.1 11 _ rfl; omega) rfl ?_
  refine ev_eqI (y := nI (w)) (hw) ?_
  refine ev_sipushN 36 640 dX12_sample_33 (by decide +kernel) rfl ?_
  refine ev_icmp_neN 39 46 dX12_sample_36 (by decide) (by omega) (by omega) rfl (fun hbr => ?_) (fun hx => absurd hx ((by omega)))
  refine ev_aload_n 47 dX12_sample_46 rfl rfl ?_
  refine ev_getP 50 mm_cl12 (j := 17) (Nat.le_of_ble_eq_true rfl) dX12_sample_47 lk1302 (fun _ _ _ => rfl) (hM.1 0 _ rfl) (a := (m + 12)) (hM.2.2 11 _ _ _ rfl) rfl ?_
  refine ev_sipushN 53 640 dX12_sample_50 (by decide +kernel) rfl ?_
  refine ev_iload_n 54 dX12_sample_53 rfl rfl ?_
  refine ev_imulN 55 dX12_sample_54 rfl ?_
  refine ev_aload_n 56 dX12_sample_55 rfl rfl ?_
  refine ev_getP 59 mm_cl12 (j := 16) (Nat.le_of_ble_eq_true rfl) dX12_sample_56 lk1301 (fun _ _ _ => rfl) (hM.1 0 _ rfl) (a := (m + 11)) (hM.2.2 10 _ _ _ rfl) rfl ?_
  refine ev_iload_n 60 dX12_sample_59 rfl rfl ?_
  refine ev_iald 61 _ dX12_sample_60 (hM.1 11 _ rfl) rfl (by have hNN := hM.2.1 11 _ rfl; omega) rfl ?_
  refine ev_eqI (y := nI (w)) (hw) ?_
  refine ev_iaddN 62 dX12_sample_61 rfl ?_
  refine ev_iload_n 63 dX12_sample_62 rfl rfl ?_
  refine ev_iast 64 _ dX12_sample_63 (hM.1 12 _ rfl) rfl (by have hNN := hM.2.1 12 _ rfl; omega) rfl ?_
  refine ev_aload_n 65 dX12_sample_64 rfl rfl ?_
  refine ev_getP 68 mm_cl12 (j := 16) (Nat.le_of_ble_eq_true rfl) dX12_sample_65 lk1301 (fun _ _ _ => rfl) (hM.1 0 _ rfl) (a := (m + 11)) (hM.2.2 10 _ _ _ rfl) rfl ?_
  refine ev_iload_n 69 dX12_sample_68 rfl rfl ?_
  refine ev_dup2_11 70 dX12_sample_69 rfl rfl rfl ?_
  refine ev_iald 71 _ dX12_sample_70 (hM.1 11 _ rfl) rfl (by have hNN := hM.2.1 11 _ rfl; omega) rfl ?_
  refine ev_eqI (y := nI (w)) ((by rw [e]; exact hw)) ?_
  refine ev_iconstN 72 1 dX12_sample_71 rfl ?_
  refine ev_iaddN 73 dX12_sample_72 rfl ?_
  refine ev_iast 74 _ dX12_sample_73 (hM.1 11 _ rfl) rfl (by have hNN := hM.2.1 11 _ rfl; omega) rfl ?_
  rw [e]
  refine ev_aload_n 75 dX12_sample_74 rfl rfl ?_
  refine ev_aload_n 76 dX12_sample_75 rfl rfl ?_
  refine ev_getP 79 mm_cl12 (j := 16) (Nat.le_of_ble_eq_true rfl) dX12_sample_76 lk1301 (fun _ _ _ => rfl) (hM.1 0 _ rfl) (a := (m + 11)) (hM.2.2 10 _ _ _ rfl) rfl ?_
  refine ev_iload_n 80 dX12_sample_79 rfl rfl ?_
  refine ev_iald 81 _ dX12_sample_80 (hM.1 11 _ rfl) rfl (by have hNN := hM.2.1 11 _ rfl; omega) rfl ?_
  refine ev_eqI (y := nI ((w+1))) ((by rw [va_up_s, va_up_s])) ?_
  refine ev_invV 84 (Mc := mX12_done) ⟨lk1544, lk80, hdX12_done, (Nat.le_of_ble_eq_true rfl), (Nat.le_of_ble_eq_true rfl)⟩ lk1541 lk1543 lk39 mm_cl12 rfl dX12_sample_81 (ct_X12_done hM) rfl (hM.1 0 _ rfl) (Nat.le_of_ble_eq_true rfl) rfl rfl ?_
  exact ev_iret dX12_sample_84 rfl (rfl)
/-! waves -/
theorem ct_isWave_t {kd p q : Int32} (h : WG kd p q) : Ct g mX11_isWave [.int kd, .int p, .int q] B I J P (some (.int (nI 1)), B, I, J, P) := by
  rcases h with ⟨h1, h2⟩ | ⟨h1, h2, h3, ⟨h4, h5⟩ | ⟨h4, h5⟩⟩
  · refine ct_of (lv := [some (.int (kd)), some (.int (p)), some (.int (q))]) (by decide +kernel) (Nat.le_of_ble_eq_true rfl) rfl ?_
    refine ev_iload_n 1 dX11_isWave_0 rfl rfl ?_
    refine ev_if_ne 4 9 dX11_isWave_1 (by decide) rfl (fun hx => absurd (h1) hx) (fun hbr => ?_)
    refine ev_iload_n 5 dX11_isWave_4 rfl rfl ?_
    refine ev_invS 8 (Mc := mX11_isSample) ⟨lk605, lk75, hdX11_isSample, (Nat.le_of_ble_eq_true rfl), (Nat.le_of_ble_eq_true rfl)⟩ lk603 lk604 dX11_isWave_5 (ct_isSample_t h2) rfl (Nat.le_of_ble_eq_true rfl) rfl rfl ?_
    exact ev_zret dX11_isWave_8 rfl (by first | rfl | assumption) (rfl)
  · refine ct_of (lv := [some (.int (kd)), some (.int (p)), some (.int (q))]) (by decide +kernel) (Nat.le_of_ble_eq_true rfl) rfl ?_
    refine ev_iload_n 1 dX11_isWave_0 rfl rfl ?_
    refine ev_if_ne 4 9 dX11_isWave_1 (by decide) rfl (fun hbr => ?_) (fun hx => absurd hx (h1))
    refine ev_iload_n 10 dX11_isWave_9 rfl rfl ?_
    refine ev_if_lt 13 29 dX11_isWave_10 (by decide) rfl (fun hx => absurd hx ((Int32.not_lt.mpr h2.1))) (fun hbr => ?_)
    refine ev_iload_n 14 dX11_isWave_13 rfl rfl ?_
    refine ev_iconstN 15 4 dX11_isWave_14 rfl ?_
    refine ev_icmp_gt 18 29 dX11_isWave_15 (by decide) rfl (fun hx => absurd hx ((Int32.not_lt.mpr h2.2))) (fun hbr => ?_)
    refine ev_iload_n 19 dX11_isWave_18 rfl rfl ?_
    refine ev_if_lt 22 29 dX11_isWave_19 (by decide) rfl (fun hx => absurd hx ((Int32.not_lt.mpr h3.1))) (fun hbr => ?_)
    refine ev_iload_n 23 dX11_isWave_22 rfl rfl ?_
    refine ev_sipushN 26 32767 dX11_isWave_23 (by decide +kernel) rfl ?_
    refine ev_icmp_le 29 31 dX11_isWave_26 (by decide) rfl (fun hbr => ?_) (fun hx => absurd (h3.2) hx)
    refine ev_iload_n 32 dX11_isWave_31 rfl rfl ?_
    refine ev_iconstN 33 2 dX11_isWave_32 rfl ?_
    refine ev_icmp_ne 36 48 dX11_isWave_33 (by decide) rfl (fun hx => absurd (h4) hx) (fun hbr => ?_)
    refine ev_iload_n 37 dX11_isWave_36 rfl rfl ?_
    refine ev_if_lt 40 44 dX11_isWave_37 (by decide) rfl (fun hx => absurd hx ((Int32.not_lt.mpr h5))) (fun hbr => ?_)
    refine ev_iconstN 41 1 dX11_isWave_40 rfl ?_
    refine ev_goto 65 dX11_isWave_41 (by decide) ?_
    exact ev_zret dX11_isWave_65 rfl (by first | rfl | assumption) (rfl)
  · refine ct_of (lv := [some (.int (kd)), some (.int (p)), some (.int (q))]) (by decide +kernel) (Nat.le_of_ble_eq_true rfl) rfl ?_
    refine ev_iload_n 1 dX11_isWave_0 rfl rfl ?_
    refine ev_if_ne 4 9 dX11_isWave_1 (by decide) rfl (fun hbr => ?_) (fun hx => absurd hx (h1))
    refine ev_iload_n 10 dX11_isWave_9 rfl rfl ?_
    refine ev_if_lt 13 29 dX11_isWave_10 (by decide) rfl (fun hx => absurd hx ((Int32.not_lt.mpr h2.1))) (fun hbr => ?_)
    refine ev_iload_n 14 dX11_isWave_13 rfl rfl ?_
    refine ev_iconstN 15 4 dX11_isWave_14 rfl ?_
    refine ev_icmp_gt 18 29 dX11_isWave_15 (by decide) rfl (fun hx => absurd hx ((Int32.not_lt.mpr h2.2))) (fun hbr => ?_)
    refine ev_iload_n 19 dX11_isWave_18 rfl rfl ?_
    refine ev_if_lt 22 29 dX11_isWave_19 (by decide) rfl (fun hx => absurd hx ((Int32.not_lt.mpr h3.1))) (fun hbr => ?_)
    refine ev_iload_n 23 dX11_isWave_22 rfl rfl ?_
    refine ev_sipushN 26 32767 dX11_isWave_23 (by decide +kernel) rfl ?_
    refine ev_icmp_le 29 31 dX11_isWave_26 (by decide) rfl (fun hbr => ?_) (fun hx => absurd (h3.2) hx)
    refine ev_iload_n 32 dX11_isWave_31 rfl rfl ?_
    refine ev_iconstN 33 2 dX11_isWave_32 rfl ?_
    refine ev_icmp_ne 36 48 dX11_isWave_33 (by decide) rfl (fun hbr => ?_) (fun hx => absurd hx (h4))
    refine ev_iload_n 49 dX11_isWave_48 rfl rfl ?_
    refine ev_iconstN 50 2 dX11_isWave_49 rfl ?_
    refine ev_icmp_lt 53 64 dX11_isWave_50 (by decide) rfl (fun hx => absurd hx ((Int32.not_lt.mpr h5.1))) (fun hbr => ?_)
    refine ev_iload_n 54 dX11_isWave_53 rfl rfl ?_
    refine ev_sipushN 57 640 dX11_isWave_54 (by decide +kernel) rfl ?_
    refine ev_icmp_gt 60 64 dX11_isWave_57 (by decide) rfl (fun hx => absurd hx ((Int32.not_lt.mpr h5.2))) (fun hbr => ?_)
    refine ev_iconstN 61 1 dX11_isWave_60 rfl ?_
    refine ev_goto 65 dX11_isWave_61 (by decide) ?_
    exact ev_zret dX11_isWave_65 rfl (by first | rfl | assumption) (rfl)
theorem ct_isWave_f {kd p q : Int32} (h : ¬ WG kd p q) : Ct g mX11_isWave [.int kd, .int p, .int q] B I J P (some (.int (nI 0)), B, I, J, P) := by
  by_cases h1 : kd = 0
  · have hs : ¬ (-32768 ≤ p ∧ p ≤ nI 32767) := fun e => h (Or.inl ⟨h1, e⟩)
    refine ct_of (lv := [some (.int (kd)), some (.int (p)), some (.int (q))]) (by decide +kernel) (Nat.le_of_ble_eq_true rfl) rfl ?_
    refine ev_iload_n 1 dX11_isWave_0 rfl rfl ?_
    refine ev_if_ne 4 9 dX11_isWave_1 (by decide) rfl (fun hx => absurd (h1) hx) (fun hbr => ?_)
    refine ev_iload_n 5 dX11_isWave_4 rfl rfl ?_
    refine ev_invS 8 (Mc := mX11_isSample) ⟨lk605, lk75, hdX11_isSample, (Nat.le_of_ble_eq_true rfl), (Nat.le_of_ble_eq_true rfl)⟩ lk603 lk604 dX11_isWave_5 (ct_isSample_f hs) rfl (Nat.le_of_ble_eq_true rfl) rfl rfl ?_
    exact ev_zret dX11_isWave_8 rfl (by first | rfl | assumption) (rfl)
  · by_cases h2 : kd < 0
    · refine ct_of (lv := [some (.int (kd)), some (.int (p)), some (.int (q))]) (by decide +kernel) (Nat.le_of_ble_eq_true rfl) rfl ?_
      refine ev_iload_n 1 dX11_isWave_0 rfl rfl ?_
      refine ev_if_ne 4 9 dX11_isWave_1 (by decide) rfl (fun hbr => ?_) (fun hx => absurd hx (h1))
      refine ev_iload_n 10 dX11_isWave_9 rfl rfl ?_
      refine ev_if_lt 13 29 dX11_isWave_10 (by decide) rfl (fun hbr => ?_) (fun hx => absurd (h2) hx)
      refine ev_iconstN 30 0 dX11_isWave_29 rfl ?_
      exact ev_zret dX11_isWave_30 rfl (by first | rfl | assumption) (rfl)
    · by_cases h3 : nI 4 < kd
      · refine ct_of (lv := [some (.int (kd)), some (.int (p)), some (.int (q))]) (by decide +kernel) (Nat.le_of_ble_eq_true rfl) rfl ?_
        refine ev_iload_n 1 dX11_isWave_0 rfl rfl ?_
        refine ev_if_ne 4 9 dX11_isWave_1 (by decide) rfl (fun hbr => ?_) (fun hx => absurd hx (h1))
        refine ev_iload_n 10 dX11_isWave_9 rfl rfl ?_
        refine ev_if_lt 13 29 dX11_isWave_10 (by decide) rfl (fun hx => absurd hx (h2)) (fun hbr => ?_)
        refine ev_iload_n 14 dX11_isWave_13 rfl rfl ?_
        refine ev_iconstN 15 4 dX11_isWave_14 rfl ?_
        refine ev_icmp_gt 18 29 dX11_isWave_15 (by decide) rfl (fun hbr => ?_) (fun hx => absurd (h3) hx)
        refine ev_iconstN 30 0 dX11_isWave_29 rfl ?_
        exact ev_zret dX11_isWave_30 rfl (by first | rfl | assumption) (rfl)
      · by_cases h4 : q < 0
        · refine ct_of (lv := [some (.int (kd)), some (.int (p)), some (.int (q))]) (by decide +kernel) (Nat.le_of_ble_eq_true rfl) rfl ?_
          refine ev_iload_n 1 dX11_isWave_0 rfl rfl ?_
          refine ev_if_ne 4 9 dX11_isWave_1 (by decide) rfl (fun hbr => ?_) (fun hx => absurd hx (h1))
          refine ev_iload_n 10 dX11_isWave_9 rfl rfl ?_
          refine ev_if_lt 13 29 dX11_isWave_10 (by decide) rfl (fun hx => absurd hx (h2)) (fun hbr => ?_)
          refine ev_iload_n 14 dX11_isWave_13 rfl rfl ?_
          refine ev_iconstN 15 4 dX11_isWave_14 rfl ?_
          refine ev_icmp_gt 18 29 dX11_isWave_15 (by decide) rfl (fun hx => absurd hx (h3)) (fun hbr => ?_)
          refine ev_iload_n 19 dX11_isWave_18 rfl rfl ?_
          refine ev_if_lt 22 29 dX11_isWave_19 (by decide) rfl (fun hbr => ?_) (fun hx => absurd (h4) hx)
          refine ev_iconstN 30 0 dX11_isWave_29 rfl ?_
          exact ev_zret dX11_isWave_30 rfl (by first | rfl | assumption) (rfl)
        · by_cases h5 : q ≤ nI 32767
          · have hg := fun e => h (Or.inr ⟨h1, ⟨Int32.not_lt.mp h2, Int32.not_lt.mp h3⟩, ⟨Int32.not_lt.mp h4, h5⟩, e⟩)
            by_cases h6 : kd = nI 2
            · have h7 : p < 0 := Int32.not_le.mp (fun e => hg (Or.inl ⟨h6, e⟩))
              refine ct_of (lv := [some (.int (kd)), some (.int (p)), some (.int (q))]) (by decide +kernel) (Nat.le_of_ble_eq_true rfl) rfl ?_
              refine ev_iload_n 1 dX11_isWave_0 rfl rfl ?_
              refine ev_if_ne 4 9 dX11_isWave_1 (by decide) rfl (fun hbr => ?_) (fun hx => absurd hx (h1))
              refine ev_iload_n 10 dX11_isWave_9 rfl rfl ?_
              refine ev_if_lt 13 29 dX11_isWave_10 (by decide) rfl (fun hx => absurd hx (h2)) (fun hbr => ?_)
              refine ev_iload_n 14 dX11_isWave_13 rfl rfl ?_
              refine ev_iconstN 15 4 dX11_isWave_14 rfl ?_
              refine ev_icmp_gt 18 29 dX11_isWave_15 (by decide) rfl (fun hx => absurd hx (h3)) (fun hbr => ?_)
              refine ev_iload_n 19 dX11_isWave_18 rfl rfl ?_
              refine ev_if_lt 22 29 dX11_isWave_19 (by decide) rfl (fun hx => absurd hx (h4)) (fun hbr => ?_)
              refine ev_iload_n 23 dX11_isWave_22 rfl rfl ?_
              refine ev_sipushN 26 32767 dX11_isWave_23 (by decide +kernel) rfl ?_
              refine ev_icmp_le 29 31 dX11_isWave_26 (by decide) rfl (fun hbr => ?_) (fun hx => absurd (h5) hx)
              refine ev_iload_n 32 dX11_isWave_31 rfl rfl ?_
              refine ev_iconstN 33 2 dX11_isWave_32 rfl ?_
              refine ev_icmp_ne 36 48 dX11_isWave_33 (by decide) rfl (fun hx => absurd (h6) hx) (fun hbr => ?_)
              refine ev_iload_n 37 dX11_isWave_36 rfl rfl ?_
              refine ev_if_lt 40 44 dX11_isWave_37 (by decide) rfl (fun hbr => ?_) (fun hx => absurd (h7) hx)
              refine ev_iconstN 45 0 dX11_isWave_44 rfl ?_
              refine ev_goto 65 dX11_isWave_45 (by decide) ?_
              exact ev_zret dX11_isWave_65 rfl (by first | rfl | assumption) (rfl)
            · by_cases h7 : p < nI 2
              · refine ct_of (lv := [some (.int (kd)), some (.int (p)), some (.int (q))]) (by decide +kernel) (Nat.le_of_ble_eq_true rfl) rfl ?_
                refine ev_iload_n 1 dX11_isWave_0 rfl rfl ?_
                refine ev_if_ne 4 9 dX11_isWave_1 (by decide) rfl (fun hbr => ?_) (fun hx => absurd hx (h1))
                refine ev_iload_n 10 dX11_isWave_9 rfl rfl ?_
                refine ev_if_lt 13 29 dX11_isWave_10 (by decide) rfl (fun hx => absurd hx (h2)) (fun hbr => ?_)
                refine ev_iload_n 14 dX11_isWave_13 rfl rfl ?_
                refine ev_iconstN 15 4 dX11_isWave_14 rfl ?_
                refine ev_icmp_gt 18 29 dX11_isWave_15 (by decide) rfl (fun hx => absurd hx (h3)) (fun hbr => ?_)
                refine ev_iload_n 19 dX11_isWave_18 rfl rfl ?_
                refine ev_if_lt 22 29 dX11_isWave_19 (by decide) rfl (fun hx => absurd hx (h4)) (fun hbr => ?_)
                refine ev_iload_n 23 dX11_isWave_22 rfl rfl ?_
                refine ev_sipushN 26 32767 dX11_isWave_23 (by decide +kernel) rfl ?_
                refine ev_icmp_le 29 31 dX11_isWave_26 (by decide) rfl (fun hbr => ?_) (fun hx => absurd (h5) hx)
                refine ev_iload_n 32 dX11_isWave_31 rfl rfl ?_
                refine ev_iconstN 33 2 dX11_isWave_32 rfl ?_
                refine ev_icmp_ne 36 48 dX11_isWave_33 (by decide) rfl (fun hbr => ?_) (fun hx => absurd hx (h6))
                refine ev_iload_n 49 dX11_isWave_48 rfl rfl ?_
                refine ev_iconstN 50 2 dX11_isWave_49 rfl ?_
                refine ev_icmp_lt 53 64 dX11_isWave_50 (by decide) rfl (fun hbr => ?_) (fun hx => absurd (h7) hx)
                refine ev_iconstN 65 0 dX11_isWave_64 rfl ?_
                exact ev_zret dX11_isWave_65 rfl (by first | rfl | assumption) (rfl)
              · have h8 : nI 640 < p := Int32.not_le.mp (fun e => hg (Or.inr ⟨h6, Int32.not_lt.mp h7, e⟩))
                refine ct_of (lv := [some (.int (kd)), some (.int (p)), some (.int (q))]) (by decide +kernel) (Nat.le_of_ble_eq_true rfl) rfl ?_
                refine ev_iload_n 1 dX11_isWave_0 rfl rfl ?_
                refine ev_if_ne 4 9 dX11_isWave_1 (by decide) rfl (fun hbr => ?_) (fun hx => absurd hx (h1))
                refine ev_iload_n 10 dX11_isWave_9 rfl rfl ?_
                refine ev_if_lt 13 29 dX11_isWave_10 (by decide) rfl (fun hx => absurd hx (h2)) (fun hbr => ?_)
                refine ev_iload_n 14 dX11_isWave_13 rfl rfl ?_
                refine ev_iconstN 15 4 dX11_isWave_14 rfl ?_
                refine ev_icmp_gt 18 29 dX11_isWave_15 (by decide) rfl (fun hx => absurd hx (h3)) (fun hbr => ?_)
                refine ev_iload_n 19 dX11_isWave_18 rfl rfl ?_
                refine ev_if_lt 22 29 dX11_isWave_19 (by decide) rfl (fun hx => absurd hx (h4)) (fun hbr => ?_)
                refine ev_iload_n 23 dX11_isWave_22 rfl rfl ?_
                refine ev_sipushN 26 32767 dX11_isWave_23 (by decide +kernel) rfl ?_
                refine ev_icmp_le 29 31 dX11_isWave_26 (by decide) rfl (fun hbr => ?_) (fun hx => absurd (h5) hx)
                refine ev_iload_n 32 dX11_isWave_31 rfl rfl ?_
                refine ev_iconstN 33 2 dX11_isWave_32 rfl ?_
                refine ev_icmp_ne 36 48 dX11_isWave_33 (by decide) rfl (fun hbr => ?_) (fun hx => absurd hx (h6))
                refine ev_iload_n 49 dX11_isWave_48 rfl rfl ?_
                refine ev_iconstN 50 2 dX11_isWave_49 rfl ?_
                refine ev_icmp_lt 53 64 dX11_isWave_50 (by decide) rfl (fun hx => absurd hx (h7)) (fun hbr => ?_)
                refine ev_iload_n 54 dX11_isWave_53 rfl rfl ?_
                refine ev_sipushN 57 640 dX11_isWave_54 (by decide +kernel) rfl ?_
                refine ev_icmp_gt 60 64 dX11_isWave_57 (by decide) rfl (fun hbr => ?_) (fun hx => absurd (h8) hx)
                refine ev_iconstN 65 0 dX11_isWave_64 rfl ?_
                exact ev_zret dX11_isWave_65 rfl (by first | rfl | assumption) (rfl)
          · refine ct_of (lv := [some (.int (kd)), some (.int (p)), some (.int (q))]) (by decide +kernel) (Nat.le_of_ble_eq_true rfl) rfl ?_
            refine ev_iload_n 1 dX11_isWave_0 rfl rfl ?_
            refine ev_if_ne 4 9 dX11_isWave_1 (by decide) rfl (fun hbr => ?_) (fun hx => absurd hx (h1))
            refine ev_iload_n 10 dX11_isWave_9 rfl rfl ?_
            refine ev_if_lt 13 29 dX11_isWave_10 (by decide) rfl (fun hx => absurd hx (h2)) (fun hbr => ?_)
            refine ev_iload_n 14 dX11_isWave_13 rfl rfl ?_
            refine ev_iconstN 15 4 dX11_isWave_14 rfl ?_
            refine ev_icmp_gt 18 29 dX11_isWave_15 (by decide) rfl (fun hx => absurd hx (h3)) (fun hbr => ?_)
            refine ev_iload_n 19 dX11_isWave_18 rfl rfl ?_
            refine ev_if_lt 22 29 dX11_isWave_19 (by decide) rfl (fun hx => absurd hx (h4)) (fun hbr => ?_)
            refine ev_iload_n 23 dX11_isWave_22 rfl rfl ?_
            refine ev_sipushN 26 32767 dX11_isWave_23 (by decide +kernel) rfl ?_
            refine ev_icmp_le 29 31 dX11_isWave_26 (by decide) rfl (fun hx => absurd hx (h5)) (fun hbr => ?_)
            refine ev_iconstN 30 0 dX11_isWave_29 rfl ?_
            exact ev_zret dX11_isWave_30 rfl (by first | rfl | assumption) (rfl)
theorem ct_waveAt_0 {p : Int32} {q i : Nat} : Ct g mX11_waveAt [.int (nI 0), .int p, .int (nI q), .int (nI i)] B I J P (some (.int p), B, I, J, P) := by
  refine ct_of (lv := [some (.int (nI (0))), some (.int (p)), some (.int (nI (q))), some (.int (nI (i))), none]) (by decide +kernel) (Nat.le_of_ble_eq_true rfl) rfl ?_
  refine ev_iload_n 1 dX11_waveAt_0 rfl rfl ?_
  refine ev_if_eqN 4 9 dX11_waveAt_1 (by decide) (by omega) rfl (fun hbr => ?_) (fun hx => absurd ((by omega)) hx)
  refine ev_iload_n 10 dX11_waveAt_9 rfl rfl ?_
  exact ev_iret dX11_waveAt_10 rfl (rfl)
theorem ct_waveAt_1 {p q i : Nat} (hp : 2 ≤ p) (hp2 : p ≤ 640) (hq : q ≤ 32767) (hi : i ≤ 320) : Ct g mX11_waveAt [.int (nI 1), .int (nI p), .int (nI q), .int (nI i)] B I J P (some (.int (nI (2 * q * (i % p) / p) - nI q)), B, I, J, P) := by
  have hm : i % p < p := Nat.mod_lt _ (by omega)
  have hb : 2 * q * (i % p) < 2 ^ 31 := Nat.lt_of_le_of_lt (Nat.mul_le_mul (show 2 * q ≤ 65534 by omega) (show i % p ≤ 640 by omega)) (by decide)
  refine ct_of (lv := [some (.int (nI (1))), some (.int (nI (p))), some (.int (nI (q))), some (.int (nI (i))), none]) (by decide +kernel) (Nat.le_of_ble_eq_true rfl) rfl ?_
  refine ev_iload_n 1 dX11_waveAt_0 rfl rfl ?_
  refine ev_if_eqN 4 9 dX11_waveAt_1 (by decide) (by omega) rfl (fun hx => absurd hx ((by omega))) (fun hbr => ?_)
  refine ev_iload_n 5 dX11_waveAt_4 rfl rfl ?_
  refine ev_iconstN 6 1 dX11_waveAt_5 rfl ?_
  refine ev_icmp_geN 9 11 dX11_waveAt_6 (by decide) (by omega) (by omega) rfl (fun hbr => ?_) (fun hx => absurd ((by omega)) hx)
  refine ev_iload_n 12 dX11_waveAt_11 rfl rfl ?_
  refine ev_iload_n 13 dX11_waveAt_12 rfl rfl ?_
  refine ev_iremN 14 dX11_waveAt_13 (by omega) (by omega) (by omega) rfl ?_
  refine ev_istore 16 (lv' := [_, _, _, some (.int _), _]) dX11_waveAt_14 (Nat.le_of_ble_eq_true rfl) rfl rfl ?_
  refine ev_iload_n 17 dX11_waveAt_16 rfl rfl ?_
  refine ev_iconstN 18 1 dX11_waveAt_17 rfl ?_
  refine ev_icmp_neN 21 32 dX11_waveAt_18 (by decide) (by omega) (by omega) rfl (fun hx => absurd ((by omega)) hx) (fun hbr => ?_)
  refine ev_iconstN 22 2 dX11_waveAt_21 rfl ?_
  refine ev_iload_n 23 dX11_waveAt_22 rfl rfl ?_
  refine ev_imulN 24 dX11_waveAt_23 rfl ?_
  refine ev_iload 26 dX11_waveAt_24 rfl rfl ?_
  refine ev_imulN 27 dX11_waveAt_26 rfl ?_
  refine ev_iload_n 28 dX11_waveAt_27 rfl rfl ?_
  refine ev_idivN 29 dX11_waveAt_28 (by omega) (by omega) (by omega) rfl ?_
  refine ev_eqI (y := ((nI (2 * q * (i % p) / p)))) (rfl) ?_
  refine ev_iload_n 30 dX11_waveAt_29 rfl rfl ?_
  refine ev_isub 31 dX11_waveAt_30 rfl ?_
  exact ev_iret dX11_waveAt_31 rfl (rfl)
theorem ct_waveAt_3 {p q i : Nat} (hp : 2 ≤ p) (hp2 : p ≤ 640) (hq : q ≤ 32767) (hi : i ≤ 320) : Ct g mX11_waveAt [.int (nI 3), .int (nI p), .int (nI q), .int (nI i)] B I J P (some (.int (nI (2 * q * ab_d (2 * (i % p)) p / p) - nI q)), B, I, J, P) := by
  have hm : i % p < p := Nat.mod_lt _ (by omega)
  have ha : ab_d (2 * (i % p)) p ≤ 640 := by unfold ab_d; split <;> omega
  have hb : 2 * q * ab_d (2 * (i % p)) p < 2 ^ 31 := Nat.lt_of_le_of_lt (Nat.mul_le_mul (show 2 * q ≤ 65534 by omega) ha) (by decide)
  refine ct_of (lv := [some (.int (nI (3))), some (.int (nI (p))), some (.int (nI (q))), some (.int (nI (i))), none]) (by decide +kernel) (Nat.le_of_ble_eq_true rfl) rfl ?_
  refine ev_iload_n 1 dX11_waveAt_0 rfl rfl ?_
  refine ev_if_eqN 4 9 dX11_waveAt_1 (by decide) (by omega) rfl (fun hx => absurd hx ((by omega))) (fun hbr => ?_)
  refine ev_iload_n 5 dX11_waveAt_4 rfl rfl ?_
  refine ev_iconstN 6 1 dX11_waveAt_5 rfl ?_
  refine ev_icmp_geN 9 11 dX11_waveAt_6 (by decide) (by omega) (by omega) rfl (fun hbr => ?_) (fun hx => absurd ((by omega)) hx)
  refine ev_iload_n 12 dX11_waveAt_11 rfl rfl ?_
  refine ev_iload_n 13 dX11_waveAt_12 rfl rfl ?_
  refine ev_iremN 14 dX11_waveAt_13 (by omega) (by omega) (by omega) rfl ?_
  refine ev_istore 16 (lv' := [_, _, _, some (.int _), _]) dX11_waveAt_14 (Nat.le_of_ble_eq_true rfl) rfl rfl ?_
  refine ev_iload_n 17 dX11_waveAt_16 rfl rfl ?_
  refine ev_iconstN 18 1 dX11_waveAt_17 rfl ?_
  refine ev_icmp_neN 21 32 dX11_waveAt_18 (by decide) (by omega) (by omega) rfl (fun hbr => ?_) (fun hx => absurd hx ((by omega)))
  refine ev_iload_n 33 dX11_waveAt_32 rfl rfl ?_
  refine ev_iconstN 34 3 dX11_waveAt_33 rfl ?_
  refine ev_icmp_neN 37 55 dX11_waveAt_34 (by decide) (by omega) (by omega) rfl (fun hx => absurd ((by omega)) hx) (fun hbr => ?_)
  refine ev_iconstN 38 2 dX11_waveAt_37 rfl ?_
  refine ev_iload_n 39 dX11_waveAt_38 rfl rfl ?_
  refine ev_imulN 40 dX11_waveAt_39 rfl ?_
  refine ev_iconstN 41 2 dX11_waveAt_40 rfl ?_
  refine ev_iload 43 dX11_waveAt_41 rfl rfl ?_
  refine ev_imulN 44 dX11_waveAt_43 rfl ?_
  refine ev_eqI (y := ((nI (2 * (i % p))))) (rfl) ?_
  refine ev_iload_n 45 dX11_waveAt_44 rfl rfl ?_
  refine ev_isub 46 dX11_waveAt_45 rfl ?_
  refine ev_abs 49 dX11_waveAt_46 lk630 lk631 lk87 lk632 (Nat.le_of_ble_eq_true rfl) (Nat.le_of_ble_eq_true rfl) (Nat.le_of_ble_eq_true rfl) rfl ?_
  refine ev_eqI (y := nI ((ab_d (2 * (i % p)) p))) ((ab_c (by omega) (by omega))) ?_
  refine ev_imulN 50 dX11_waveAt_49 rfl ?_
  refine ev_iload_n 51 dX11_waveAt_50 rfl rfl ?_
  refine ev_idivN 52 dX11_waveAt_51 (by omega) (by omega) (by omega) rfl ?_
  refine ev_eqI (y := ((nI (2 * q * ab_d (2 * (i % p)) p / p)))) (rfl) ?_
  refine ev_iload_n 53 dX11_waveAt_52 rfl rfl ?_
  refine ev_isub 54 dX11_waveAt_53 rfl ?_
  exact ev_iret dX11_waveAt_54 rfl (rfl)
theorem ct_waveAt_4 {p q i : Nat} (hp : 2 ≤ p) (hp2 : p ≤ 640) (hq : q ≤ 32767) (hi : i ≤ 320) : Ct g mX11_waveAt [.int (nI 4), .int (nI p), .int (nI q), .int (nI i)] B I J P (some (.int (nI (if i % p = 0 then q else 0))), B, I, J, P) := by
  have hm : i % p < p := Nat.mod_lt _ (by omega)
  refine ct_of (lv := [some (.int (nI (4))), some (.int (nI (p))), some (.int (nI (q))), some (.int (nI (i))), none]) (by decide +kernel) (Nat.le_of_ble_eq_true rfl) rfl ?_
  refine ev_iload_n 1 dX11_waveAt_0 rfl rfl ?_
  refine ev_if_eqN 4 9 dX11_waveAt_1 (by decide) (by omega) rfl (fun hx => absurd hx ((by omega))) (fun hbr => ?_)
  refine ev_iload_n 5 dX11_waveAt_4 rfl rfl ?_
  refine ev_iconstN 6 1 dX11_waveAt_5 rfl ?_
  refine ev_icmp_geN 9 11 dX11_waveAt_6 (by decide) (by omega) (by omega) rfl (fun hbr => ?_) (fun hx => absurd ((by omega)) hx)
  refine ev_iload_n 12 dX11_waveAt_11 rfl rfl ?_
  refine ev_iload_n 13 dX11_waveAt_12 rfl rfl ?_
  refine ev_iremN 14 dX11_waveAt_13 (by omega) (by omega) (by omega) rfl ?_
  refine ev_istore 16 (lv' := [_, _, _, some (.int _), _]) dX11_waveAt_14 (Nat.le_of_ble_eq_true rfl) rfl rfl ?_
  refine ev_iload_n 17 dX11_waveAt_16 rfl rfl ?_
  refine ev_iconstN 18 1 dX11_waveAt_17 rfl ?_
  refine ev_icmp_neN 21 32 dX11_waveAt_18 (by decide) (by omega) (by omega) rfl (fun hbr => ?_) (fun hx => absurd hx ((by omega)))
  refine ev_iload_n 33 dX11_waveAt_32 rfl rfl ?_
  refine ev_iconstN 34 3 dX11_waveAt_33 rfl ?_
  refine ev_icmp_neN 37 55 dX11_waveAt_34 (by decide) (by omega) (by omega) rfl (fun hbr => ?_) (fun hx => absurd hx ((by omega)))
  refine ev_iload 57 dX11_waveAt_55 rfl rfl ?_
  refine ev_if_neN 60 64 dX11_waveAt_57 (by decide) (by omega) rfl (fun h1 => ?_) (fun h1 => ?_)
  · refine ev_iconstN 65 0 dX11_waveAt_64 rfl ?_
    rw [if_neg (by omega)]
    exact ev_iret dX11_waveAt_65 rfl (rfl)
  · refine ev_iload_n 61 dX11_waveAt_60 rfl rfl ?_
    refine ev_goto 65 dX11_waveAt_61 (by decide) ?_
    rw [if_pos (by omega)]
    exact ev_iret dX11_waveAt_65 rfl (rfl)
theorem ct_drawnAny {z : Int64} : ∃ z' : Int64, ∀ (B : mm_B) (I : mm_TI) (J : mm_TJ) (P : mm_TP), Ct g mX11_drawnFrom [.long z] B I J P (some (.long z'), B, I, J, P) := by
  refine ⟨(z * 1103515245 + 12345) &&& 2147483647, fun B I J P => ?_⟩
  refine ct_of (lv := [some (.long (z)), none]) (by decide +kernel) (Nat.le_of_ble_eq_true rfl) rfl ?_
  refine ev_lload_n 1 dX11_drawnFrom_0 rfl rfl ?_
  refine ev_ldc2 4 dX11_drawnFrom_1 lk620 rfl ?_
  refine ev_lmul 5 dX11_drawnFrom_4 rfl ?_
  refine ev_ldc2 8 dX11_drawnFrom_5 lk621 rfl ?_
  refine ev_ladd 9 dX11_drawnFrom_8 rfl ?_
  refine ev_ldc2 12 dX11_drawnFrom_9 lk622 rfl ?_
  refine ev_land 13 dX11_drawnFrom_12 rfl ?_
  exact ev_lret dX11_drawnFrom_13 rfl (rfl)
theorem cl_wave_f {c kd p q n' : Int32} (hV : lyV B P x) (hx : I x 4 = nI n) (hc : ¬ (0 ≤ c ∧ c < nI n)) : Ct g mX11_wave [.ref x, .int c, .int kd, .int p, .int q, .int (n')] B I J P (some (.int (-1)), B, vst I x (-1), J, P) := by
  refine ct_of (lv := [some (.ref x), some (.int (c)), some (.int (kd)), some (.int (p)), some (.int (q)), some (.int (n')), none, none, none, none]) (by decide +kernel) (Nat.le_of_ble_eq_true rfl) rfl ?_
  refine ev_aload_n 1 dX11_wave_0 rfl rfl ?_
  refine ev_iconstN 2 0 dX11_wave_1 rfl ?_
  refine ev_putI 5 mm_cl11 (j := 9) (Nat.le_of_ble_eq_true rfl) dX11_wave_2 lk270 rfl (fun _ _ _ => rfl) rfl rfl (hV.1 0 _ rfl) rfl ?_
  refine ev_aload_n 6 dX11_wave_5 rfl rfl ?_
  refine ev_iload_n 7 dX11_wave_6 rfl rfl ?_
  refine ev_invV 10 (Mc := mX11_coderAt) ⟨lk570, lk75, hdX11_coderAt, (Nat.le_of_ble_eq_true rfl), (Nat.le_of_ble_eq_true rfl)⟩ lk567 lk569 lk1 mm_cl11 rfl dX11_wave_7 (ca_f hV hx hc) rfl (hV.1 0 _ rfl) (Nat.le_of_ble_eq_true rfl) rfl rfl ?_
  refine ev_astoreN 12 (lv' := [_, _, _, _, _, some (.int _), _, _, _, _]) dX11_wave_10 (Nat.le_of_ble_eq_true rfl) rfl rfl ?_
  refine ev_aloadN 14 dX11_wave_12 rfl rfl ?_
  refine ev_ifnull_n 41 dX11_wave_14 (by decide) ?_
  refine ev_aload_n 42 dX11_wave_41 rfl rfl ?_
  refine ev_iconst 43 (v := -1) dX11_wave_42 (by decide +kernel) rfl ?_
  refine ev_invV 46 (Mc := mX11_refuse) ⟨lk303, lk75, hdX11_refuse, (Nat.le_of_ble_eq_true rfl), (Nat.le_of_ble_eq_true rfl)⟩ lk300 lk302 lk0 mm_cl11 rfl dX11_wave_43 (ct_refuse hV) rfl (hV.1 0 _ rfl) (Nat.le_of_ble_eq_true rfl) rfl rfl ?_
  exact ev_iret dX11_wave_46 rfl (rfl)
theorem cl_wave_b {kd p q n' : Int32} (h : CA B I P x o n k) (hr : ¬ ((nI 1 ≤ n' ∧ n' ≤ nI 320) ∧ WG kd p q)) : Ct g mX11_wave [.ref x, .int (nI k), .int kd, .int p, .int q, .int (n')] B I J P (some (.int (-1)), B, vst I x (-1), J, P) := by
  have ca := ca_t (g := g) (J := J) h
  obtain ⟨hV, hC, hxo, hx, h8, hk, hP⟩ := h
  by_cases h1 : n' < nI 1
  · refine ct_of (lv := [some (.ref x), some (.int (nI (k))), some (.int (kd)), some (.int (p)), some (.int (q)), some (.int (n')), none, none, none, none]) (by decide +kernel) (Nat.le_of_ble_eq_true rfl) rfl ?_
    refine ev_aload_n 1 dX11_wave_0 rfl rfl ?_
    refine ev_iconstN 2 0 dX11_wave_1 rfl ?_
    refine ev_putI 5 mm_cl11 (j := 9) (Nat.le_of_ble_eq_true rfl) dX11_wave_2 lk270 rfl (fun _ _ _ => rfl) rfl rfl (hV.1 0 _ rfl) rfl ?_
    refine ev_aload_n 6 dX11_wave_5 rfl rfl ?_
    refine ev_iload_n 7 dX11_wave_6 rfl rfl ?_
    refine ev_invV 10 (Mc := mX11_coderAt) ⟨lk570, lk75, hdX11_coderAt, (Nat.le_of_ble_eq_true rfl), (Nat.le_of_ble_eq_true rfl)⟩ lk567 lk569 lk1 mm_cl11 rfl dX11_wave_7 (ca) rfl (hV.1 0 _ rfl) (Nat.le_of_ble_eq_true rfl) rfl rfl ?_
    refine ev_astore 12 (lv' := [_, _, _, _, _, some (.int _), _, _, _, _]) dX11_wave_10 (Nat.le_of_ble_eq_true rfl) rfl rfl ?_
    refine ev_aload 14 dX11_wave_12 rfl rfl ?_
    refine ev_ifnull_r 17 dX11_wave_14 rfl ?_
    refine ev_iload 19 dX11_wave_17 rfl rfl ?_
    refine ev_iconstN 20 1 dX11_wave_19 rfl ?_
    refine ev_icmp_lt 23 41 dX11_wave_20 (by decide) rfl (fun hbr => ?_) (fun hx => absurd (h1) hx)
    refine ev_aload_n 42 dX11_wave_41 rfl rfl ?_
    refine ev_iconst 43 (v := -1) dX11_wave_42 (by decide +kernel) rfl ?_
    refine ev_invV 46 (Mc := mX11_refuse) ⟨lk303, lk75, hdX11_refuse, (Nat.le_of_ble_eq_true rfl), (Nat.le_of_ble_eq_true rfl)⟩ lk300 lk302 lk0 mm_cl11 rfl dX11_wave_43 (ct_refuse hV) rfl (hV.1 0 _ rfl) (Nat.le_of_ble_eq_true rfl) rfl rfl ?_
    exact ev_iret dX11_wave_46 rfl (rfl)
  · by_cases h2 : nI 320 < n'
    · refine ct_of (lv := [some (.ref x), some (.int (nI (k))), some (.int (kd)), some (.int (p)), some (.int (q)), some (.int (n')), none, none, none, none]) (by decide +kernel) (Nat.le_of_ble_eq_true rfl) rfl ?_
      refine ev_aload_n 1 dX11_wave_0 rfl rfl ?_
      refine ev_iconstN 2 0 dX11_wave_1 rfl ?_
      refine ev_putI 5 mm_cl11 (j := 9) (Nat.le_of_ble_eq_true rfl) dX11_wave_2 lk270 rfl (fun _ _ _ => rfl) rfl rfl (hV.1 0 _ rfl) rfl ?_
      refine ev_aload_n 6 dX11_wave_5 rfl rfl ?_
      refine ev_iload_n 7 dX11_wave_6 rfl rfl ?_
      refine ev_invV 10 (Mc := mX11_coderAt) ⟨lk570, lk75, hdX11_coderAt, (Nat.le_of_ble_eq_true rfl), (Nat.le_of_ble_eq_true rfl)⟩ lk567 lk569 lk1 mm_cl11 rfl dX11_wave_7 (ca) rfl (hV.1 0 _ rfl) (Nat.le_of_ble_eq_true rfl) rfl rfl ?_
      refine ev_astore 12 (lv' := [_, _, _, _, _, some (.int _), _, _, _, _]) dX11_wave_10 (Nat.le_of_ble_eq_true rfl) rfl rfl ?_
      refine ev_aload 14 dX11_wave_12 rfl rfl ?_
      refine ev_ifnull_r 17 dX11_wave_14 rfl ?_
      refine ev_iload 19 dX11_wave_17 rfl rfl ?_
      refine ev_iconstN 20 1 dX11_wave_19 rfl ?_
      refine ev_icmp_lt 23 41 dX11_wave_20 (by decide) rfl (fun hx => absurd hx (h1)) (fun hbr => ?_)
      refine ev_iload 25 dX11_wave_23 rfl rfl ?_
      refine ev_sipushN 28 320 dX11_wave_25 (by decide +kernel) rfl ?_
      refine ev_icmp_gt 31 41 dX11_wave_28 (by decide) rfl (fun hbr => ?_) (fun hx => absurd (h2) hx)
      refine ev_aload_n 42 dX11_wave_41 rfl rfl ?_
      refine ev_iconst 43 (v := -1) dX11_wave_42 (by decide +kernel) rfl ?_
      refine ev_invV 46 (Mc := mX11_refuse) ⟨lk303, lk75, hdX11_refuse, (Nat.le_of_ble_eq_true rfl), (Nat.le_of_ble_eq_true rfl)⟩ lk300 lk302 lk0 mm_cl11 rfl dX11_wave_43 (ct_refuse hV) rfl (hV.1 0 _ rfl) (Nat.le_of_ble_eq_true rfl) rfl rfl ?_
      exact ev_iret dX11_wave_46 rfl (rfl)
    · have hw : ¬ WG kd p q := fun e => hr ⟨⟨Int32.not_lt.mp h1, Int32.not_lt.mp h2⟩, e⟩
      refine ct_of (lv := [some (.ref x), some (.int (nI (k))), some (.int (kd)), some (.int (p)), some (.int (q)), some (.int (n')), none, none, none, none]) (by decide +kernel) (Nat.le_of_ble_eq_true rfl) rfl ?_
      refine ev_aload_n 1 dX11_wave_0 rfl rfl ?_
      refine ev_iconstN 2 0 dX11_wave_1 rfl ?_
      refine ev_putI 5 mm_cl11 (j := 9) (Nat.le_of_ble_eq_true rfl) dX11_wave_2 lk270 rfl (fun _ _ _ => rfl) rfl rfl (hV.1 0 _ rfl) rfl ?_
      refine ev_aload_n 6 dX11_wave_5 rfl rfl ?_
      refine ev_iload_n 7 dX11_wave_6 rfl rfl ?_
      refine ev_invV 10 (Mc := mX11_coderAt) ⟨lk570, lk75, hdX11_coderAt, (Nat.le_of_ble_eq_true rfl), (Nat.le_of_ble_eq_true rfl)⟩ lk567 lk569 lk1 mm_cl11 rfl dX11_wave_7 (ca) rfl (hV.1 0 _ rfl) (Nat.le_of_ble_eq_true rfl) rfl rfl ?_
      refine ev_astore 12 (lv' := [_, _, _, _, _, some (.int _), _, _, _, _]) dX11_wave_10 (Nat.le_of_ble_eq_true rfl) rfl rfl ?_
      refine ev_aload 14 dX11_wave_12 rfl rfl ?_
      refine ev_ifnull_r 17 dX11_wave_14 rfl ?_
      refine ev_iload 19 dX11_wave_17 rfl rfl ?_
      refine ev_iconstN 20 1 dX11_wave_19 rfl ?_
      refine ev_icmp_lt 23 41 dX11_wave_20 (by decide) rfl (fun hx => absurd hx (h1)) (fun hbr => ?_)
      refine ev_iload 25 dX11_wave_23 rfl rfl ?_
      refine ev_sipushN 28 320 dX11_wave_25 (by decide +kernel) rfl ?_
      refine ev_icmp_gt 31 41 dX11_wave_28 (by decide) rfl (fun hx => absurd hx (h2)) (fun hbr => ?_)
      refine ev_iload_n 32 dX11_wave_31 rfl rfl ?_
      refine ev_iload_n 33 dX11_wave_32 rfl rfl ?_
      refine ev_iload 35 dX11_wave_33 rfl rfl ?_
      refine ev_invS 38 (Mc := mX11_isWave) ⟨lk616, lk75, hdX11_isWave, (Nat.le_of_ble_eq_true rfl), (Nat.le_of_ble_eq_true rfl)⟩ lk614 lk615 dX11_wave_35 (ct_isWave_f hw) rfl (Nat.le_of_ble_eq_true rfl) rfl rfl ?_
      refine ev_if_neN 41 47 dX11_wave_38 (by decide) (by omega) rfl (fun hx => absurd ((by omega)) hx) (fun hbr => ?_)
      refine ev_aload_n 42 dX11_wave_41 rfl rfl ?_
      refine ev_iconst 43 (v := -1) dX11_wave_42 (by decide +kernel) rfl ?_
      refine ev_invV 46 (Mc := mX11_refuse) ⟨lk303, lk75, hdX11_refuse, (Nat.le_of_ble_eq_true rfl), (Nat.le_of_ble_eq_true rfl)⟩ lk300 lk302 lk0 mm_cl11 rfl dX11_wave_43 (ct_refuse hV) rfl (hV.1 0 _ rfl) (Nat.le_of_ble_eq_true rfl) rfl rfl ?_
      exact ev_iret dX11_wave_46 rfl (rfl)
theorem cl_wave_u {kd p q : Int32} {nn w : Nat} (h : CA B I P x o n k) (h1 : 1 ≤ nn) (h2 : nn ≤ 320) (hw : WG kd p q) (hww : I o 1 = nI w) (h6 : w ≤ 640) (hu : 640 < w + nn) : Ct g mX11_wave [.ref x, .int (nI k), .int kd, .int p, .int q, .int (nI nn)] B I J P (some (.int (-3)), B, vst I x (-3), J, P) := by
  have ca := ca_t (g := g) (J := J) h
  obtain ⟨hV, hC, hxo, hx, h8, hk, hP⟩ := h
  refine ct_of (lv := [some (.ref x), some (.int (nI (k))), some (.int (kd)), some (.int (p)), some (.int (q)), some (.int (nI (nn))), none, none, none, none]) (by decide +kernel) (Nat.le_of_ble_eq_true rfl) rfl ?_
  refine ev_aload_n 1 dX11_wave_0 rfl rfl ?_
  refine ev_iconstN 2 0 dX11_wave_1 rfl ?_
  refine ev_putI 5 mm_cl11 (j := 9) (Nat.le_of_ble_eq_true rfl) dX11_wave_2 lk270 rfl (fun _ _ _ => rfl) rfl rfl (hV.1 0 _ rfl) rfl ?_
  refine ev_aload_n 6 dX11_wave_5 rfl rfl ?_
  refine ev_iload_n 7 dX11_wave_6 rfl rfl ?_
  refine ev_invV 10 (Mc := mX11_coderAt) ⟨lk570, lk75, hdX11_coderAt, (Nat.le_of_ble_eq_true rfl), (Nat.le_of_ble_eq_true rfl)⟩ lk567 lk569 lk1 mm_cl11 rfl dX11_wave_7 (ca) rfl (hV.1 0 _ rfl) (Nat.le_of_ble_eq_true rfl) rfl rfl ?_
  refine ev_astore 12 (lv' := [_, _, _, _, _, some (.int _), _, _, _, _]) dX11_wave_10 (Nat.le_of_ble_eq_true rfl) rfl rfl ?_
  refine ev_aload 14 dX11_wave_12 rfl rfl ?_
  refine ev_ifnull_r 17 dX11_wave_14 rfl ?_
  refine ev_iload 19 dX11_wave_17 rfl rfl ?_
  refine ev_iconstN 20 1 dX11_wave_19 rfl ?_
  refine ev_icmp_ltN 23 41 dX11_wave_20 (by decide) (by omega) (by omega) rfl (fun hx => absurd hx ((by omega))) (fun hbr => ?_)
  refine ev_iload 25 dX11_wave_23 rfl rfl ?_
  refine ev_sipushN 28 320 dX11_wave_25 (by decide +kernel) rfl ?_
  refine ev_icmp_gtN 31 41 dX11_wave_28 (by decide) (by omega) (by omega) rfl (fun hx => absurd hx ((by omega))) (fun hbr => ?_)
  refine ev_iload_n 32 dX11_wave_31 rfl rfl ?_
  refine ev_iload_n 33 dX11_wave_32 rfl rfl ?_
  refine ev_iload 35 dX11_wave_33 rfl rfl ?_
  refine ev_invS 38 (Mc := mX11_isWave) ⟨lk616, lk75, hdX11_isWave, (Nat.le_of_ble_eq_true rfl), (Nat.le_of_ble_eq_true rfl)⟩ lk614 lk615 dX11_wave_35 (ct_isWave_t hw) rfl (Nat.le_of_ble_eq_true rfl) rfl rfl ?_
  refine ev_if_neN 41 47 dX11_wave_38 (by decide) (by omega) rfl (fun hbr => ?_) (fun hx => absurd hx ((by omega)))
  refine ev_iload 49 dX11_wave_47 rfl rfl ?_
  refine ev_sipushN 52 640 dX11_wave_49 (by decide +kernel) rfl ?_
  refine ev_aload 54 dX11_wave_52 rfl rfl ?_
  refine ev_getI 57 mm_cl0 (j := 1) (Nat.le_of_ble_eq_true rfl) dX11_wave_54 lk545 (fun _ _ _ => rfl) (hC.1 0 _ rfl) rfl ?_
  refine ev_eqI (y := nI (w)) ((vzk hww (by omega))) ?_
  refine ev_isubN 58 dX11_wave_57 (by omega) rfl ?_
  refine ev_icmp_leN 61 68 dX11_wave_58 (by decide) (by omega) (by omega) rfl (fun hx => absurd hx ((by omega))) (fun hbr => ?_)
  refine ev_aload_n 62 dX11_wave_61 rfl rfl ?_
  refine ev_bipush 64 (v := -3) dX11_wave_62 (by decide +kernel) rfl ?_
  refine ev_invV 67 (Mc := mX11_refuse) ⟨lk303, lk75, hdX11_refuse, (Nat.le_of_ble_eq_true rfl), (Nat.le_of_ble_eq_true rfl)⟩ lk300 lk302 lk0 mm_cl11 rfl dX11_wave_64 (ct_refuse hV) rfl (hV.1 0 _ rfl) (Nat.le_of_ble_eq_true rfl) rfl rfl ?_
  exact ev_iret dX11_wave_67 rfl (rfl)
/-- the loop, over any one sample's walk -/
theorem lx_wave {kd p q : Int32} {nn w : Nat} {val : Nat → Int32} {zz : Nat → Int64} {I0 : mm_TI} (hV : lyV B P x) (hC : lyC B P x o) (hxo : x + 22 ≤ o) (hn : nn ≤ 320) (hw : w + nn ≤ 640) (st : ∀ (i : Nat) (I : mm_TI) (Z : mm_Z), i < nn → Ev g mX11_wave 119 [some (.ref x), some (.int (nI k)), some (.int kd), some (.int p), some (.int q), some (.int (nI nn)), some (.ref o), some (.long (zz (i + 1))), none, some (.int (nI i))] [.int (val i), .ref o] B I J P Z → Ev g mX11_wave 82 [some (.ref x), some (.int (nI k)), some (.int kd), some (.int p), some (.int q), some (.int (nI nn)), some (.ref o), some (.long (zz i)), none, some (.int (nI i))] [] B I J P Z) :
    ∀ (d i : Nat), i + d = nn → Ev g mX11_wave 75 [some (.ref x), some (.int (nI k)), some (.int kd), some (.int p), some (.int q), some (.int (nI nn)), some (.ref o), some (.long (zz i)), none, some (.int (nI i))] [] B (va_up (va_up I0 (o + 1) (sgp (I0 (o + 1)) w i val)) o (va_up (I0 o) 1 (nI (w + i)))) J P (some (.int (nI (w + nn))), B, va_up (va_up I0 (o + 1) (sgp (I0 (o + 1)) w nn val)) o (va_up (I0 o) 1 (nI (w + nn))), J, P) := by
  intro d
  induction d with
  | zero =>
    intro i hi
    obtain rfl : i = nn := by omega
    refine ev_iload 77 dX11_wave_75 rfl rfl ?_
    refine ev_iload 79 dX11_wave_77 rfl rfl ?_
    refine ev_icmp_geN 82 128 dX11_wave_79 (by decide) (by omega) (by omega) rfl (fun hbr => ?_) (fun hx => absurd ((by omega)) hx)
    refine ev_aload 130 dX11_wave_128 rfl rfl ?_
    refine ev_getI 133 mm_cl0 (j := 1) (Nat.le_of_ble_eq_true rfl) dX11_wave_130 lk545 (fun _ _ _ => rfl) (hC.1 0 _ rfl) rfl ?_
    refine ev_eqI (y := nI ((w+i))) ((by rw [va_up_s, va_up_s])) ?_
    exact ev_iret dX11_wave_133 rfl (rfl)
  | succ d ih =>
    intro i hi
    have ad := ct_addSample (g := g) (B := B) (I := va_up (va_up I0 (o + 1) (sgp (I0 (o + 1)) w i val)) o (va_up (I0 o) 1 (nI (w + i)))) (J := J) (P := P) (v := val i) (w := w + i) hC (by rw [va_up_s, va_up_s]) (by omega)
    rw [va_up_n _ _ (show o + 1 ≠ o by omega), va_up_s, va_up_s, bx_uu, sgp_grow rfl, va_3 _ _ _ _ (by omega), va_3 _ _ _ _ (by omega)] at ad
    have e := ih (i + 1) (by omega)
    refine ev_iload 77 dX11_wave_75 rfl rfl ?_
    refine ev_iload 79 dX11_wave_77 rfl rfl ?_
    refine ev_icmp_geN 82 128 dX11_wave_79 (by decide) (by omega) (by omega) rfl (fun hx => absurd hx ((by omega))) (fun hbr => ?_)
    refine st i _ _ (by omega) ?_
    refine ev_invVv 122 (Mc := mX0_addSample) ⟨lk609, lk81, hdX0_addSample, (Nat.le_of_ble_eq_true rfl), (Nat.le_of_ble_eq_true rfl)⟩ lk606 lk607 lk608 mm_cl0 rfl dX11_wave_119 (ad) rfl (hC.1 0 _ rfl) (Nat.le_of_ble_eq_true rfl) rfl rfl ?_
    refine ev_iincN 125 (lv' := [_, _, _, _, _, _, _, _, none, _]) 1 dX11_wave_122 rfl (Nat.le_of_ble_eq_true rfl) rfl rfl ?_
    refine ev_goto 75 dX11_wave_125 (by decide) ?_
    exact e
theorem cl_wave_t {kd p q : Int32} {nn w : Nat} {val : Nat → Int32} {zz : Nat → Int64} (h : CA B I P x o n k) (h1 : 1 ≤ nn) (h2 : nn ≤ 320) (hw : WG kd p q) (hww : I o 1 = nI w) (h6 : w + nn ≤ 640) (hz : zz 0 = p.toInt64) (st : ∀ (i : Nat) (I : mm_TI) (Z : mm_Z), i < nn → Ev g mX11_wave 119 [some (.ref x), some (.int (nI k)), some (.int kd), some (.int p), some (.int q), some (.int (nI nn)), some (.ref o), some (.long (zz (i + 1))), none, some (.int (nI i))] [.int (val i), .ref o] B I J P Z → Ev g mX11_wave 82 [some (.ref x), some (.int (nI k)), some (.int kd), some (.int p), some (.int q), some (.int (nI nn)), some (.ref o), some (.long (zz i)), none, some (.int (nI i))] [] B I J P Z) :
    Ct g mX11_wave [.ref x, .int (nI k), .int kd, .int p, .int q, .int (nI nn)] B I J P (some (.int (nI (w + nn))), B, va_up (va_up (vz I x) (o + 1) (sgp (I (o + 1)) w nn val)) o (va_up (I o) 1 (nI (w + nn))), J, P) := by
  have ca := ca_t (g := g) (J := J) h
  obtain ⟨hV, hC, hxo, hx, h8, hk, hP⟩ := h
  have e := lx_wave (g := g) (B := B) (I0 := vz I x) (J := J) (P := P) hV hC hxo h2 h6 st nn 0 (by omega)
  have e1 : vz I x (o + 1) = I (o + 1) := va_up_n _ _ (by omega)
  have e0 : vz I x o = I o := va_up_n _ _ (by omega)
  rw [sgp_0, va_up_id, e1, e0, show va_up (vz I x) o (va_up (I o) 1 (nI (w + 0))) = vz I x by rw [Nat.add_zero, ← hww, va_up_id, ← e0, va_up_id], hz] at e
  refine ct_of (lv := [some (.ref x), some (.int (nI k)), some (.int kd), some (.int p), some (.int q), some (.int (nI nn)), none, none, none, none]) (by decide +kernel) (Nat.le_of_ble_eq_true rfl) rfl ?_
  refine ev_aload_n 1 dX11_wave_0 rfl rfl ?_
  refine ev_iconstN 2 0 dX11_wave_1 rfl ?_
  refine ev_putI 5 mm_cl11 (j := 9) (Nat.le_of_ble_eq_true rfl) dX11_wave_2 lk270 rfl (fun _ _ _ => rfl) rfl rfl (hV.1 0 _ rfl) rfl ?_
  refine ev_aload_n 6 dX11_wave_5 rfl rfl ?_
  refine ev_iload_n 7 dX11_wave_6 rfl rfl ?_
  refine ev_invV 10 (Mc := mX11_coderAt) ⟨lk570, lk75, hdX11_coderAt, (Nat.le_of_ble_eq_true rfl), (Nat.le_of_ble_eq_true rfl)⟩ lk567 lk569 lk1 mm_cl11 rfl dX11_wave_7 (ca) rfl (hV.1 0 _ rfl) (Nat.le_of_ble_eq_true rfl) rfl rfl ?_
  refine ev_astore 12 (lv' := [_, _, _, _, _, some (.int _), _, _, _, _]) dX11_wave_10 (Nat.le_of_ble_eq_true rfl) rfl rfl ?_
  refine ev_aload 14 dX11_wave_12 rfl rfl ?_
  refine ev_ifnull_r 17 dX11_wave_14 rfl ?_
  refine ev_iload 19 dX11_wave_17 rfl rfl ?_
  refine ev_iconstN 20 1 dX11_wave_19 rfl ?_
  refine ev_icmp_ltN 23 41 dX11_wave_20 (by decide) (by omega) (by omega) rfl (fun hx => absurd hx ((by omega))) (fun hbr => ?_)
  refine ev_iload 25 dX11_wave_23 rfl rfl ?_
  refine ev_sipushN 28 320 dX11_wave_25 (by decide +kernel) rfl ?_
  refine ev_icmp_gtN 31 41 dX11_wave_28 (by decide) (by omega) (by omega) rfl (fun hx => absurd hx ((by omega))) (fun hbr => ?_)
  refine ev_iload_n 32 dX11_wave_31 rfl rfl ?_
  refine ev_iload_n 33 dX11_wave_32 rfl rfl ?_
  refine ev_iload 35 dX11_wave_33 rfl rfl ?_
  refine ev_invS 38 (Mc := mX11_isWave) ⟨lk616, lk75, hdX11_isWave, (Nat.le_of_ble_eq_true rfl), (Nat.le_of_ble_eq_true rfl)⟩ lk614 lk615 dX11_wave_35 (ct_isWave_t hw) rfl (Nat.le_of_ble_eq_true rfl) rfl rfl ?_
  refine ev_if_neN 41 47 dX11_wave_38 (by decide) (by omega) rfl (fun hbr => ?_) (fun hx => absurd hx ((by omega)))
  refine ev_iload 49 dX11_wave_47 rfl rfl ?_
  refine ev_sipushN 52 640 dX11_wave_49 (by decide +kernel) rfl ?_
  refine ev_aload 54 dX11_wave_52 rfl rfl ?_
  refine ev_getI 57 mm_cl0 (j := 1) (Nat.le_of_ble_eq_true rfl) dX11_wave_54 lk545 (fun _ _ _ => rfl) (hC.1 0 _ rfl) rfl ?_
  refine ev_eqI (y := nI (w)) ((vzk hww (by omega))) ?_
  refine ev_isubN 58 dX11_wave_57 (by omega) rfl ?_
  refine ev_icmp_leN 61 68 dX11_wave_58 (by decide) (by omega) (by omega) rfl (fun hbr => ?_) (fun hx => absurd ((by omega)) hx)
  refine ev_iload_n 69 dX11_wave_68 rfl rfl ?_
  refine ev_i2l 70 dX11_wave_69 rfl ?_
  refine ev_lstore 72 (lv' := [_, _, _, _, _, _, some (.ref _), _, _, _]) dX11_wave_70 (Nat.le_of_ble_eq_true rfl) rfl rfl ?_
  refine ev_iconstN 73 0 dX11_wave_72 rfl ?_
  refine ev_istore 75 (lv' := [_, _, _, _, _, _, _, _, none, _]) dX11_wave_73 (Nat.le_of_ble_eq_true rfl) rfl rfl ?_
  exact e
/-! one sample's walk, by its kind -/
theorem ws_c {kd : Nat} {pz : Int32} {p q nn : Nat} {zz : Nat → Int64} (hC : lyC B P x o) (hV : lyV B P x) (hn : nn ≤ 320) (hkd : kd ≤ 4) (h2 : kd ≠ 2) (hwa : ∀ i, i < nn → ∀ I : mm_TI, Ct g mX11_waveAt [.int (nI kd), .int pz, .int (nI q), .int (nI i)] B I J P (some (.int (wvv kd pz p q i)), B, I, J, P)) (hzz : ∀ i, ∀ (B : mm_B) (I : mm_TI) (J : mm_TJ) (P : mm_TP), Ct g mX11_drawnFrom [.long (zz i)] B I J P (some (.long (zz (i + 1))), B, I, J, P)) : ∀ (i : Nat) (I : mm_TI) (Z : mm_Z), i < nn → Ev g mX11_wave 119 [some (.ref x), some (.int (nI k)), some (.int (nI kd)), some (.int pz), some (.int (nI q)), some (.int (nI nn)), some (.ref o), some (.long (zz (i + 1))), none, some (.int (nI i))] [.int (wvv kd pz p q i), .ref o] B I J P Z → Ev g mX11_wave 82 [some (.ref x), some (.int (nI k)), some (.int (nI kd)), some (.int pz), some (.int (nI q)), some (.int (nI nn)), some (.ref o), some (.long (zz i)), none, some (.int (nI i))] [] B I J P Z := by
  intro i I Z hi K
  refine ev_lload 84 dX11_wave_82 rfl rfl ?_
  refine ev_invS 87 (Mc := mX11_drawnFrom) ⟨lk619, lk75, hdX11_drawnFrom, (Nat.le_of_ble_eq_true rfl), (Nat.le_of_ble_eq_true rfl)⟩ lk617 lk618 dX11_wave_84 (hzz i _ _ _ _) rfl (Nat.le_of_ble_eq_true rfl) rfl rfl ?_
  refine ev_lstore 89 (lv' := [_, _, _, _, _, _, some (.ref _), _, _, _]) dX11_wave_87 (Nat.le_of_ble_eq_true rfl) rfl rfl ?_
  refine ev_aload 91 dX11_wave_89 rfl rfl ?_
  refine ev_iload_n 92 dX11_wave_91 rfl rfl ?_
  refine ev_iconstN 93 2 dX11_wave_92 rfl ?_
  refine ev_icmp_neN 96 110 dX11_wave_93 (by decide) (by omega) (by omega) rfl (fun hbr => ?_) (fun hx => absurd hx ((by omega)))
  refine ev_iload_n 111 dX11_wave_110 rfl rfl ?_
  refine ev_iload_n 112 dX11_wave_111 rfl rfl ?_
  refine ev_iload 114 dX11_wave_112 rfl rfl ?_
  refine ev_iload 116 dX11_wave_114 rfl rfl ?_
  refine ev_invS 119 (Mc := mX11_waveAt) ⟨lk629, lk75, hdX11_waveAt, (Nat.le_of_ble_eq_true rfl), (Nat.le_of_ble_eq_true rfl)⟩ lk627 lk628 dX11_wave_116 (hwa i hi I) rfl (Nat.le_of_ble_eq_true rfl) rfl rfl ?_
  exact K
theorem ws_c2 {p q nn : Nat} (hC : lyC B P x o) (hV : lyV B P x) (hp : p < 2 ^ 31) (hn : nn ≤ 320) : ∀ (i : Nat) (I : mm_TI) (Z : mm_Z), i < nn → Ev g mX11_wave 119 [some (.ref x), some (.int (nI k)), some (.int (nI 2)), some (.int (nI p)), some (.int (nI q)), some (.int (nI nn)), some (.ref o), some (.long (lN (sp_dz p (i + 1)))), none, some (.int (nI i))] [.int (wvv 2 (nI p) p q i), .ref o] B I J P Z → Ev g mX11_wave 82 [some (.ref x), some (.int (nI k)), some (.int (nI 2)), some (.int (nI p)), some (.int (nI q)), some (.int (nI nn)), some (.ref o), some (.long (lN (sp_dz p i))), none, some (.int (nI i))] [] B I J P Z := by
  intro i I Z hi K
  refine ev_lload 84 dX11_wave_82 rfl rfl ?_
  refine ev_invS 87 (Mc := mX11_drawnFrom) ⟨lk619, lk75, hdX11_drawnFrom, (Nat.le_of_ble_eq_true rfl), (Nat.le_of_ble_eq_true rfl)⟩ lk617 lk618 dX11_wave_84 (ct_X11_drawnFrom (sp_dz_lt hp i)) rfl (Nat.le_of_ble_eq_true rfl) rfl rfl ?_
  refine ev_lstore 89 (lv' := [_, _, _, _, _, _, some (.ref _), _, _, _]) dX11_wave_87 (Nat.le_of_ble_eq_true rfl) rfl rfl ?_
  refine ev_aload 91 dX11_wave_89 rfl rfl ?_
  refine ev_iload_n 92 dX11_wave_91 rfl rfl ?_
  refine ev_iconstN 93 2 dX11_wave_92 rfl ?_
  refine ev_icmp_neN 96 110 dX11_wave_93 (by decide) (by omega) (by omega) rfl (fun hx => absurd ((by omega)) hx) (fun hbr => ?_)
  refine ev_lload 98 dX11_wave_96 rfl rfl ?_
  refine ev_invS 101 (Mc := mX11_drawOf) ⟨lk625, lk75, hdX11_drawOf, (Nat.le_of_ble_eq_true rfl), (Nat.le_of_ble_eq_true rfl)⟩ lk623 lk624 dX11_wave_98 (ct_X11_drawOf (sp_dz_lt hp (i + 1))) rfl (Nat.le_of_ble_eq_true rfl) rfl rfl ?_
  refine ev_iload 103 dX11_wave_101 rfl rfl ?_
  refine ev_imul 104 dX11_wave_103 rfl ?_
  refine ev_bipushN 106 7 dX11_wave_104 (by decide +kernel) rfl ?_
  refine ev_ishr 107 dX11_wave_106 rfl ?_
  refine ev_goto 119 dX11_wave_107 (by decide) ?_
  exact K
end WV0
