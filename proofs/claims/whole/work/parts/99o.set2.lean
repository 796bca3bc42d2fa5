/-! SETTERS: the calls -/
theorem bo_1 {b : Nat} (h : b ≤ 1) : narrow .boolean (.int (nI b)) = .int (nI b) := by rcases (show b = 0 ∨ b = 1 by omega) with rfl | rfl <;> rfl
theorem bo_2 {b : Nat} (h : b ≤ 1) : fits .boolean (.int (nI b)) = true := by rcases (show b = 0 ∨ b = 1 by omega) with rfl | rfl <;> rfl
section SU0
variable {g : mm_G} {B : mm_B} {I : mm_TI} {J : mm_TJ} {P : mm_TP} {x m o n k : Nat}
theorem cl_rate_f {c r : Int32} (hV : lyV B P x) (hx : I x 4 = nI n) (hc : ¬ (0 ≤ c ∧ c < nI n)) : Ct g mX11_rate [.ref x, .int c, .int r] B I J P (some (.int (-1)), B, vst I x (-1), J, P) := by
  refine ct_of (lv := [some (.ref x), some (.int (c)), some (.int (r)), none, none]) (by decide +kernel) (Nat.le_of_ble_eq_true rfl) rfl ?_
  refine ev_aload_n 1 dX11_rate_0 rfl rfl ?_
  refine ev_iconstN 2 0 dX11_rate_1 rfl ?_
  refine ev_putI 5 mm_cl11 (j := 9) (Nat.le_of_ble_eq_true rfl) dX11_rate_2 lk270 rfl (fun _ _ _ => rfl) rfl rfl (hV.1 0 _ rfl) rfl ?_
  refine ev_aload_n 6 dX11_rate_5 rfl rfl ?_
  refine ev_iload_n 7 dX11_rate_6 rfl rfl ?_
  refine ev_invV 10 (Mc := mX11_coderAt) ⟨lk570, lk75, hdX11_coderAt, (Nat.le_of_ble_eq_true rfl), (Nat.le_of_ble_eq_true rfl)⟩ lk567 lk569 lk1 mm_cl11 rfl dX11_rate_7 (ca_f hV hx hc) rfl (hV.1 0 _ rfl) (Nat.le_of_ble_eq_true rfl) rfl rfl ?_
  refine ev_astore_nN 11 (lv' := [_, _, some (.int _), _, _]) dX11_rate_10 (Nat.le_of_ble_eq_true rfl) rfl rfl ?_
  refine ev_aload_nN 12 dX11_rate_11 rfl rfl ?_
  refine ev_ifnull_n 22 dX11_rate_12 (by decide) ?_
  refine ev_aload_n 23 dX11_rate_22 rfl rfl ?_
  refine ev_iconst 24 (v := -1) dX11_rate_23 (by decide +kernel) rfl ?_
  refine ev_invV 27 (Mc := mX11_refuse) ⟨lk303, lk75, hdX11_refuse, (Nat.le_of_ble_eq_true rfl), (Nat.le_of_ble_eq_true rfl)⟩ lk300 lk302 lk0 mm_cl11 rfl dX11_rate_24 (ct_refuse hV) rfl (hV.1 0 _ rfl) (Nat.le_of_ble_eq_true rfl) rfl rfl ?_
  exact ev_iret dX11_rate_27 rfl (rfl)
theorem cl_rate_b {r : Int32} (h : CA B I P x o n k) (hr : ¬ (nI 0 ≤ r ∧ r ≤ nI 1)) : Ct g mX11_rate [.ref x, .int (nI k), .int r] B I J P (some (.int (-1)), B, vst I x (-1), J, P) := by
  have ca := ca_t (g := g) (J := J) h
  obtain ⟨hV, hC, hxo, hx, h8, hk, hP⟩ := h
  refine ct_of (lv := [some (.ref x), some (.int (nI (k))), some (.int (r)), none, none]) (by decide +kernel) (Nat.le_of_ble_eq_true rfl) rfl ?_
  refine ev_aload_n 1 dX11_rate_0 rfl rfl ?_
  refine ev_iconstN 2 0 dX11_rate_1 rfl ?_
  refine ev_putI 5 mm_cl11 (j := 9) (Nat.le_of_ble_eq_true rfl) dX11_rate_2 lk270 rfl (fun _ _ _ => rfl) rfl rfl (hV.1 0 _ rfl) rfl ?_
  refine ev_aload_n 6 dX11_rate_5 rfl rfl ?_
  refine ev_iload_n 7 dX11_rate_6 rfl rfl ?_
  refine ev_invV 10 (Mc := mX11_coderAt) ⟨lk570, lk75, hdX11_coderAt, (Nat.le_of_ble_eq_true rfl), (Nat.le_of_ble_eq_true rfl)⟩ lk567 lk569 lk1 mm_cl11 rfl dX11_rate_7 (ca) rfl (hV.1 0 _ rfl) (Nat.le_of_ble_eq_true rfl) rfl rfl ?_
  refine ev_astore_n 11 (lv' := [_, _, some (.int _), _, _]) dX11_rate_10 (Nat.le_of_ble_eq_true rfl) rfl rfl ?_
  refine ev_aload_n 12 dX11_rate_11 rfl rfl ?_
  refine ev_ifnull_r 15 dX11_rate_12 rfl ?_
  refine ev_iload_n 16 dX11_rate_15 rfl rfl ?_
  refine ev_invS 19 (Mc := mX11_isBit) ⟨lk299, lk75, hdX11_isBit, (Nat.le_of_ble_eq_true rfl), (Nat.le_of_ble_eq_true rfl)⟩ lk297 lk298 dX11_rate_16 (ct_isBit_f hr) rfl (Nat.le_of_ble_eq_true rfl) rfl rfl ?_
  refine ev_if_neN 22 28 dX11_rate_19 (by decide) (by omega) rfl (fun hx => absurd ((by omega)) hx) (fun hbr => ?_)
  refine ev_aload_n 23 dX11_rate_22 rfl rfl ?_
  refine ev_iconst 24 (v := -1) dX11_rate_23 (by decide +kernel) rfl ?_
  refine ev_invV 27 (Mc := mX11_refuse) ⟨lk303, lk75, hdX11_refuse, (Nat.le_of_ble_eq_true rfl), (Nat.le_of_ble_eq_true rfl)⟩ lk300 lk302 lk0 mm_cl11 rfl dX11_rate_24 (ct_refuse hV) rfl (hV.1 0 _ rfl) (Nat.le_of_ble_eq_true rfl) rfl rfl ?_
  exact ev_iret dX11_rate_27 rfl (rfl)
theorem cl_rate_t {r : Nat} {v : Int32} (h : CA B I P x o n k) (hr : r ≤ 1) (hv : I (o + 4) 10 = v) : Ct g mX11_rate [.ref x, .int (nI k), .int (nI r)] B I J P (some (.int v), B, va_up (vz I x) (o + 4) (va_up (vz I x (o + 4)) 10 (nI r)), J, P) := by
  have ca := ca_t (g := g) (J := J) h
  obtain ⟨hV, hC, hxo, hx, h8, hk, hP⟩ := h
  refine ct_of (lv := [some (.ref x), some (.int (nI (k))), some (.int (nI (r))), none, none]) (by decide +kernel) (Nat.le_of_ble_eq_true rfl) rfl ?_
  refine ev_aload_n 1 dX11_rate_0 rfl rfl ?_
  refine ev_iconstN 2 0 dX11_rate_1 rfl ?_
  refine ev_putI 5 mm_cl11 (j := 9) (Nat.le_of_ble_eq_true rfl) dX11_rate_2 lk270 rfl (fun _ _ _ => rfl) rfl rfl (hV.1 0 _ rfl) rfl ?_
  refine ev_aload_n 6 dX11_rate_5 rfl rfl ?_
  refine ev_iload_n 7 dX11_rate_6 rfl rfl ?_
  refine ev_invV 10 (Mc := mX11_coderAt) ⟨lk570, lk75, hdX11_coderAt, (Nat.le_of_ble_eq_true rfl), (Nat.le_of_ble_eq_true rfl)⟩ lk567 lk569 lk1 mm_cl11 rfl dX11_rate_7 (ca) rfl (hV.1 0 _ rfl) (Nat.le_of_ble_eq_true rfl) rfl rfl ?_
  refine ev_astore_n 11 (lv' := [_, _, some (.int _), _, _]) dX11_rate_10 (Nat.le_of_ble_eq_true rfl) rfl rfl ?_
  refine ev_aload_n 12 dX11_rate_11 rfl rfl ?_
  refine ev_ifnull_r 15 dX11_rate_12 rfl ?_
  refine ev_iload_n 16 dX11_rate_15 rfl rfl ?_
  refine ev_invS 19 (Mc := mX11_isBit) ⟨lk299, lk75, hdX11_isBit, (Nat.le_of_ble_eq_true rfl), (Nat.le_of_ble_eq_true rfl)⟩ lk297 lk298 dX11_rate_16 (ct_isBit_t hr) rfl (Nat.le_of_ble_eq_true rfl) rfl rfl ?_
  refine ev_if_neN 22 28 dX11_rate_19 (by decide) (by omega) rfl (fun hbr => ?_) (fun hx => absurd hx ((by omega)))
  refine ev_aload_n 29 dX11_rate_28 rfl rfl ?_
  refine ev_getP 32 mm_cl0 (j := 3) (Nat.le_of_ble_eq_true rfl) dX11_rate_29 lk549 (fun _ _ _ => rfl) (hC.1 0 _ rfl) (a := (o + 4)) (hC.2.2.1 2 _ _ _ rfl) rfl ?_
  refine ev_getI 35 mm_cl2 (j := 10) (Nat.le_of_ble_eq_true rfl) dX11_rate_32 lk383 (fun _ _ _ => rfl) (hC.1 4 _ rfl) rfl ?_
  refine ev_eqI (y := (v)) ((vzk hv (by omega))) ?_
  refine ev_istore 37 (lv' := [_, _, _, some (.ref _), _]) dX11_rate_35 (Nat.le_of_ble_eq_true rfl) rfl rfl ?_
  refine ev_aload_n 38 dX11_rate_37 rfl rfl ?_
  refine ev_getP 41 mm_cl0 (j := 3) (Nat.le_of_ble_eq_true rfl) dX11_rate_38 lk549 (fun _ _ _ => rfl) (hC.1 0 _ rfl) (a := (o + 4)) (hC.2.2.1 2 _ _ _ rfl) rfl ?_
  refine ev_iload_n 42 dX11_rate_41 rfl rfl ?_
  refine ev_putI 45 mm_cl2 (j := 10) (Nat.le_of_ble_eq_true rfl) dX11_rate_42 lk383 rfl (fun _ _ _ => rfl) rfl rfl (hC.1 4 _ rfl) rfl ?_
  refine ev_iload 47 dX11_rate_45 rfl rfl ?_
  exact ev_iret dX11_rate_47 rfl (rfl)
theorem ml_rate_f {c r : Int32} (hM : lyM B P m) (hn : I m 0 = nI n) (hc : ¬ (0 ≤ c ∧ c < nI n)) : Ct g mX12_rate [.ref m, .int c, .int r] B I J P (some (.int (-1)), B, mo_st I m (-1), J, P) := by
  refine ct_of (lv := [some (.ref m), some (.int (c)), some (.int (r)), none]) (by decide +kernel) (Nat.le_of_ble_eq_true rfl) rfl ?_
  refine ev_aload_n 1 dX12_rate_0 rfl rfl ?_
  refine ev_iload_n 2 dX12_rate_1 rfl rfl ?_
  refine ev_invV 5 (Mc := mX12_isCoder) ⟨lk1552, lk80, hdX12_isCoder, (Nat.le_of_ble_eq_true rfl), (Nat.le_of_ble_eq_true rfl)⟩ lk1549 lk1551 lk40 mm_cl12 rfl dX12_rate_2 (ct_X12_isCoder_f hM (by rw [hn]; exact hc)) rfl (hM.1 0 _ rfl) (Nat.le_of_ble_eq_true rfl) rfl rfl ?_
  refine ev_if_eqN 8 17 dX12_rate_5 (by decide) (by omega) rfl (fun hbr => ?_) (fun hx => absurd ((by omega)) hx)
  refine ev_aload_n 18 dX12_rate_17 rfl rfl ?_
  refine ev_iconst 19 (v := -1) dX12_rate_18 (by decide +kernel) rfl ?_
  refine ev_invV 22 (Mc := mX12_refused) ⟨lk1540, lk80, hdX12_refused, (Nat.le_of_ble_eq_true rfl), (Nat.le_of_ble_eq_true rfl)⟩ lk1537 lk1539 lk38 mm_cl12 rfl dX12_rate_19 (ct_X12_refused hM) rfl (hM.1 0 _ rfl) (Nat.le_of_ble_eq_true rfl) rfl rfl ?_
  exact ev_iret dX12_rate_22 rfl (rfl)
theorem ml_rate_b {r : Int32} (h : MA B I P m n k) (hr : ¬ (nI 0 ≤ r ∧ r ≤ nI 1)) : Ct g mX12_rate [.ref m, .int (nI k), .int r] B I J P (some (.int (-1)), B, mo_st I m (-1), J, P) := by
  obtain ⟨hM, hn, h8, hk⟩ := h
  refine ct_of (lv := [some (.ref m), some (.int (nI (k))), some (.int (r)), none]) (by decide +kernel) (Nat.le_of_ble_eq_true rfl) rfl ?_
  refine ev_aload_n 1 dX12_rate_0 rfl rfl ?_
  refine ev_iload_n 2 dX12_rate_1 rfl rfl ?_
  refine ev_invV 5 (Mc := mX12_isCoder) ⟨lk1552, lk80, hdX12_isCoder, (Nat.le_of_ble_eq_true rfl), (Nat.le_of_ble_eq_true rfl)⟩ lk1549 lk1551 lk40 mm_cl12 rfl dX12_rate_2 (ct_X12_isCoder_t hM hn h8 hk) rfl (hM.1 0 _ rfl) (Nat.le_of_ble_eq_true rfl) rfl rfl ?_
  refine ev_if_eqN 8 17 dX12_rate_5 (by decide) (by omega) rfl (fun hx => absurd hx ((by omega))) (fun hbr => ?_)
  refine ev_iload_n 9 dX12_rate_8 rfl rfl ?_
  refine ev_iconstN 10 0 dX12_rate_9 rfl ?_
  refine ev_iconstN 11 1 dX12_rate_10 rfl ?_
  refine ev_invS 14 (Mc := mX12_in) ⟨lk1536, lk80, hdX12_in, (Nat.le_of_ble_eq_true rfl), (Nat.le_of_ble_eq_true rfl)⟩ lk1534 lk1535 dX12_rate_11 (ct_X12_in_f hr) rfl (Nat.le_of_ble_eq_true rfl) rfl rfl ?_
  refine ev_if_neN 17 23 dX12_rate_14 (by decide) (by omega) rfl (fun hx => absurd ((by omega)) hx) (fun hbr => ?_)
  refine ev_aload_n 18 dX12_rate_17 rfl rfl ?_
  refine ev_iconst 19 (v := -1) dX12_rate_18 (by decide +kernel) rfl ?_
  refine ev_invV 22 (Mc := mX12_refused) ⟨lk1540, lk80, hdX12_refused, (Nat.le_of_ble_eq_true rfl), (Nat.le_of_ble_eq_true rfl)⟩ lk1537 lk1539 lk38 mm_cl12 rfl dX12_rate_19 (ct_X12_refused hM) rfl (hM.1 0 _ rfl) (Nat.le_of_ble_eq_true rfl) rfl rfl ?_
  exact ev_iret dX12_rate_22 rfl (rfl)
theorem ml_rate_t {r : Nat} {v : Int32} (h : MA B I P m n k) (hr : r ≤ 1) (hv : I (m + 5) k = v) : Ct g mX12_rate [.ref m, .int (nI k), .int (nI r)] B I J P (some (.int v), B, mo_st (va_up I (m + 5) (va_up (I (m + 5)) k (nI r))) m (nI 0), J, P) := by
  obtain ⟨hM, hn, h8, hk⟩ := h
  refine ct_of (lv := [some (.ref m), some (.int (nI (k))), some (.int (nI (r))), none]) (by decide +kernel) (Nat.le_of_ble_eq_true rfl) rfl ?_
  refine ev_aload_n 1 dX12_rate_0 rfl rfl ?_
  refine ev_iload_n 2 dX12_rate_1 rfl rfl ?_
  refine ev_invV 5 (Mc := mX12_isCoder) ⟨lk1552, lk80, hdX12_isCoder, (Nat.le_of_ble_eq_true rfl), (Nat.le_of_ble_eq_true rfl)⟩ lk1549 lk1551 lk40 mm_cl12 rfl dX12_rate_2 (ct_X12_isCoder_t hM hn h8 hk) rfl (hM.1 0 _ rfl) (Nat.le_of_ble_eq_true rfl) rfl rfl ?_
  refine ev_if_eqN 8 17 dX12_rate_5 (by decide) (by omega) rfl (fun hx => absurd hx ((by omega))) (fun hbr => ?_)
  refine ev_iload_n 9 dX12_rate_8 rfl rfl ?_
  refine ev_iconstN 10 0 dX12_rate_9 rfl ?_
  refine ev_iconstN 11 1 dX12_rate_10 rfl ?_
  refine ev_invS 14 (Mc := mX12_in) ⟨lk1536, lk80, hdX12_in, (Nat.le_of_ble_eq_true rfl), (Nat.le_of_ble_eq_true rfl)⟩ lk1534 lk1535 dX12_rate_11 (ct_X12_in_t (in_t (by omega) hr (by omega))) rfl (Nat.le_of_ble_eq_true rfl) rfl rfl ?_
  refine ev_if_neN 17 23 dX12_rate_14 (by decide) (by omega) rfl (fun hbr => ?_) (fun hx => absurd hx ((by omega)))
  refine ev_aload_n 24 dX12_rate_23 rfl rfl ?_
  refine ev_getP 27 mm_cl12 (j := 10) (Nat.le_of_ble_eq_true rfl) dX12_rate_24 lk1295 (fun _ _ _ => rfl) (hM.1 0 _ rfl) (a := (m + 5)) (hM.2.2 4 _ _ _ rfl) rfl ?_
  refine ev_iload_n 28 dX12_rate_27 rfl rfl ?_
  refine ev_iald 29 _ dX12_rate_28 (hM.1 5 _ rfl) rfl (by have hNN := hM.2.1 5 _ rfl; omega) rfl ?_
  refine ev_eqI (y := (v)) (hv) ?_
  refine ev_istore_n 30 (lv' := [_, _, some (.int _), _]) dX12_rate_29 (Nat.le_of_ble_eq_true rfl) rfl rfl ?_
  refine ev_aload_n 31 dX12_rate_30 rfl rfl ?_
  refine ev_getP 34 mm_cl12 (j := 10) (Nat.le_of_ble_eq_true rfl) dX12_rate_31 lk1295 (fun _ _ _ => rfl) (hM.1 0 _ rfl) (a := (m + 5)) (hM.2.2 4 _ _ _ rfl) rfl ?_
  refine ev_iload_n 35 dX12_rate_34 rfl rfl ?_
  refine ev_iload_n 36 dX12_rate_35 rfl rfl ?_
  refine ev_iast 37 _ dX12_rate_36 (hM.1 5 _ rfl) rfl (by have hNN := hM.2.1 5 _ rfl; omega) rfl ?_
  refine ev_aload_n 38 dX12_rate_37 rfl rfl ?_
  refine ev_iload_n 39 dX12_rate_38 rfl rfl ?_
  refine ev_invV 42 (Mc := mX12_done) ⟨lk1544, lk80, hdX12_done, (Nat.le_of_ble_eq_true rfl), (Nat.le_of_ble_eq_true rfl)⟩ lk1541 lk1543 lk39 mm_cl12 rfl dX12_rate_39 (ct_X12_done hM) rfl (hM.1 0 _ rfl) (Nat.le_of_ble_eq_true rfl) rfl rfl ?_
  exact ev_iret dX12_rate_42 rfl (rfl)
theorem cl_emphasis_f {c : Int32} {b : Nat} (hV : lyV B P x) (hx : I x 4 = nI n) (hc : ¬ (0 ≤ c ∧ c < nI n)) : Ct g mX11_emphasis [.ref x, .int c, .int (nI b)] B I J P (some (.int (-1)), B, vst I x (-1), J, P) := by
  refine ct_of (lv := [some (.ref x), some (.int (c)), some (.int (nI (b))), none, none]) (by decide +kernel) (Nat.le_of_ble_eq_true rfl) rfl ?_
  refine ev_aload_n 1 dX11_emphasis_0 rfl rfl ?_
  refine ev_iconstN 2 0 dX11_emphasis_1 rfl ?_
  refine ev_putI 5 mm_cl11 (j := 9) (Nat.le_of_ble_eq_true rfl) dX11_emphasis_2 lk270 rfl (fun _ _ _ => rfl) rfl rfl (hV.1 0 _ rfl) rfl ?_
  refine ev_aload_n 6 dX11_emphasis_5 rfl rfl ?_
  refine ev_iload_n 7 dX11_emphasis_6 rfl rfl ?_
  refine ev_invV 10 (Mc := mX11_coderAt) ⟨lk570, lk75, hdX11_coderAt, (Nat.le_of_ble_eq_true rfl), (Nat.le_of_ble_eq_true rfl)⟩ lk567 lk569 lk1 mm_cl11 rfl dX11_emphasis_7 (ca_f hV hx hc) rfl (hV.1 0 _ rfl) (Nat.le_of_ble_eq_true rfl) rfl rfl ?_
  refine ev_astore_nN 11 (lv' := [_, _, some (.int _), _, _]) dX11_emphasis_10 (Nat.le_of_ble_eq_true rfl) rfl rfl ?_
  refine ev_aload_nN 12 dX11_emphasis_11 rfl rfl ?_
  refine ev_ifnonnull_n 15 dX11_emphasis_12 rfl ?_
  refine ev_aload_n 16 dX11_emphasis_15 rfl rfl ?_
  refine ev_iconst 17 (v := -1) dX11_emphasis_16 (by decide +kernel) rfl ?_
  refine ev_invV 20 (Mc := mX11_refuse) ⟨lk303, lk75, hdX11_refuse, (Nat.le_of_ble_eq_true rfl), (Nat.le_of_ble_eq_true rfl)⟩ lk300 lk302 lk0 mm_cl11 rfl dX11_emphasis_17 (ct_refuse hV) rfl (hV.1 0 _ rfl) (Nat.le_of_ble_eq_true rfl) rfl rfl ?_
  exact ev_iret dX11_emphasis_20 rfl (rfl)
theorem cl_emphasis_t {b v : Nat} (h : CA B I P x o n k) (hb : b ≤ 1) (hv1 : v ≤ 1) (hv : I (o + 4) 13 = nI v) : Ct g mX11_emphasis [.ref x, .int (nI k), .int (nI b)] B I J P (some (.int (nI v)), B, va_up (vz I x) (o + 4) (va_up (vz I x (o + 4)) 13 (nI b)), J, P) := by
  have ca := ca_t (g := g) (J := J) h
  obtain ⟨hV, hC, hxo, hx, h8, hk, hP⟩ := h
  have b1 := bo_1 hb
  have b2 := bo_2 hb
  refine ct_of (lv := [some (.ref x), some (.int (nI (k))), some (.int (nI (b))), none, none]) (by decide +kernel) (Nat.le_of_ble_eq_true rfl) rfl ?_
  refine ev_aload_n 1 dX11_emphasis_0 rfl rfl ?_
  refine ev_iconstN 2 0 dX11_emphasis_1 rfl ?_
  refine ev_putI 5 mm_cl11 (j := 9) (Nat.le_of_ble_eq_true rfl) dX11_emphasis_2 lk270 rfl (fun _ _ _ => rfl) rfl rfl (hV.1 0 _ rfl) rfl ?_
  refine ev_aload_n 6 dX11_emphasis_5 rfl rfl ?_
  refine ev_iload_n 7 dX11_emphasis_6 rfl rfl ?_
  refine ev_invV 10 (Mc := mX11_coderAt) ⟨lk570, lk75, hdX11_coderAt, (Nat.le_of_ble_eq_true rfl), (Nat.le_of_ble_eq_true rfl)⟩ lk567 lk569 lk1 mm_cl11 rfl dX11_emphasis_7 (ca) rfl (hV.1 0 _ rfl) (Nat.le_of_ble_eq_true rfl) rfl rfl ?_
  refine ev_astore_n 11 (lv' := [_, _, some (.int _), _, _]) dX11_emphasis_10 (Nat.le_of_ble_eq_true rfl) rfl rfl ?_
  refine ev_aload_n 12 dX11_emphasis_11 rfl rfl ?_
  refine ev_ifnonnull_r 21 dX11_emphasis_12 (by decide) ?_
  refine ev_aload_n 22 dX11_emphasis_21 rfl rfl ?_
  refine ev_getP 25 mm_cl0 (j := 3) (Nat.le_of_ble_eq_true rfl) dX11_emphasis_22 lk549 (fun _ _ _ => rfl) (hC.1 0 _ rfl) (a := (o + 4)) (hC.2.2.1 2 _ _ _ rfl) rfl ?_
  refine ev_getI 28 mm_cl2 (j := 13) (Nat.le_of_ble_eq_true rfl) dX11_emphasis_25 lk389 (fun _ _ _ => rfl) (hC.1 4 _ rfl) rfl ?_
  refine ev_eqI (y := nI (v)) ((vzk hv (by omega))) ?_
  refine ev_invS 31 (Mc := mX11_bit) ⟨lk577, lk75, hdX11_bit, (Nat.le_of_ble_eq_true rfl), (Nat.le_of_ble_eq_true rfl)⟩ lk575 lk576 dX11_emphasis_28 (ct_bit hv1) rfl (Nat.le_of_ble_eq_true rfl) rfl rfl ?_
  refine ev_istore 33 (lv' := [_, _, _, some (.ref _), _]) dX11_emphasis_31 (Nat.le_of_ble_eq_true rfl) rfl rfl ?_
  refine ev_aload_n 34 dX11_emphasis_33 rfl rfl ?_
  refine ev_getP 37 mm_cl0 (j := 3) (Nat.le_of_ble_eq_true rfl) dX11_emphasis_34 lk549 (fun _ _ _ => rfl) (hC.1 0 _ rfl) (a := (o + 4)) (hC.2.2.1 2 _ _ _ rfl) rfl ?_
  refine ev_iload_n 38 dX11_emphasis_37 rfl rfl ?_
  refine ev_putI 41 mm_cl2 (j := 13) (Nat.le_of_ble_eq_true rfl) dX11_emphasis_38 lk389 rfl (fun _ _ _ => rfl) (by assumption) (by assumption) (hC.1 4 _ rfl) rfl ?_
  refine ev_iload 43 dX11_emphasis_41 rfl rfl ?_
  exact ev_iret dX11_emphasis_43 rfl (rfl)
theorem ml_emphasis_f {c : Int32} {b : Nat} (hM : lyM B P m) (hn : I m 0 = nI n) (hc : ¬ (0 ≤ c ∧ c < nI n)) : Ct g mX12_emphasis [.ref m, .int c, .int (nI b)] B I J P (some (.int (-1)), B, mo_st I m (-1), J, P) := by
  refine ct_of (lv := [some (.ref m), some (.int (c)), some (.int (nI (b))), none]) (by decide +kernel) (Nat.le_of_ble_eq_true rfl) rfl ?_
  refine ev_aload_n 1 dX12_emphasis_0 rfl rfl ?_
  refine ev_iload_n 2 dX12_emphasis_1 rfl rfl ?_
  refine ev_invV 5 (Mc := mX12_isCoder) ⟨lk1552, lk80, hdX12_isCoder, (Nat.le_of_ble_eq_true rfl), (Nat.le_of_ble_eq_true rfl)⟩ lk1549 lk1551 lk40 mm_cl12 rfl dX12_emphasis_2 (ct_X12_isCoder_f hM (by rw [hn]; exact hc)) rfl (hM.1 0 _ rfl) (Nat.le_of_ble_eq_true rfl) rfl rfl ?_
  refine ev_if_neN 8 14 dX12_emphasis_5 (by decide) (by omega) rfl (fun hx => absurd ((by omega)) hx) (fun hbr => ?_)
  refine ev_aload_n 9 dX12_emphasis_8 rfl rfl ?_
  refine ev_iconst 10 (v := -1) dX12_emphasis_9 (by decide +kernel) rfl ?_
  refine ev_invV 13 (Mc := mX12_refused) ⟨lk1540, lk80, hdX12_refused, (Nat.le_of_ble_eq_true rfl), (Nat.le_of_ble_eq_true rfl)⟩ lk1537 lk1539 lk38 mm_cl12 rfl dX12_emphasis_10 (ct_X12_refused hM) rfl (hM.1 0 _ rfl) (Nat.le_of_ble_eq_true rfl) rfl rfl ?_
  exact ev_iret dX12_emphasis_13 rfl (rfl)
theorem ml_emphasis_t {b v : Nat} (h : MA B I P m n k) (hb : b ≤ 1) (hv1 : v ≤ 1) (hv : I (m + 6) k = nI v) : Ct g mX12_emphasis [.ref m, .int (nI k), .int (nI b)] B I J P (some (.int (nI v)), B, mo_st (va_up I (m + 6) (va_up (I (m + 6)) k (nI b))) m (nI 0), J, P) := by
  obtain ⟨hM, hn, h8, hk⟩ := h
  have b1 := bo_1 hb
  refine ct_of (lv := [some (.ref m), some (.int (nI (k))), some (.int (nI (b))), none]) (by decide +kernel) (Nat.le_of_ble_eq_true rfl) rfl ?_
  refine ev_aload_n 1 dX12_emphasis_0 rfl rfl ?_
  refine ev_iload_n 2 dX12_emphasis_1 rfl rfl ?_
  refine ev_invV 5 (Mc := mX12_isCoder) ⟨lk1552, lk80, hdX12_isCoder, (Nat.le_of_ble_eq_true rfl), (Nat.le_of_ble_eq_true rfl)⟩ lk1549 lk1551 lk40 mm_cl12 rfl dX12_emphasis_2 (ct_X12_isCoder_t hM hn h8 hk) rfl (hM.1 0 _ rfl) (Nat.le_of_ble_eq_true rfl) rfl rfl ?_
  refine ev_if_neN 8 14 dX12_emphasis_5 (by decide) (by omega) rfl (fun hbr => ?_) (fun hx => absurd hx ((by omega)))
  refine ev_aload_n 15 dX12_emphasis_14 rfl rfl ?_
  refine ev_getP 18 mm_cl12 (j := 11) (Nat.le_of_ble_eq_true rfl) dX12_emphasis_15 lk1296 (fun _ _ _ => rfl) (hM.1 0 _ rfl) (a := (m + 6)) (hM.2.2 5 _ _ _ rfl) rfl ?_
  refine ev_iload_n 19 dX12_emphasis_18 rfl rfl ?_
  refine ev_zald 20 _ dX12_emphasis_19 (hM.1 6 _ rfl) rfl (by have hNN := hM.2.1 6 _ rfl; omega) rfl ?_
  refine ev_eqI (y := nI (v)) (hv) ?_
  refine ev_if_eqN 23 27 dX12_emphasis_20 (by decide) (by omega) rfl (fun h1 => ?_) (fun h1 => ?_)
  · refine ev_iconstN 28 0 dX12_emphasis_27 rfl ?_
    refine ev_istore_n 29 (lv' := [_, _, some (.int _), _]) dX12_emphasis_28 (Nat.le_of_ble_eq_true rfl) rfl rfl ?_
    refine ev_aload_n 30 dX12_emphasis_29 rfl rfl ?_
    refine ev_getP 33 mm_cl12 (j := 11) (Nat.le_of_ble_eq_true rfl) dX12_emphasis_30 lk1296 (fun _ _ _ => rfl) (hM.1 0 _ rfl) (a := (m + 6)) (hM.2.2 5 _ _ _ rfl) rfl ?_
    refine ev_iload_n 34 dX12_emphasis_33 rfl rfl ?_
    refine ev_iload_n 35 dX12_emphasis_34 rfl rfl ?_
    refine ev_zast 36 _ dX12_emphasis_35 (hM.1 6 _ rfl) rfl (by have hNN := hM.2.1 6 _ rfl; omega) (by assumption) rfl ?_
    refine ev_aload_n 37 dX12_emphasis_36 rfl rfl ?_
    refine ev_iload_n 38 dX12_emphasis_37 rfl rfl ?_
    refine ev_invV 41 (Mc := mX12_done) ⟨lk1544, lk80, hdX12_done, (Nat.le_of_ble_eq_true rfl), (Nat.le_of_ble_eq_true rfl)⟩ lk1541 lk1543 lk39 mm_cl12 rfl dX12_emphasis_38 (ct_X12_done hM) rfl (hM.1 0 _ rfl) (Nat.le_of_ble_eq_true rfl) rfl rfl ?_
    rw [show v = 0 by omega]
    exact ev_iret dX12_emphasis_41 rfl (rfl)
  · refine ev_iconstN 24 1 dX12_emphasis_23 rfl ?_
    refine ev_goto 28 dX12_emphasis_24 (by decide) ?_
    refine ev_istore_n 29 (lv' := [_, _, some (.int _), _]) dX12_emphasis_28 (Nat.le_of_ble_eq_true rfl) rfl rfl ?_
    refine ev_aload_n 30 dX12_emphasis_29 rfl rfl ?_
    refine ev_getP 33 mm_cl12 (j := 11) (Nat.le_of_ble_eq_true rfl) dX12_emphasis_30 lk1296 (fun _ _ _ => rfl) (hM.1 0 _ rfl) (a := (m + 6)) (hM.2.2 5 _ _ _ rfl) rfl ?_
    refine ev_iload_n 34 dX12_emphasis_33 rfl rfl ?_
    refine ev_iload_n 35 dX12_emphasis_34 rfl rfl ?_
    refine ev_zast 36 _ dX12_emphasis_35 (hM.1 6 _ rfl) rfl (by have hNN := hM.2.1 6 _ rfl; omega) (by assumption) rfl ?_
    refine ev_aload_n 37 dX12_emphasis_36 rfl rfl ?_
    refine ev_iload_n 38 dX12_emphasis_37 rfl rfl ?_
    refine ev_invV 41 (Mc := mX12_done) ⟨lk1544, lk80, hdX12_done, (Nat.le_of_ble_eq_true rfl), (Nat.le_of_ble_eq_true rfl)⟩ lk1541 lk1543 lk39 mm_cl12 rfl dX12_emphasis_38 (ct_X12_done hM) rfl (hM.1 0 _ rfl) (Nat.le_of_ble_eq_true rfl) rfl rfl ?_
    rw [show v = 1 by omega]
    exact ev_iret dX12_emphasis_41 rfl (rfl)
theorem cl_redundancy_f {c : Int32} {b : Nat} (hV : lyV B P x) (hx : I x 4 = nI n) (hc : ¬ (0 ≤ c ∧ c < nI n)) : Ct g mX11_redundancy [.ref x, .int c, .int (nI b)] B I J P (some (.int (-1)), B, vst I x (-1), J, P) := by
  refine ct_of (lv := [some (.ref x), some (.int (c)), some (.int (nI (b))), none, none]) (by decide +kernel) (Nat.le_of_ble_eq_true rfl) rfl ?_
  refine ev_aload_n 1 dX11_redundancy_0 rfl rfl ?_
  refine ev_iconstN 2 0 dX11_redundancy_1 rfl ?_
  refine ev_putI 5 mm_cl11 (j := 9) (Nat.le_of_ble_eq_true rfl) dX11_redundancy_2 lk270 rfl (fun _ _ _ => rfl) rfl rfl (hV.1 0 _ rfl) rfl ?_
  refine ev_aload_n 6 dX11_redundancy_5 rfl rfl ?_
  refine ev_iload_n 7 dX11_redundancy_6 rfl rfl ?_
  refine ev_invV 10 (Mc := mX11_coderAt) ⟨lk570, lk75, hdX11_coderAt, (Nat.le_of_ble_eq_true rfl), (Nat.le_of_ble_eq_true rfl)⟩ lk567 lk569 lk1 mm_cl11 rfl dX11_redundancy_7 (ca_f hV hx hc) rfl (hV.1 0 _ rfl) (Nat.le_of_ble_eq_true rfl) rfl rfl ?_
  refine ev_astore_nN 11 (lv' := [_, _, some (.int _), _, _]) dX11_redundancy_10 (Nat.le_of_ble_eq_true rfl) rfl rfl ?_
  refine ev_aload_nN 12 dX11_redundancy_11 rfl rfl ?_
  refine ev_ifnonnull_n 15 dX11_redundancy_12 rfl ?_
  refine ev_aload_n 16 dX11_redundancy_15 rfl rfl ?_
  refine ev_iconst 17 (v := -1) dX11_redundancy_16 (by decide +kernel) rfl ?_
  refine ev_invV 20 (Mc := mX11_refuse) ⟨lk303, lk75, hdX11_refuse, (Nat.le_of_ble_eq_true rfl), (Nat.le_of_ble_eq_true rfl)⟩ lk300 lk302 lk0 mm_cl11 rfl dX11_redundancy_17 (ct_refuse hV) rfl (hV.1 0 _ rfl) (Nat.le_of_ble_eq_true rfl) rfl rfl ?_
  exact ev_iret dX11_redundancy_20 rfl (rfl)
theorem cl_redundancy_t {b v : Nat} (h : CA B I P x o n k) (hb : b ≤ 1) (hv1 : v ≤ 1) (hv : I (o + 4) 14 = nI v) : Ct g mX11_redundancy [.ref x, .int (nI k), .int (nI b)] B I J P (some (.int (nI v)), B, va_up (vz I x) (o + 4) (va_up (vz I x (o + 4)) 14 (nI b)), J, P) := by
  have ca := ca_t (g := g) (J := J) h
  obtain ⟨hV, hC, hxo, hx, h8, hk, hP⟩ := h
  have b1 := bo_1 hb
  have b2 := bo_2 hb
  refine ct_of (lv := [some (.ref x), some (.int (nI (k))), some (.int (nI (b))), none, none]) (by decide +kernel) (Nat.le_of_ble_eq_true rfl) rfl ?_
  refine ev_aload_n 1 dX11_redundancy_0 rfl rfl ?_
  refine ev_iconstN 2 0 dX11_redundancy_1 rfl ?_
  refine ev_putI 5 mm_cl11 (j := 9) (Nat.le_of_ble_eq_true rfl) dX11_redundancy_2 lk270 rfl (fun _ _ _ => rfl) rfl rfl (hV.1 0 _ rfl) rfl ?_
  refine ev_aload_n 6 dX11_redundancy_5 rfl rfl ?_
  refine ev_iload_n 7 dX11_redundancy_6 rfl rfl ?_
  refine ev_invV 10 (Mc := mX11_coderAt) ⟨lk570, lk75, hdX11_coderAt, (Nat.le_of_ble_eq_true rfl), (Nat.le_of_ble_eq_true rfl)⟩ lk567 lk569 lk1 mm_cl11 rfl dX11_redundancy_7 (ca) rfl (hV.1 0 _ rfl) (Nat.le_of_ble_eq_true rfl) rfl rfl ?_
  refine ev_astore_n 11 (lv' := [_, _, some (.int _), _, _]) dX11_redundancy_10 (Nat.le_of_ble_eq_true rfl) rfl rfl ?_
  refine ev_aload_n 12 dX11_redundancy_11 rfl rfl ?_
  refine ev_ifnonnull_r 21 dX11_redundancy_12 (by decide) ?_
  refine ev_aload_n 22 dX11_redundancy_21 rfl rfl ?_
  refine ev_getP 25 mm_cl0 (j := 3) (Nat.le_of_ble_eq_true rfl) dX11_redundancy_22 lk549 (fun _ _ _ => rfl) (hC.1 0 _ rfl) (a := (o + 4)) (hC.2.2.1 2 _ _ _ rfl) rfl ?_
  refine ev_getI 28 mm_cl2 (j := 14) (Nat.le_of_ble_eq_true rfl) dX11_redundancy_25 lk390 (fun _ _ _ => rfl) (hC.1 4 _ rfl) rfl ?_
  refine ev_eqI (y := nI (v)) ((vzk hv (by omega))) ?_
  refine ev_invS 31 (Mc := mX11_bit) ⟨lk577, lk75, hdX11_bit, (Nat.le_of_ble_eq_true rfl), (Nat.le_of_ble_eq_true rfl)⟩ lk575 lk576 dX11_redundancy_28 (ct_bit hv1) rfl (Nat.le_of_ble_eq_true rfl) rfl rfl ?_
  refine ev_istore 33 (lv' := [_, _, _, some (.ref _), _]) dX11_redundancy_31 (Nat.le_of_ble_eq_true rfl) rfl rfl ?_
  refine ev_aload_n 34 dX11_redundancy_33 rfl rfl ?_
  refine ev_getP 37 mm_cl0 (j := 3) (Nat.le_of_ble_eq_true rfl) dX11_redundancy_34 lk549 (fun _ _ _ => rfl) (hC.1 0 _ rfl) (a := (o + 4)) (hC.2.2.1 2 _ _ _ rfl) rfl ?_
  refine ev_iload_n 38 dX11_redundancy_37 rfl rfl ?_
  refine ev_putI 41 mm_cl2 (j := 14) (Nat.le_of_ble_eq_true rfl) dX11_redundancy_38 lk390 rfl (fun _ _ _ => rfl) (by assumption) (by assumption) (hC.1 4 _ rfl) rfl ?_
  refine ev_iload 43 dX11_redundancy_41 rfl rfl ?_
  exact ev_iret dX11_redundancy_43 rfl (rfl)
theorem ml_redundancy_f {c : Int32} {b : Nat} (hM : lyM B P m) (hn : I m 0 = nI n) (hc : ¬ (0 ≤ c ∧ c < nI n)) : Ct g mX12_redundancy [.ref m, .int c, .int (nI b)] B I J P (some (.int (-1)), B, mo_st I m (-1), J, P) := by
  refine ct_of (lv := [some (.ref m), some (.int (c)), some (.int (nI (b))), none]) (by decide +kernel) (Nat.le_of_ble_eq_true rfl) rfl ?_
  refine ev_aload_n 1 dX12_redundancy_0 rfl rfl ?_
  refine ev_iload_n 2 dX12_redundancy_1 rfl rfl ?_
  refine ev_invV 5 (Mc := mX12_isCoder) ⟨lk1552, lk80, hdX12_isCoder, (Nat.le_of_ble_eq_true rfl), (Nat.le_of_ble_eq_true rfl)⟩ lk1549 lk1551 lk40 mm_cl12 rfl dX12_redundancy_2 (ct_X12_isCoder_f hM (by rw [hn]; exact hc)) rfl (hM.1 0 _ rfl) (Nat.le_of_ble_eq_true rfl) rfl rfl ?_
  refine ev_if_neN 8 14 dX12_redundancy_5 (by decide) (by omega) rfl (fun hx => absurd ((by omega)) hx) (fun hbr => ?_)
  refine ev_aload_n 9 dX12_redundancy_8 rfl rfl ?_
  refine ev_iconst 10 (v := -1) dX12_redundancy_9 (by decide +kernel) rfl ?_
  refine ev_invV 13 (Mc := mX12_refused) ⟨lk1540, lk80, hdX12_refused, (Nat.le_of_ble_eq_true rfl), (Nat.le_of_ble_eq_true rfl)⟩ lk1537 lk1539 lk38 mm_cl12 rfl dX12_redundancy_10 (ct_X12_refused hM) rfl (hM.1 0 _ rfl) (Nat.le_of_ble_eq_true rfl) rfl rfl ?_
  exact ev_iret dX12_redundancy_13 rfl (rfl)
theorem ml_redundancy_t {b v : Nat} (h : MA B I P m n k) (hb : b ≤ 1) (hv1 : v ≤ 1) (hv : I (m + 9) k = nI v) : Ct g mX12_redundancy [.ref m, .int (nI k), .int (nI b)] B I J P (some (.int (nI v)), B, mo_st (va_up I (m + 9) (va_up (I (m + 9)) k (nI b))) m (nI 0), J, P) := by
  obtain ⟨hM, hn, h8, hk⟩ := h
  have b1 := bo_1 hb
  refine ct_of (lv := [some (.ref m), some (.int (nI (k))), some (.int (nI (b))), none]) (by decide +kernel) (Nat.le_of_ble_eq_true rfl) rfl ?_
  refine ev_aload_n 1 dX12_redundancy_0 rfl rfl ?_
  refine ev_iload_n 2 dX12_redundancy_1 rfl rfl ?_
  refine ev_invV 5 (Mc := mX12_isCoder) ⟨lk1552, lk80, hdX12_isCoder, (Nat.le_of_ble_eq_true rfl), (Nat.le_of_ble_eq_true rfl)⟩ lk1549 lk1551 lk40 mm_cl12 rfl dX12_redundancy_2 (ct_X12_isCoder_t hM hn h8 hk) rfl (hM.1 0 _ rfl) (Nat.le_of_ble_eq_true rfl) rfl rfl ?_
  refine ev_if_neN 8 14 dX12_redundancy_5 (by decide) (by omega) rfl (fun hbr => ?_) (fun hx => absurd hx ((by omega)))
  refine ev_aload_n 15 dX12_redundancy_14 rfl rfl ?_
  refine ev_getP 18 mm_cl12 (j := 14) (Nat.le_of_ble_eq_true rfl) dX12_redundancy_15 lk1299 (fun _ _ _ => rfl) (hM.1 0 _ rfl) (a := (m + 9)) (hM.2.2 8 _ _ _ rfl) rfl ?_
  refine ev_iload_n 19 dX12_redundancy_18 rfl rfl ?_
  refine ev_zald 20 _ dX12_redundancy_19 (hM.1 9 _ rfl) rfl (by have hNN := hM.2.1 9 _ rfl; omega) rfl ?_
  refine ev_eqI (y := nI (v)) (hv) ?_
  refine ev_if_eqN 23 27 dX12_redundancy_20 (by decide) (by omega) rfl (fun h1 => ?_) (fun h1 => ?_)
  · refine ev_iconstN 28 0 dX12_redundancy_27 rfl ?_
    refine ev_istore_n 29 (lv' := [_, _, some (.int _), _]) dX12_redundancy_28 (Nat.le_of_ble_eq_true rfl) rfl rfl ?_
    refine ev_aload_n 30 dX12_redundancy_29 rfl rfl ?_
    refine ev_getP 33 mm_cl12 (j := 14) (Nat.le_of_ble_eq_true rfl) dX12_redundancy_30 lk1299 (fun _ _ _ => rfl) (hM.1 0 _ rfl) (a := (m + 9)) (hM.2.2 8 _ _ _ rfl) rfl ?_
    refine ev_iload_n 34 dX12_redundancy_33 rfl rfl ?_
    refine ev_iload_n 35 dX12_redundancy_34 rfl rfl ?_
    refine ev_zast 36 _ dX12_redundancy_35 (hM.1 9 _ rfl) rfl (by have hNN := hM.2.1 9 _ rfl; omega) (by assumption) rfl ?_
    refine ev_aload_n 37 dX12_redundancy_36 rfl rfl ?_
    refine ev_iload_n 38 dX12_redundancy_37 rfl rfl ?_
    refine ev_invV 41 (Mc := mX12_done) ⟨lk1544, lk80, hdX12_done, (Nat.le_of_ble_eq_true rfl), (Nat.le_of_ble_eq_true rfl)⟩ lk1541 lk1543 lk39 mm_cl12 rfl dX12_redundancy_38 (ct_X12_done hM) rfl (hM.1 0 _ rfl) (Nat.le_of_ble_eq_true rfl) rfl rfl ?_
    rw [show v = 0 by omega]
    exact ev_iret dX12_redundancy_41 rfl (rfl)
  · refine ev_iconstN 24 1 dX12_redundancy_23 rfl ?_
    refine ev_goto 28 dX12_redundancy_24 (by decide) ?_
    refine ev_istore_n 29 (lv' := [_, _, some (.int _), _]) dX12_redundancy_28 (Nat.le_of_ble_eq_true rfl) rfl rfl ?_
    refine ev_aload_n 30 dX12_redundancy_29 rfl rfl ?_
    refine ev_getP 33 mm_cl12 (j := 14) (Nat.le_of_ble_eq_true rfl) dX12_redundancy_30 lk1299 (fun _ _ _ => rfl) (hM.1 0 _ rfl) (a := (m + 9)) (hM.2.2 8 _ _ _ rfl) rfl ?_
    refine ev_iload_n 34 dX12_redundancy_33 rfl rfl ?_
    refine ev_iload_n 35 dX12_redundancy_34 rfl rfl ?_
    refine ev_zast 36 _ dX12_redundancy_35 (hM.1 9 _ rfl) rfl (by have hNN := hM.2.1 9 _ rfl; omega) (by assumption) rfl ?_
    refine ev_aload_n 37 dX12_redundancy_36 rfl rfl ?_
    refine ev_iload_n 38 dX12_redundancy_37 rfl rfl ?_
    refine ev_invV 41 (Mc := mX12_done) ⟨lk1544, lk80, hdX12_done, (Nat.le_of_ble_eq_true rfl), (Nat.le_of_ble_eq_true rfl)⟩ lk1541 lk1543 lk39 mm_cl12 rfl dX12_redundancy_38 (ct_X12_done hM) rfl (hM.1 0 _ rfl) (Nat.le_of_ble_eq_true rfl) rfl rfl ?_
    rw [show v = 1 by omega]
    exact ev_iret dX12_redundancy_41 rfl (rfl)
theorem cl_search_f {c r s : Int32} (hV : lyV B P x) (hx : I x 4 = nI n) (hc : ¬ (0 ≤ c ∧ c < nI n)) : Ct g mX11_search [.ref x, .int c, .int r, .int s] B I J P (some (.int (-1)), B, vst I x (-1), J, P) := by
  refine ct_of (lv := [some (.ref x), some (.int (c)), some (.int (r)), some (.int (s)), none, none, none]) (by decide +kernel) (Nat.le_of_ble_eq_true rfl) rfl ?_
  refine ev_aload_n 1 dX11_search_0 rfl rfl ?_
  refine ev_iconstN 2 0 dX11_search_1 rfl ?_
  refine ev_putI 5 mm_cl11 (j := 9) (Nat.le_of_ble_eq_true rfl) dX11_search_2 lk270 rfl (fun _ _ _ => rfl) rfl rfl (hV.1 0 _ rfl) rfl ?_
  refine ev_aload_n 6 dX11_search_5 rfl rfl ?_
  refine ev_iload_n 7 dX11_search_6 rfl rfl ?_
  refine ev_invV 10 (Mc := mX11_coderAt) ⟨lk570, lk75, hdX11_coderAt, (Nat.le_of_ble_eq_true rfl), (Nat.le_of_ble_eq_true rfl)⟩ lk567 lk569 lk1 mm_cl11 rfl dX11_search_7 (ca_f hV hx hc) rfl (hV.1 0 _ rfl) (Nat.le_of_ble_eq_true rfl) rfl rfl ?_
  refine ev_astoreN 12 (lv' := [_, _, _, some (.int _), _, _, _]) dX11_search_10 (Nat.le_of_ble_eq_true rfl) rfl rfl ?_
  refine ev_aloadN 14 dX11_search_12 rfl rfl ?_
  refine ev_ifnull_n 31 dX11_search_14 (by decide) ?_
  refine ev_aload_n 32 dX11_search_31 rfl rfl ?_
  refine ev_iconst 33 (v := -1) dX11_search_32 (by decide +kernel) rfl ?_
  refine ev_invV 36 (Mc := mX11_refuse) ⟨lk303, lk75, hdX11_refuse, (Nat.le_of_ble_eq_true rfl), (Nat.le_of_ble_eq_true rfl)⟩ lk300 lk302 lk0 mm_cl11 rfl dX11_search_33 (ct_refuse hV) rfl (hV.1 0 _ rfl) (Nat.le_of_ble_eq_true rfl) rfl rfl ?_
  exact ev_iret dX11_search_36 rfl (rfl)
theorem cl_search_b {r s : Int32} (h : CA B I P x o n k) (hr : ¬ (nI 0 ≤ r ∧ r ≤ nI 1)) : Ct g mX11_search [.ref x, .int (nI k), .int r, .int s] B I J P (some (.int (-1)), B, vst I x (-1), J, P) := by
  have ca := ca_t (g := g) (J := J) h
  obtain ⟨hV, hC, hxo, hx, h8, hk, hP⟩ := h
  refine ct_of (lv := [some (.ref x), some (.int (nI (k))), some (.int (r)), some (.int (s)), none, none, none]) (by decide +kernel) (Nat.le_of_ble_eq_true rfl) rfl ?_
  refine ev_aload_n 1 dX11_search_0 rfl rfl ?_
  refine ev_iconstN 2 0 dX11_search_1 rfl ?_
  refine ev_putI 5 mm_cl11 (j := 9) (Nat.le_of_ble_eq_true rfl) dX11_search_2 lk270 rfl (fun _ _ _ => rfl) rfl rfl (hV.1 0 _ rfl) rfl ?_
  refine ev_aload_n 6 dX11_search_5 rfl rfl ?_
  refine ev_iload_n 7 dX11_search_6 rfl rfl ?_
  refine ev_invV 10 (Mc := mX11_coderAt) ⟨lk570, lk75, hdX11_coderAt, (Nat.le_of_ble_eq_true rfl), (Nat.le_of_ble_eq_true rfl)⟩ lk567 lk569 lk1 mm_cl11 rfl dX11_search_7 (ca) rfl (hV.1 0 _ rfl) (Nat.le_of_ble_eq_true rfl) rfl rfl ?_
  refine ev_astore 12 (lv' := [_, _, _, some (.int _), _, _, _]) dX11_search_10 (Nat.le_of_ble_eq_true rfl) rfl rfl ?_
  refine ev_aload 14 dX11_search_12 rfl rfl ?_
  refine ev_ifnull_r 17 dX11_search_14 rfl ?_
  refine ev_iload_n 18 dX11_search_17 rfl rfl ?_
  refine ev_invS 21 (Mc := mX11_isBit) ⟨lk299, lk75, hdX11_isBit, (Nat.le_of_ble_eq_true rfl), (Nat.le_of_ble_eq_true rfl)⟩ lk297 lk298 dX11_search_18 (ct_isBit_f hr) rfl (Nat.le_of_ble_eq_true rfl) rfl rfl ?_
  refine ev_if_eqN 24 31 dX11_search_21 (by decide) (by omega) rfl (fun hbr => ?_) (fun hx => absurd ((by omega)) hx)
  refine ev_aload_n 32 dX11_search_31 rfl rfl ?_
  refine ev_iconst 33 (v := -1) dX11_search_32 (by decide +kernel) rfl ?_
  refine ev_invV 36 (Mc := mX11_refuse) ⟨lk303, lk75, hdX11_refuse, (Nat.le_of_ble_eq_true rfl), (Nat.le_of_ble_eq_true rfl)⟩ lk300 lk302 lk0 mm_cl11 rfl dX11_search_33 (ct_refuse hV) rfl (hV.1 0 _ rfl) (Nat.le_of_ble_eq_true rfl) rfl rfl ?_
  exact ev_iret dX11_search_36 rfl (rfl)
theorem cl_search_b2 {r : Nat} {s : Int32} (h : CA B I P x o n k) (hr : r ≤ 1) (hs : ¬ (nI 0 ≤ s ∧ s ≤ nI 1)) : Ct g mX11_search [.ref x, .int (nI k), .int (nI r), .int s] B I J P (some (.int (-1)), B, vst I x (-1), J, P) := by
  have ca := ca_t (g := g) (J := J) h
  obtain ⟨hV, hC, hxo, hx, h8, hk, hP⟩ := h
  refine ct_of (lv := [some (.ref x), some (.int (nI (k))), some (.int (nI (r))), some (.int (s)), none, none, none]) (by decide +kernel) (Nat.le_of_ble_eq_true rfl) rfl ?_
  refine ev_aload_n 1 dX11_search_0 rfl rfl ?_
  refine ev_iconstN 2 0 dX11_search_1 rfl ?_
  refine ev_putI 5 mm_cl11 (j := 9) (Nat.le_of_ble_eq_true rfl) dX11_search_2 lk270 rfl (fun _ _ _ => rfl) rfl rfl (hV.1 0 _ rfl) rfl ?_
  refine ev_aload_n 6 dX11_search_5 rfl rfl ?_
  refine ev_iload_n 7 dX11_search_6 rfl rfl ?_
  refine ev_invV 10 (Mc := mX11_coderAt) ⟨lk570, lk75, hdX11_coderAt, (Nat.le_of_ble_eq_true rfl), (Nat.le_of_ble_eq_true rfl)⟩ lk567 lk569 lk1 mm_cl11 rfl dX11_search_7 (ca) rfl (hV.1 0 _ rfl) (Nat.le_of_ble_eq_true rfl) rfl rfl ?_
  refine ev_astore 12 (lv' := [_, _, _, some (.int _), _, _, _]) dX11_search_10 (Nat.le_of_ble_eq_true rfl) rfl rfl ?_
  refine ev_aload 14 dX11_search_12 rfl rfl ?_
  refine ev_ifnull_r 17 dX11_search_14 rfl ?_
  refine ev_iload_n 18 dX11_search_17 rfl rfl ?_
  refine ev_invS 21 (Mc := mX11_isBit) ⟨lk299, lk75, hdX11_isBit, (Nat.le_of_ble_eq_true rfl), (Nat.le_of_ble_eq_true rfl)⟩ lk297 lk298 dX11_search_18 (ct_isBit_t hr) rfl (Nat.le_of_ble_eq_true rfl) rfl rfl ?_
  refine ev_if_eqN 24 31 dX11_search_21 (by decide) (by omega) rfl (fun hx => absurd hx ((by omega))) (fun hbr => ?_)
  refine ev_iload_n 25 dX11_search_24 rfl rfl ?_
  refine ev_invS 28 (Mc := mX11_isBit) ⟨lk299, lk75, hdX11_isBit, (Nat.le_of_ble_eq_true rfl), (Nat.le_of_ble_eq_true rfl)⟩ lk297 lk298 dX11_search_25 (ct_isBit_f hs) rfl (Nat.le_of_ble_eq_true rfl) rfl rfl ?_
  refine ev_if_neN 31 37 dX11_search_28 (by decide) (by omega) rfl (fun hx => absurd ((by omega)) hx) (fun hbr => ?_)
  refine ev_aload_n 32 dX11_search_31 rfl rfl ?_
  refine ev_iconst 33 (v := -1) dX11_search_32 (by decide +kernel) rfl ?_
  refine ev_invV 36 (Mc := mX11_refuse) ⟨lk303, lk75, hdX11_refuse, (Nat.le_of_ble_eq_true rfl), (Nat.le_of_ble_eq_true rfl)⟩ lk300 lk302 lk0 mm_cl11 rfl dX11_search_33 (ct_refuse hV) rfl (hV.1 0 _ rfl) (Nat.le_of_ble_eq_true rfl) rfl rfl ?_
  exact ev_iret dX11_search_36 rfl (rfl)
theorem cl_search_t0 {s : Nat} {v : Int32} (h : CA B I P x o n k) (hs : s ≤ 1) (hv : I (o + 4) 11 = v) : Ct g mX11_search [.ref x, .int (nI k), .int (nI 0), .int (nI s)] B I J P (some (.int v), B, va_up (vz I x) (o + 4) (va_up (vz I x (o + 4)) 11 (nI s)), J, P) := by
  have ca := ca_t (g := g) (J := J) h
  obtain ⟨hV, hC, hxo, hx, h8, hk, hP⟩ := h
  refine ct_of (lv := [some (.ref x), some (.int (nI (k))), some (.int (nI (0))), some (.int (nI (s))), none, none, none]) (by decide +kernel) (Nat.le_of_ble_eq_true rfl) rfl ?_
  refine ev_aload_n 1 dX11_search_0 rfl rfl ?_
  refine ev_iconstN 2 0 dX11_search_1 rfl ?_
  refine ev_putI 5 mm_cl11 (j := 9) (Nat.le_of_ble_eq_true rfl) dX11_search_2 lk270 rfl (fun _ _ _ => rfl) rfl rfl (hV.1 0 _ rfl) rfl ?_
  refine ev_aload_n 6 dX11_search_5 rfl rfl ?_
  refine ev_iload_n 7 dX11_search_6 rfl rfl ?_
  refine ev_invV 10 (Mc := mX11_coderAt) ⟨lk570, lk75, hdX11_coderAt, (Nat.le_of_ble_eq_true rfl), (Nat.le_of_ble_eq_true rfl)⟩ lk567 lk569 lk1 mm_cl11 rfl dX11_search_7 (ca) rfl (hV.1 0 _ rfl) (Nat.le_of_ble_eq_true rfl) rfl rfl ?_
  refine ev_astore 12 (lv' := [_, _, _, some (.int _), _, _, _]) dX11_search_10 (Nat.le_of_ble_eq_true rfl) rfl rfl ?_
  refine ev_aload 14 dX11_search_12 rfl rfl ?_
  refine ev_ifnull_r 17 dX11_search_14 rfl ?_
  refine ev_iload_n 18 dX11_search_17 rfl rfl ?_
  refine ev_invS 21 (Mc := mX11_isBit) ⟨lk299, lk75, hdX11_isBit, (Nat.le_of_ble_eq_true rfl), (Nat.le_of_ble_eq_true rfl)⟩ lk297 lk298 dX11_search_18 (ct_isBit_t (by omega)) rfl (Nat.le_of_ble_eq_true rfl) rfl rfl ?_
  refine ev_if_eqN 24 31 dX11_search_21 (by decide) (by omega) rfl (fun hx => absurd hx ((by omega))) (fun hbr => ?_)
  refine ev_iload_n 25 dX11_search_24 rfl rfl ?_
  refine ev_invS 28 (Mc := mX11_isBit) ⟨lk299, lk75, hdX11_isBit, (Nat.le_of_ble_eq_true rfl), (Nat.le_of_ble_eq_true rfl)⟩ lk297 lk298 dX11_search_25 (ct_isBit_t hs) rfl (Nat.le_of_ble_eq_true rfl) rfl rfl ?_
  refine ev_if_neN 31 37 dX11_search_28 (by decide) (by omega) rfl (fun hbr => ?_) (fun hx => absurd hx ((by omega)))
  refine ev_aload 39 dX11_search_37 rfl rfl ?_
  refine ev_getP 42 mm_cl0 (j := 3) (Nat.le_of_ble_eq_true rfl) dX11_search_39 lk549 (fun _ _ _ => rfl) (hC.1 0 _ rfl) (a := (o + 4)) (hC.2.2.1 2 _ _ _ rfl) rfl ?_
  refine ev_astore 44 (lv' := [_, _, _, _, some (.ref _), _, _]) dX11_search_42 (Nat.le_of_ble_eq_true rfl) rfl rfl ?_
  refine ev_iload_n 45 dX11_search_44 rfl rfl ?_
  refine ev_if_neN 48 56 dX11_search_45 (by decide) (by omega) rfl (fun hx => absurd ((by omega)) hx) (fun hbr => ?_)
  refine ev_aload 50 dX11_search_48 rfl rfl ?_
  refine ev_getI 53 mm_cl2 (j := 11) (Nat.le_of_ble_eq_true rfl) dX11_search_50 lk384 (fun _ _ _ => rfl) (hC.1 4 _ rfl) rfl ?_
  refine ev_eqI (y := (v)) ((vzk hv (by omega))) ?_
  refine ev_goto 61 dX11_search_53 (by decide) ?_
  refine ev_istore 63 (lv' := [_, _, _, _, _, some (.ref _), _]) dX11_search_61 (Nat.le_of_ble_eq_true rfl) rfl rfl ?_
  refine ev_iload_n 64 dX11_search_63 rfl rfl ?_
  refine ev_if_neN 67 76 dX11_search_64 (by decide) (by omega) rfl (fun hx => absurd ((by omega)) hx) (fun hbr => ?_)
  refine ev_aload 69 dX11_search_67 rfl rfl ?_
  refine ev_iload_n 70 dX11_search_69 rfl rfl ?_
  refine ev_putI 73 mm_cl2 (j := 11) (Nat.le_of_ble_eq_true rfl) dX11_search_70 lk384 rfl (fun _ _ _ => rfl) rfl rfl (hC.1 4 _ rfl) rfl ?_
  refine ev_goto 82 dX11_search_73 (by decide) ?_
  refine ev_iload 84 dX11_search_82 rfl rfl ?_
  exact ev_iret dX11_search_84 rfl (rfl)
theorem cl_search_t1 {s : Nat} {v : Int32} (h : CA B I P x o n k) (hs : s ≤ 1) (hv : I (o + 4) 12 = v) : Ct g mX11_search [.ref x, .int (nI k), .int (nI 1), .int (nI s)] B I J P (some (.int v), B, va_up (vz I x) (o + 4) (va_up (vz I x (o + 4)) 12 (nI s)), J, P) := by
  have ca := ca_t (g := g) (J := J) h
  obtain ⟨hV, hC, hxo, hx, h8, hk, hP⟩ := h
  refine ct_of (lv := [some (.ref x), some (.int (nI (k))), some (.int (nI (1))), some (.int (nI (s))), none, none, none]) (by decide +kernel) (Nat.le_of_ble_eq_true rfl) rfl ?_
  refine ev_aload_n 1 dX11_search_0 rfl rfl ?_
  refine ev_iconstN 2 0 dX11_search_1 rfl ?_
  refine ev_putI 5 mm_cl11 (j := 9) (Nat.le_of_ble_eq_true rfl) dX11_search_2 lk270 rfl (fun _ _ _ => rfl) rfl rfl (hV.1 0 _ rfl) rfl ?_
  refine ev_aload_n 6 dX11_search_5 rfl rfl ?_
  refine ev_iload_n 7 dX11_search_6 rfl rfl ?_
  refine ev_invV 10 (Mc := mX11_coderAt) ⟨lk570, lk75, hdX11_coderAt, (Nat.le_of_ble_eq_true rfl), (Nat.le_of_ble_eq_true rfl)⟩ lk567 lk569 lk1 mm_cl11 rfl dX11_search_7 (ca) rfl (hV.1 0 _ rfl) (Nat.le_of_ble_eq_true rfl) rfl rfl ?_
  refine ev_astore 12 (lv' := [_, _, _, some (.int _), _, _, _]) dX11_search_10 (Nat.le_of_ble_eq_true rfl) rfl rfl ?_
  refine ev_aload 14 dX11_search_12 rfl rfl ?_
  refine ev_ifnull_r 17 dX11_search_14 rfl ?_
  refine ev_iload_n 18 dX11_search_17 rfl rfl ?_
  refine ev_invS 21 (Mc := mX11_isBit) ⟨lk299, lk75, hdX11_isBit, (Nat.le_of_ble_eq_true rfl), (Nat.le_of_ble_eq_true rfl)⟩ lk297 lk298 dX11_search_18 (ct_isBit_t (by omega)) rfl (Nat.le_of_ble_eq_true rfl) rfl rfl ?_
  refine ev_if_eqN 24 31 dX11_search_21 (by decide) (by omega) rfl (fun hx => absurd hx ((by omega))) (fun hbr => ?_)
  refine ev_iload_n 25 dX11_search_24 rfl rfl ?_
  refine ev_invS 28 (Mc := mX11_isBit) ⟨lk299, lk75, hdX11_isBit, (Nat.le_of_ble_eq_true rfl), (Nat.le_of_ble_eq_true rfl)⟩ lk297 lk298 dX11_search_25 (ct_isBit_t hs) rfl (Nat.le_of_ble_eq_true rfl) rfl rfl ?_
  refine ev_if_neN 31 37 dX11_search_28 (by decide) (by omega) rfl (fun hbr => ?_) (fun hx => absurd hx ((by omega)))
  refine ev_aload 39 dX11_search_37 rfl rfl ?_
  refine ev_getP 42 mm_cl0 (j := 3) (Nat.le_of_ble_eq_true rfl) dX11_search_39 lk549 (fun _ _ _ => rfl) (hC.1 0 _ rfl) (a := (o + 4)) (hC.2.2.1 2 _ _ _ rfl) rfl ?_
  refine ev_astore 44 (lv' := [_, _, _, _, some (.ref _), _, _]) dX11_search_42 (Nat.le_of_ble_eq_true rfl) rfl rfl ?_
  refine ev_iload_n 45 dX11_search_44 rfl rfl ?_
  refine ev_if_neN 48 56 dX11_search_45 (by decide) (by omega) rfl (fun hbr => ?_) (fun hx => absurd hx ((by omega)))
  refine ev_aload 58 dX11_search_56 rfl rfl ?_
  refine ev_getI 61 mm_cl2 (j := 12) (Nat.le_of_ble_eq_true rfl) dX11_search_58 lk386 (fun _ _ _ => rfl) (hC.1 4 _ rfl) rfl ?_
  refine ev_eqI (y := (v)) ((vzk hv (by omega))) ?_
  refine ev_istore 63 (lv' := [_, _, _, _, _, some (.ref _), _]) dX11_search_61 (Nat.le_of_ble_eq_true rfl) rfl rfl ?_
  refine ev_iload_n 64 dX11_search_63 rfl rfl ?_
  refine ev_if_neN 67 76 dX11_search_64 (by decide) (by omega) rfl (fun hbr => ?_) (fun hx => absurd hx ((by omega)))
  refine ev_aload 78 dX11_search_76 rfl rfl ?_
  refine ev_iload_n 79 dX11_search_78 rfl rfl ?_
  refine ev_putI 82 mm_cl2 (j := 12) (Nat.le_of_ble_eq_true rfl) dX11_search_79 lk386 rfl (fun _ _ _ => rfl) rfl rfl (hC.1 4 _ rfl) rfl ?_
  refine ev_iload 84 dX11_search_82 rfl rfl ?_
  exact ev_iret dX11_search_84 rfl (rfl)
theorem ml_search_f {c r s : Int32} (hM : lyM B P m) (hn : I m 0 = nI n) (hc : ¬ (0 ≤ c ∧ c < nI n)) : Ct g mX12_search [.ref m, .int c, .int r, .int s] B I J P (some (.int (-1)), B, mo_st I m (-1), J, P) := by
  refine ct_of (lv := [some (.ref m), some (.int (c)), some (.int (r)), some (.int (s)), none]) (by decide +kernel) (Nat.le_of_ble_eq_true rfl) rfl ?_
  refine ev_aload_n 1 dX12_search_0 rfl rfl ?_
  refine ev_iload_n 2 dX12_search_1 rfl rfl ?_
  refine ev_invV 5 (Mc := mX12_isCoder) ⟨lk1552, lk80, hdX12_isCoder, (Nat.le_of_ble_eq_true rfl), (Nat.le_of_ble_eq_true rfl)⟩ lk1549 lk1551 lk40 mm_cl12 rfl dX12_search_2 (ct_X12_isCoder_f hM (by rw [hn]; exact hc)) rfl (hM.1 0 _ rfl) (Nat.le_of_ble_eq_true rfl) rfl rfl ?_
  refine ev_if_eqN 8 26 dX12_search_5 (by decide) (by omega) rfl (fun hbr => ?_) (fun hx => absurd ((by omega)) hx)
  refine ev_aload_n 27 dX12_search_26 rfl rfl ?_
  refine ev_iconst 28 (v := -1) dX12_search_27 (by decide +kernel) rfl ?_
  refine ev_invV 31 (Mc := mX12_refused) ⟨lk1540, lk80, hdX12_refused, (Nat.le_of_ble_eq_true rfl), (Nat.le_of_ble_eq_true rfl)⟩ lk1537 lk1539 lk38 mm_cl12 rfl dX12_search_28 (ct_X12_refused hM) rfl (hM.1 0 _ rfl) (Nat.le_of_ble_eq_true rfl) rfl rfl ?_
  exact ev_iret dX12_search_31 rfl (rfl)
theorem ml_search_b {r s : Int32} (h : MA B I P m n k) (hr : ¬ (nI 0 ≤ r ∧ r ≤ nI 1)) : Ct g mX12_search [.ref m, .int (nI k), .int r, .int s] B I J P (some (.int (-1)), B, mo_st I m (-1), J, P) := by
  obtain ⟨hM, hn, h8, hk⟩ := h
  refine ct_of (lv := [some (.ref m), some (.int (nI (k))), some (.int (r)), some (.int (s)), none]) (by decide +kernel) (Nat.le_of_ble_eq_true rfl) rfl ?_
  refine ev_aload_n 1 dX12_search_0 rfl rfl ?_
  refine ev_iload_n 2 dX12_search_1 rfl rfl ?_
  refine ev_invV 5 (Mc := mX12_isCoder) ⟨lk1552, lk80, hdX12_isCoder, (Nat.le_of_ble_eq_true rfl), (Nat.le_of_ble_eq_true rfl)⟩ lk1549 lk1551 lk40 mm_cl12 rfl dX12_search_2 (ct_X12_isCoder_t hM hn h8 hk) rfl (hM.1 0 _ rfl) (Nat.le_of_ble_eq_true rfl) rfl rfl ?_
  refine ev_if_eqN 8 26 dX12_search_5 (by decide) (by omega) rfl (fun hx => absurd hx ((by omega))) (fun hbr => ?_)
  refine ev_iload_n 9 dX12_search_8 rfl rfl ?_
  refine ev_iconstN 10 0 dX12_search_9 rfl ?_
  refine ev_iconstN 11 1 dX12_search_10 rfl ?_
  refine ev_invS 14 (Mc := mX12_in) ⟨lk1536, lk80, hdX12_in, (Nat.le_of_ble_eq_true rfl), (Nat.le_of_ble_eq_true rfl)⟩ lk1534 lk1535 dX12_search_11 (ct_X12_in_f hr) rfl (Nat.le_of_ble_eq_true rfl) rfl rfl ?_
  refine ev_if_eqN 17 26 dX12_search_14 (by decide) (by omega) rfl (fun hbr => ?_) (fun hx => absurd ((by omega)) hx)
  refine ev_aload_n 27 dX12_search_26 rfl rfl ?_
  refine ev_iconst 28 (v := -1) dX12_search_27 (by decide +kernel) rfl ?_
  refine ev_invV 31 (Mc := mX12_refused) ⟨lk1540, lk80, hdX12_refused, (Nat.le_of_ble_eq_true rfl), (Nat.le_of_ble_eq_true rfl)⟩ lk1537 lk1539 lk38 mm_cl12 rfl dX12_search_28 (ct_X12_refused hM) rfl (hM.1 0 _ rfl) (Nat.le_of_ble_eq_true rfl) rfl rfl ?_
  exact ev_iret dX12_search_31 rfl (rfl)
theorem ml_search_b2 {r : Nat} {s : Int32} (h : MA B I P m n k) (hr : r ≤ 1) (hs : ¬ (nI 0 ≤ s ∧ s ≤ nI 1)) : Ct g mX12_search [.ref m, .int (nI k), .int (nI r), .int s] B I J P (some (.int (-1)), B, mo_st I m (-1), J, P) := by
  obtain ⟨hM, hn, h8, hk⟩ := h
  refine ct_of (lv := [some (.ref m), some (.int (nI (k))), some (.int (nI (r))), some (.int (s)), none]) (by decide +kernel) (Nat.le_of_ble_eq_true rfl) rfl ?_
  refine ev_aload_n 1 dX12_search_0 rfl rfl ?_
  refine ev_iload_n 2 dX12_search_1 rfl rfl ?_
  refine ev_invV 5 (Mc := mX12_isCoder) ⟨lk1552, lk80, hdX12_isCoder, (Nat.le_of_ble_eq_true rfl), (Nat.le_of_ble_eq_true rfl)⟩ lk1549 lk1551 lk40 mm_cl12 rfl dX12_search_2 (ct_X12_isCoder_t hM hn h8 hk) rfl (hM.1 0 _ rfl) (Nat.le_of_ble_eq_true rfl) rfl rfl ?_
  refine ev_if_eqN 8 26 dX12_search_5 (by decide) (by omega) rfl (fun hx => absurd hx ((by omega))) (fun hbr => ?_)
  refine ev_iload_n 9 dX12_search_8 rfl rfl ?_
  refine ev_iconstN 10 0 dX12_search_9 rfl ?_
  refine ev_iconstN 11 1 dX12_search_10 rfl ?_
  refine ev_invS 14 (Mc := mX12_in) ⟨lk1536, lk80, hdX12_in, (Nat.le_of_ble_eq_true rfl), (Nat.le_of_ble_eq_true rfl)⟩ lk1534 lk1535 dX12_search_11 (ct_X12_in_t (in_t (by omega) hr (by omega))) rfl (Nat.le_of_ble_eq_true rfl) rfl rfl ?_
  refine ev_if_eqN 17 26 dX12_search_14 (by decide) (by omega) rfl (fun hx => absurd hx ((by omega))) (fun hbr => ?_)
  refine ev_iload_n 18 dX12_search_17 rfl rfl ?_
  refine ev_iconstN 19 0 dX12_search_18 rfl ?_
  refine ev_iconstN 20 1 dX12_search_19 rfl ?_
  refine ev_invS 23 (Mc := mX12_in) ⟨lk1536, lk80, hdX12_in, (Nat.le_of_ble_eq_true rfl), (Nat.le_of_ble_eq_true rfl)⟩ lk1534 lk1535 dX12_search_20 (ct_X12_in_f hs) rfl (Nat.le_of_ble_eq_true rfl) rfl rfl ?_
  refine ev_if_neN 26 32 dX12_search_23 (by decide) (by omega) rfl (fun hx => absurd ((by omega)) hx) (fun hbr => ?_)
  refine ev_aload_n 27 dX12_search_26 rfl rfl ?_
  refine ev_iconst 28 (v := -1) dX12_search_27 (by decide +kernel) rfl ?_
  refine ev_invV 31 (Mc := mX12_refused) ⟨lk1540, lk80, hdX12_refused, (Nat.le_of_ble_eq_true rfl), (Nat.le_of_ble_eq_true rfl)⟩ lk1537 lk1539 lk38 mm_cl12 rfl dX12_search_28 (ct_X12_refused hM) rfl (hM.1 0 _ rfl) (Nat.le_of_ble_eq_true rfl) rfl rfl ?_
  exact ev_iret dX12_search_31 rfl (rfl)
theorem ml_search_t {r s : Nat} {v : Int32} (h : MA B I P m n k) (hr : r ≤ 1) (hs : s ≤ 1) (hv : I (m + 7) (2 * k + r) = v) : Ct g mX12_search [.ref m, .int (nI k), .int (nI r), .int (nI s)] B I J P (some (.int v), B, mo_st (va_up I (m + 7) (va_up (I (m + 7)) (2 * k + r) (nI s))) m (nI 0), J, P) := by
  obtain ⟨hM, hn, h8, hk⟩ := h
  refine ct_of (lv := [some (.ref m), some (.int (nI (k))), some (.int (nI (r))), some (.int (nI (s))), none]) (by decide +kernel) (Nat.le_of_ble_eq_true rfl) rfl ?_
  refine ev_aload_n 1 dX12_search_0 rfl rfl ?_
  refine ev_iload_n 2 dX12_search_1 rfl rfl ?_
  refine ev_invV 5 (Mc := mX12_isCoder) ⟨lk1552, lk80, hdX12_isCoder, (Nat.le_of_ble_eq_true rfl), (Nat.le_of_ble_eq_true rfl)⟩ lk1549 lk1551 lk40 mm_cl12 rfl dX12_search_2 (ct_X12_isCoder_t hM hn h8 hk) rfl (hM.1 0 _ rfl) (Nat.le_of_ble_eq_true rfl) rfl rfl ?_
  refine ev_if_eqN 8 26 dX12_search_5 (by decide) (by omega) rfl (fun hx => absurd hx ((by omega))) (fun hbr => ?_)
  refine ev_iload_n 9 dX12_search_8 rfl rfl ?_
  refine ev_iconstN 10 0 dX12_search_9 rfl ?_
  refine ev_iconstN 11 1 dX12_search_10 rfl ?_
  refine ev_invS 14 (Mc := mX12_in) ⟨lk1536, lk80, hdX12_in, (Nat.le_of_ble_eq_true rfl), (Nat.le_of_ble_eq_true rfl)⟩ lk1534 lk1535 dX12_search_11 (ct_X12_in_t (in_t (by omega) hr (by omega))) rfl (Nat.le_of_ble_eq_true rfl) rfl rfl ?_
  refine ev_if_eqN 17 26 dX12_search_14 (by decide) (by omega) rfl (fun hx => absurd hx ((by omega))) (fun hbr => ?_)
  refine ev_iload_n 18 dX12_search_17 rfl rfl ?_
  refine ev_iconstN 19 0 dX12_search_18 rfl ?_
  refine ev_iconstN 20 1 dX12_search_19 rfl ?_
  refine ev_invS 23 (Mc := mX12_in) ⟨lk1536, lk80, hdX12_in, (Nat.le_of_ble_eq_true rfl), (Nat.le_of_ble_eq_true rfl)⟩ lk1534 lk1535 dX12_search_20 (ct_X12_in_t (in_t (by omega) hs (by omega))) rfl (Nat.le_of_ble_eq_true rfl) rfl rfl ?_
  refine ev_if_neN 26 32 dX12_search_23 (by decide) (by omega) rfl (fun hbr => ?_) (fun hx => absurd hx ((by omega)))
  refine ev_aload_n 33 dX12_search_32 rfl rfl ?_
  refine ev_getP 36 mm_cl12 (j := 12) (Nat.le_of_ble_eq_true rfl) dX12_search_33 lk1297 (fun _ _ _ => rfl) (hM.1 0 _ rfl) (a := (m + 7)) (hM.2.2 6 _ _ _ rfl) rfl ?_
  refine ev_iconstN 37 2 dX12_search_36 rfl ?_
  refine ev_iload_n 38 dX12_search_37 rfl rfl ?_
  refine ev_imulN 39 dX12_search_38 rfl ?_
  refine ev_iload_n 40 dX12_search_39 rfl rfl ?_
  refine ev_iaddN 41 dX12_search_40 rfl ?_
  refine ev_iald 42 _ dX12_search_41 (hM.1 7 _ rfl) rfl (by have hNN := hM.2.1 7 _ rfl; omega) rfl ?_
  refine ev_eqI (y := (v)) (hv) ?_
  refine ev_istore 44 (lv' := [_, _, _, some (.int _), _]) dX12_search_42 (Nat.le_of_ble_eq_true rfl) rfl rfl ?_
  refine ev_aload_n 45 dX12_search_44 rfl rfl ?_
  refine ev_getP 48 mm_cl12 (j := 12) (Nat.le_of_ble_eq_true rfl) dX12_search_45 lk1297 (fun _ _ _ => rfl) (hM.1 0 _ rfl) (a := (m + 7)) (hM.2.2 6 _ _ _ rfl) rfl ?_
  refine ev_iconstN 49 2 dX12_search_48 rfl ?_
  refine ev_iload_n 50 dX12_search_49 rfl rfl ?_
  refine ev_imulN 51 dX12_search_50 rfl ?_
  refine ev_iload_n 52 dX12_search_51 rfl rfl ?_
  refine ev_iaddN 53 dX12_search_52 rfl ?_
  refine ev_iload_n 54 dX12_search_53 rfl rfl ?_
  refine ev_iast 55 _ dX12_search_54 (hM.1 7 _ rfl) rfl (by have hNN := hM.2.1 7 _ rfl; omega) rfl ?_
  refine ev_aload_n 56 dX12_search_55 rfl rfl ?_
  refine ev_iload 58 dX12_search_56 rfl rfl ?_
  refine ev_invV 61 (Mc := mX12_done) ⟨lk1544, lk80, hdX12_done, (Nat.le_of_ble_eq_true rfl), (Nat.le_of_ble_eq_true rfl)⟩ lk1541 lk1543 lk39 mm_cl12 rfl dX12_search_58 (ct_X12_done hM) rfl (hM.1 0 _ rfl) (Nat.le_of_ble_eq_true rfl) rfl rfl ?_
  exact ev_iret dX12_search_61 rfl (rfl)
theorem cl_silence_f {c r : Int32} (hV : lyV B P x) (hx : I x 4 = nI n) (hc : ¬ (0 ≤ c ∧ c < nI n)) : Ct g mX11_silence [.ref x, .int c, .int r] B I J P (some (.int (-1)), B, vst I x (-1), J, P) := by
  refine ct_of (lv := [some (.ref x), some (.int (c)), some (.int (r)), none, none]) (by decide +kernel) (Nat.le_of_ble_eq_true rfl) rfl ?_
  refine ev_aload_n 1 dX11_silence_0 rfl rfl ?_
  refine ev_iconstN 2 0 dX11_silence_1 rfl ?_
  refine ev_putI 5 mm_cl11 (j := 9) (Nat.le_of_ble_eq_true rfl) dX11_silence_2 lk270 rfl (fun _ _ _ => rfl) rfl rfl (hV.1 0 _ rfl) rfl ?_
  refine ev_aload_n 6 dX11_silence_5 rfl rfl ?_
  refine ev_iload_n 7 dX11_silence_6 rfl rfl ?_
  refine ev_invV 10 (Mc := mX11_coderAt) ⟨lk570, lk75, hdX11_coderAt, (Nat.le_of_ble_eq_true rfl), (Nat.le_of_ble_eq_true rfl)⟩ lk567 lk569 lk1 mm_cl11 rfl dX11_silence_7 (ca_f hV hx hc) rfl (hV.1 0 _ rfl) (Nat.le_of_ble_eq_true rfl) rfl rfl ?_
  refine ev_astore_nN 11 (lv' := [_, _, some (.int _), _, _]) dX11_silence_10 (Nat.le_of_ble_eq_true rfl) rfl rfl ?_
  refine ev_aload_nN 12 dX11_silence_11 rfl rfl ?_
  refine ev_ifnull_n 25 dX11_silence_12 (by decide) ?_
  refine ev_aload_n 26 dX11_silence_25 rfl rfl ?_
  refine ev_iconst 27 (v := -1) dX11_silence_26 (by decide +kernel) rfl ?_
  refine ev_invV 30 (Mc := mX11_refuse) ⟨lk303, lk75, hdX11_refuse, (Nat.le_of_ble_eq_true rfl), (Nat.le_of_ble_eq_true rfl)⟩ lk300 lk302 lk0 mm_cl11 rfl dX11_silence_27 (ct_refuse hV) rfl (hV.1 0 _ rfl) (Nat.le_of_ble_eq_true rfl) rfl rfl ?_
  exact ev_iret dX11_silence_30 rfl (rfl)
theorem cl_silence_b {r : Int32} (h : CA B I P x o n k) (hr : ¬ (nI 0 ≤ r ∧ r ≤ nI 32769)) : Ct g mX11_silence [.ref x, .int (nI k), .int r] B I J P (some (.int (-1)), B, vst I x (-1), J, P) := by
  have ca := ca_t (g := g) (J := J) h
  obtain ⟨hV, hC, hxo, hx, h8, hk, hP⟩ := h
  refine ct_of (lv := [some (.ref x), some (.int (nI (k))), some (.int (r)), none, none]) (by decide +kernel) (Nat.le_of_ble_eq_true rfl) rfl ?_
  refine ev_aload_n 1 dX11_silence_0 rfl rfl ?_
  refine ev_iconstN 2 0 dX11_silence_1 rfl ?_
  refine ev_putI 5 mm_cl11 (j := 9) (Nat.le_of_ble_eq_true rfl) dX11_silence_2 lk270 rfl (fun _ _ _ => rfl) rfl rfl (hV.1 0 _ rfl) rfl ?_
  refine ev_aload_n 6 dX11_silence_5 rfl rfl ?_
  refine ev_iload_n 7 dX11_silence_6 rfl rfl ?_
  refine ev_invV 10 (Mc := mX11_coderAt) ⟨lk570, lk75, hdX11_coderAt, (Nat.le_of_ble_eq_true rfl), (Nat.le_of_ble_eq_true rfl)⟩ lk567 lk569 lk1 mm_cl11 rfl dX11_silence_7 (ca) rfl (hV.1 0 _ rfl) (Nat.le_of_ble_eq_true rfl) rfl rfl ?_
  refine ev_astore_n 11 (lv' := [_, _, some (.int _), _, _]) dX11_silence_10 (Nat.le_of_ble_eq_true rfl) rfl rfl ?_
  refine ev_aload_n 12 dX11_silence_11 rfl rfl ?_
  refine ev_ifnull_r 15 dX11_silence_12 rfl ?_
  refine ev_iload_n 16 dX11_silence_15 rfl rfl ?_
  refine ev_if_lt 19 25 dX11_silence_16 (by decide) rfl (fun h1 => ?_) (fun h1 => ?_)
  · refine ev_aload_n 26 dX11_silence_25 rfl rfl ?_
    refine ev_iconst 27 (v := -1) dX11_silence_26 (by decide +kernel) rfl ?_
    refine ev_invV 30 (Mc := mX11_refuse) ⟨lk303, lk75, hdX11_refuse, (Nat.le_of_ble_eq_true rfl), (Nat.le_of_ble_eq_true rfl)⟩ lk300 lk302 lk0 mm_cl11 rfl dX11_silence_27 (ct_refuse hV) rfl (hV.1 0 _ rfl) (Nat.le_of_ble_eq_true rfl) rfl rfl ?_
    exact ev_iret dX11_silence_30 rfl (rfl)
  · refine ev_iload_n 20 dX11_silence_19 rfl rfl ?_
    refine ev_ldc 22 dX11_silence_20 lk586 rfl ?_
    refine ev_eqI (y := nI 32769) (by decide +kernel) ?_
    refine ev_icmp_le 25 31 dX11_silence_22 (by decide) rfl (fun hx => absurd hx ((fun h2 => hr ⟨Int32.not_lt.mp h1, h2⟩))) (fun hbr => ?_)
    refine ev_aload_n 26 dX11_silence_25 rfl rfl ?_
    refine ev_iconst 27 (v := -1) dX11_silence_26 (by decide +kernel) rfl ?_
    refine ev_invV 30 (Mc := mX11_refuse) ⟨lk303, lk75, hdX11_refuse, (Nat.le_of_ble_eq_true rfl), (Nat.le_of_ble_eq_true rfl)⟩ lk300 lk302 lk0 mm_cl11 rfl dX11_silence_27 (ct_refuse hV) rfl (hV.1 0 _ rfl) (Nat.le_of_ble_eq_true rfl) rfl rfl ?_
    exact ev_iret dX11_silence_30 rfl (rfl)
theorem cl_silence_t {r : Nat} {v : Int32} (h : CA B I P x o n k) (hr : r ≤ 32769) (hv : I (o + 4) 15 = v) : Ct g mX11_silence [.ref x, .int (nI k), .int (nI r)] B I J P (some (.int v), B, va_up (vz I x) (o + 4) (va_up (vz I x (o + 4)) 15 (nI r)), J, P) := by
  have ca := ca_t (g := g) (J := J) h
  obtain ⟨hV, hC, hxo, hx, h8, hk, hP⟩ := h
  refine ct_of (lv := [some (.ref x), some (.int (nI (k))), some (.int (nI (r))), none, none]) (by decide +kernel) (Nat.le_of_ble_eq_true rfl) rfl ?_
  refine ev_aload_n 1 dX11_silence_0 rfl rfl ?_
  refine ev_iconstN 2 0 dX11_silence_1 rfl ?_
  refine ev_putI 5 mm_cl11 (j := 9) (Nat.le_of_ble_eq_true rfl) dX11_silence_2 lk270 rfl (fun _ _ _ => rfl) rfl rfl (hV.1 0 _ rfl) rfl ?_
  refine ev_aload_n 6 dX11_silence_5 rfl rfl ?_
  refine ev_iload_n 7 dX11_silence_6 rfl rfl ?_
  refine ev_invV 10 (Mc := mX11_coderAt) ⟨lk570, lk75, hdX11_coderAt, (Nat.le_of_ble_eq_true rfl), (Nat.le_of_ble_eq_true rfl)⟩ lk567 lk569 lk1 mm_cl11 rfl dX11_silence_7 (ca) rfl (hV.1 0 _ rfl) (Nat.le_of_ble_eq_true rfl) rfl rfl ?_
  refine ev_astore_n 11 (lv' := [_, _, some (.int _), _, _]) dX11_silence_10 (Nat.le_of_ble_eq_true rfl) rfl rfl ?_
  refine ev_aload_n 12 dX11_silence_11 rfl rfl ?_
  refine ev_ifnull_r 15 dX11_silence_12 rfl ?_
  refine ev_iload_n 16 dX11_silence_15 rfl rfl ?_
  refine ev_if_ltN 19 25 dX11_silence_16 (by decide) (by omega) rfl (fun hx => absurd hx (not_false)) (fun hbr => ?_)
  refine ev_iload_n 20 dX11_silence_19 rfl rfl ?_
  refine ev_ldc 22 dX11_silence_20 lk586 rfl ?_
  refine ev_eqI (y := nI 32769) (by decide +kernel) ?_
  refine ev_icmp_leN 25 31 dX11_silence_22 (by decide) (by omega) (by omega) rfl (fun hbr => ?_) (fun hx => absurd ((by omega)) hx)
  refine ev_aload_n 32 dX11_silence_31 rfl rfl ?_
  refine ev_getP 35 mm_cl0 (j := 3) (Nat.le_of_ble_eq_true rfl) dX11_silence_32 lk549 (fun _ _ _ => rfl) (hC.1 0 _ rfl) (a := (o + 4)) (hC.2.2.1 2 _ _ _ rfl) rfl ?_
  refine ev_getI 38 mm_cl2 (j := 15) (Nat.le_of_ble_eq_true rfl) dX11_silence_35 lk393 (fun _ _ _ => rfl) (hC.1 4 _ rfl) rfl ?_
  refine ev_eqI (y := (v)) ((vzk hv (by omega))) ?_
  refine ev_istore 40 (lv' := [_, _, _, some (.ref _), _]) dX11_silence_38 (Nat.le_of_ble_eq_true rfl) rfl rfl ?_
  refine ev_aload_n 41 dX11_silence_40 rfl rfl ?_
  refine ev_getP 44 mm_cl0 (j := 3) (Nat.le_of_ble_eq_true rfl) dX11_silence_41 lk549 (fun _ _ _ => rfl) (hC.1 0 _ rfl) (a := (o + 4)) (hC.2.2.1 2 _ _ _ rfl) rfl ?_
  refine ev_iload_n 45 dX11_silence_44 rfl rfl ?_
  refine ev_putI 48 mm_cl2 (j := 15) (Nat.le_of_ble_eq_true rfl) dX11_silence_45 lk393 rfl (fun _ _ _ => rfl) rfl rfl (hC.1 4 _ rfl) rfl ?_
  refine ev_iload 50 dX11_silence_48 rfl rfl ?_
  exact ev_iret dX11_silence_50 rfl (rfl)
theorem ml_silence_f {c r : Int32} (hM : lyM B P m) (hn : I m 0 = nI n) (hc : ¬ (0 ≤ c ∧ c < nI n)) : Ct g mX12_silence [.ref m, .int c, .int r] B I J P (some (.int (-1)), B, mo_st I m (-1), J, P) := by
  refine ct_of (lv := [some (.ref m), some (.int (c)), some (.int (r)), none]) (by decide +kernel) (Nat.le_of_ble_eq_true rfl) rfl ?_
  refine ev_aload_n 1 dX12_silence_0 rfl rfl ?_
  refine ev_iload_n 2 dX12_silence_1 rfl rfl ?_
  refine ev_invV 5 (Mc := mX12_isCoder) ⟨lk1552, lk80, hdX12_isCoder, (Nat.le_of_ble_eq_true rfl), (Nat.le_of_ble_eq_true rfl)⟩ lk1549 lk1551 lk40 mm_cl12 rfl dX12_silence_2 (ct_X12_isCoder_f hM (by rw [hn]; exact hc)) rfl (hM.1 0 _ rfl) (Nat.le_of_ble_eq_true rfl) rfl rfl ?_
  refine ev_if_eqN 8 18 dX12_silence_5 (by decide) (by omega) rfl (fun hbr => ?_) (fun hx => absurd ((by omega)) hx)
  refine ev_aload_n 19 dX12_silence_18 rfl rfl ?_
  refine ev_iconst 20 (v := -1) dX12_silence_19 (by decide +kernel) rfl ?_
  refine ev_invV 23 (Mc := mX12_refused) ⟨lk1540, lk80, hdX12_refused, (Nat.le_of_ble_eq_true rfl), (Nat.le_of_ble_eq_true rfl)⟩ lk1537 lk1539 lk38 mm_cl12 rfl dX12_silence_20 (ct_X12_refused hM) rfl (hM.1 0 _ rfl) (Nat.le_of_ble_eq_true rfl) rfl rfl ?_
  exact ev_iret dX12_silence_23 rfl (rfl)
theorem ml_silence_b {r : Int32} (h : MA B I P m n k) (hr : ¬ (nI 0 ≤ r ∧ r ≤ nI 32769)) : Ct g mX12_silence [.ref m, .int (nI k), .int r] B I J P (some (.int (-1)), B, mo_st I m (-1), J, P) := by
  obtain ⟨hM, hn, h8, hk⟩ := h
  refine ct_of (lv := [some (.ref m), some (.int (nI (k))), some (.int (r)), none]) (by decide +kernel) (Nat.le_of_ble_eq_true rfl) rfl ?_
  refine ev_aload_n 1 dX12_silence_0 rfl rfl ?_
  refine ev_iload_n 2 dX12_silence_1 rfl rfl ?_
  refine ev_invV 5 (Mc := mX12_isCoder) ⟨lk1552, lk80, hdX12_isCoder, (Nat.le_of_ble_eq_true rfl), (Nat.le_of_ble_eq_true rfl)⟩ lk1549 lk1551 lk40 mm_cl12 rfl dX12_silence_2 (ct_X12_isCoder_t hM hn h8 hk) rfl (hM.1 0 _ rfl) (Nat.le_of_ble_eq_true rfl) rfl rfl ?_
  refine ev_if_eqN 8 18 dX12_silence_5 (by decide) (by omega) rfl (fun hx => absurd hx ((by omega))) (fun hbr => ?_)
  refine ev_iload_n 9 dX12_silence_8 rfl rfl ?_
  refine ev_iconstN 10 0 dX12_silence_9 rfl ?_
  refine ev_ldc 12 dX12_silence_10 lk1565 rfl ?_
  refine ev_eqI (y := nI 32769) (by decide +kernel) ?_
  refine ev_invS 15 (Mc := mX12_in) ⟨lk1536, lk80, hdX12_in, (Nat.le_of_ble_eq_true rfl), (Nat.le_of_ble_eq_true rfl)⟩ lk1534 lk1535 dX12_silence_12 (ct_X12_in_f hr) rfl (Nat.le_of_ble_eq_true rfl) rfl rfl ?_
  refine ev_if_neN 18 24 dX12_silence_15 (by decide) (by omega) rfl (fun hx => absurd ((by omega)) hx) (fun hbr => ?_)
  refine ev_aload_n 19 dX12_silence_18 rfl rfl ?_
  refine ev_iconst 20 (v := -1) dX12_silence_19 (by decide +kernel) rfl ?_
  refine ev_invV 23 (Mc := mX12_refused) ⟨lk1540, lk80, hdX12_refused, (Nat.le_of_ble_eq_true rfl), (Nat.le_of_ble_eq_true rfl)⟩ lk1537 lk1539 lk38 mm_cl12 rfl dX12_silence_20 (ct_X12_refused hM) rfl (hM.1 0 _ rfl) (Nat.le_of_ble_eq_true rfl) rfl rfl ?_
  exact ev_iret dX12_silence_23 rfl (rfl)
theorem ml_silence_t {r : Nat} {v : Int32} (h : MA B I P m n k) (hr : r ≤ 32769) (hv : I (m + 8) k = v) : Ct g mX12_silence [.ref m, .int (nI k), .int (nI r)] B I J P (some (.int v), B, mo_st (va_up I (m + 8) (va_up (I (m + 8)) k (nI r))) m (nI 0), J, P) := by
  obtain ⟨hM, hn, h8, hk⟩ := h
  refine ct_of (lv := [some (.ref m), some (.int (nI (k))), some (.int (nI (r))), none]) (by decide +kernel) (Nat.le_of_ble_eq_true rfl) rfl ?_
  refine ev_aload_n 1 dX12_silence_0 rfl rfl ?_
  refine ev_iload_n 2 dX12_silence_1 rfl rfl ?_
  refine ev_invV 5 (Mc := mX12_isCoder) ⟨lk1552, lk80, hdX12_isCoder, (Nat.le_of_ble_eq_true rfl), (Nat.le_of_ble_eq_true rfl)⟩ lk1549 lk1551 lk40 mm_cl12 rfl dX12_silence_2 (ct_X12_isCoder_t hM hn h8 hk) rfl (hM.1 0 _ rfl) (Nat.le_of_ble_eq_true rfl) rfl rfl ?_
  refine ev_if_eqN 8 18 dX12_silence_5 (by decide) (by omega) rfl (fun hx => absurd hx ((by omega))) (fun hbr => ?_)
  refine ev_iload_n 9 dX12_silence_8 rfl rfl ?_
  refine ev_iconstN 10 0 dX12_silence_9 rfl ?_
  refine ev_ldc 12 dX12_silence_10 lk1565 rfl ?_
  refine ev_eqI (y := nI 32769) (by decide +kernel) ?_
  refine ev_invS 15 (Mc := mX12_in) ⟨lk1536, lk80, hdX12_in, (Nat.le_of_ble_eq_true rfl), (Nat.le_of_ble_eq_true rfl)⟩ lk1534 lk1535 dX12_silence_12 (ct_X12_in_t (in_t (by omega) hr (by omega))) rfl (Nat.le_of_ble_eq_true rfl) rfl rfl ?_
  refine ev_if_neN 18 24 dX12_silence_15 (by decide) (by omega) rfl (fun hbr => ?_) (fun hx => absurd hx ((by omega)))
  refine ev_aload_n 25 dX12_silence_24 rfl rfl ?_
  refine ev_getP 28 mm_cl12 (j := 13) (Nat.le_of_ble_eq_true rfl) dX12_silence_25 lk1298 (fun _ _ _ => rfl) (hM.1 0 _ rfl) (a := (m + 8)) (hM.2.2 7 _ _ _ rfl) rfl ?_
  refine ev_iload_n 29 dX12_silence_28 rfl rfl ?_
  refine ev_iald 30 _ dX12_silence_29 (hM.1 8 _ rfl) rfl (by have hNN := hM.2.1 8 _ rfl; omega) rfl ?_
  refine ev_eqI (y := (v)) (hv) ?_
  refine ev_istore_n 31 (lv' := [_, _, some (.int _), _]) dX12_silence_30 (Nat.le_of_ble_eq_true rfl) rfl rfl ?_
  refine ev_aload_n 32 dX12_silence_31 rfl rfl ?_
  refine ev_getP 35 mm_cl12 (j := 13) (Nat.le_of_ble_eq_true rfl) dX12_silence_32 lk1298 (fun _ _ _ => rfl) (hM.1 0 _ rfl) (a := (m + 8)) (hM.2.2 7 _ _ _ rfl) rfl ?_
  refine ev_iload_n 36 dX12_silence_35 rfl rfl ?_
  refine ev_iload_n 37 dX12_silence_36 rfl rfl ?_
  refine ev_iast 38 _ dX12_silence_37 (hM.1 8 _ rfl) rfl (by have hNN := hM.2.1 8 _ rfl; omega) rfl ?_
  refine ev_aload_n 39 dX12_silence_38 rfl rfl ?_
  refine ev_iload_n 40 dX12_silence_39 rfl rfl ?_
  refine ev_invV 43 (Mc := mX12_done) ⟨lk1544, lk80, hdX12_done, (Nat.le_of_ble_eq_true rfl), (Nat.le_of_ble_eq_true rfl)⟩ lk1541 lk1543 lk39 mm_cl12 rfl dX12_silence_40 (ct_X12_done hM) rfl (hM.1 0 _ rfl) (Nat.le_of_ble_eq_true rfl) rfl rfl ?_
  exact ev_iret dX12_silence_43 rfl (rfl)
theorem cl_join_f {c r : Int32} (hV : lyV B P x) (hx : I x 4 = nI n) (hc : ¬ (0 ≤ c ∧ c < nI n)) : Ct g mX11_join [.ref x, .int c, .int r] B I J P (some (.int (-1)), B, vst I x (-1), J, P) := by
  refine ct_of (lv := [some (.ref x), some (.int (c)), some (.int (r)), none, none]) (by decide +kernel) (Nat.le_of_ble_eq_true rfl) rfl ?_
  refine ev_aload_n 1 dX11_join_0 rfl rfl ?_
  refine ev_iconstN 2 0 dX11_join_1 rfl ?_
  refine ev_putI 5 mm_cl11 (j := 9) (Nat.le_of_ble_eq_true rfl) dX11_join_2 lk270 rfl (fun _ _ _ => rfl) rfl rfl (hV.1 0 _ rfl) rfl ?_
  refine ev_aload_n 6 dX11_join_5 rfl rfl ?_
  refine ev_iload_n 7 dX11_join_6 rfl rfl ?_
  refine ev_invV 10 (Mc := mX11_coderAt) ⟨lk570, lk75, hdX11_coderAt, (Nat.le_of_ble_eq_true rfl), (Nat.le_of_ble_eq_true rfl)⟩ lk567 lk569 lk1 mm_cl11 rfl dX11_join_7 (ca_f hV hx hc) rfl (hV.1 0 _ rfl) (Nat.le_of_ble_eq_true rfl) rfl rfl ?_
  refine ev_astore_nN 11 (lv' := [_, _, some (.int _), _, _]) dX11_join_10 (Nat.le_of_ble_eq_true rfl) rfl rfl ?_
  refine ev_aload_nN 12 dX11_join_11 rfl rfl ?_
  refine ev_ifnull_n 27 dX11_join_12 (by decide) ?_
  refine ev_aload_n 28 dX11_join_27 rfl rfl ?_
  refine ev_iconst 29 (v := -1) dX11_join_28 (by decide +kernel) rfl ?_
  refine ev_invV 32 (Mc := mX11_refuse) ⟨lk303, lk75, hdX11_refuse, (Nat.le_of_ble_eq_true rfl), (Nat.le_of_ble_eq_true rfl)⟩ lk300 lk302 lk0 mm_cl11 rfl dX11_join_29 (ct_refuse hV) rfl (hV.1 0 _ rfl) (Nat.le_of_ble_eq_true rfl) rfl rfl ?_
  exact ev_iret dX11_join_32 rfl (rfl)
theorem cl_join_b {r : Int32} (h : CA B I P x o n k) (hr : ¬ (nI 1 ≤ r ∧ r ≤ nI 32767)) : Ct g mX11_join [.ref x, .int (nI k), .int r] B I J P (some (.int (-1)), B, vst I x (-1), J, P) := by
  have ca := ca_t (g := g) (J := J) h
  obtain ⟨hV, hC, hxo, hx, h8, hk, hP⟩ := h
  refine ct_of (lv := [some (.ref x), some (.int (nI (k))), some (.int (r)), none, none]) (by decide +kernel) (Nat.le_of_ble_eq_true rfl) rfl ?_
  refine ev_aload_n 1 dX11_join_0 rfl rfl ?_
  refine ev_iconstN 2 0 dX11_join_1 rfl ?_
  refine ev_putI 5 mm_cl11 (j := 9) (Nat.le_of_ble_eq_true rfl) dX11_join_2 lk270 rfl (fun _ _ _ => rfl) rfl rfl (hV.1 0 _ rfl) rfl ?_
  refine ev_aload_n 6 dX11_join_5 rfl rfl ?_
  refine ev_iload_n 7 dX11_join_6 rfl rfl ?_
  refine ev_invV 10 (Mc := mX11_coderAt) ⟨lk570, lk75, hdX11_coderAt, (Nat.le_of_ble_eq_true rfl), (Nat.le_of_ble_eq_true rfl)⟩ lk567 lk569 lk1 mm_cl11 rfl dX11_join_7 (ca) rfl (hV.1 0 _ rfl) (Nat.le_of_ble_eq_true rfl) rfl rfl ?_
  refine ev_astore_n 11 (lv' := [_, _, some (.int _), _, _]) dX11_join_10 (Nat.le_of_ble_eq_true rfl) rfl rfl ?_
  refine ev_aload_n 12 dX11_join_11 rfl rfl ?_
  refine ev_ifnull_r 15 dX11_join_12 rfl ?_
  refine ev_iload_n 16 dX11_join_15 rfl rfl ?_
  refine ev_iconstN 17 1 dX11_join_16 rfl ?_
  refine ev_icmp_lt 20 27 dX11_join_17 (by decide) rfl (fun h1 => ?_) (fun h1 => ?_)
  · refine ev_aload_n 28 dX11_join_27 rfl rfl ?_
    refine ev_iconst 29 (v := -1) dX11_join_28 (by decide +kernel) rfl ?_
    refine ev_invV 32 (Mc := mX11_refuse) ⟨lk303, lk75, hdX11_refuse, (Nat.le_of_ble_eq_true rfl), (Nat.le_of_ble_eq_true rfl)⟩ lk300 lk302 lk0 mm_cl11 rfl dX11_join_29 (ct_refuse hV) rfl (hV.1 0 _ rfl) (Nat.le_of_ble_eq_true rfl) rfl rfl ?_
    exact ev_iret dX11_join_32 rfl (rfl)
  · refine ev_iload_n 21 dX11_join_20 rfl rfl ?_
    refine ev_sipushN 24 32767 dX11_join_21 (by decide +kernel) rfl ?_
    refine ev_icmp_le 27 33 dX11_join_24 (by decide) rfl (fun hx => absurd hx ((fun h2 => hr ⟨Int32.not_lt.mp h1, h2⟩))) (fun hbr => ?_)
    refine ev_aload_n 28 dX11_join_27 rfl rfl ?_
    refine ev_iconst 29 (v := -1) dX11_join_28 (by decide +kernel) rfl ?_
    refine ev_invV 32 (Mc := mX11_refuse) ⟨lk303, lk75, hdX11_refuse, (Nat.le_of_ble_eq_true rfl), (Nat.le_of_ble_eq_true rfl)⟩ lk300 lk302 lk0 mm_cl11 rfl dX11_join_29 (ct_refuse hV) rfl (hV.1 0 _ rfl) (Nat.le_of_ble_eq_true rfl) rfl rfl ?_
    exact ev_iret dX11_join_32 rfl (rfl)
theorem cl_join_t {r : Nat} {v : Int32} (h : CA B I P x o n k) (h1 : 1 ≤ r) (hr : r ≤ 32767) (hv : I (o + 17) 10 = v) : Ct g mX11_join [.ref x, .int (nI k), .int (nI r)] B I J P (some (.int v), B, va_up (vz I x) (o + 17) (va_up (vz I x (o + 17)) 10 (nI r)), J, P) := by
  have ca := ca_t (g := g) (J := J) h
  obtain ⟨hV, hC, hxo, hx, h8, hk, hP⟩ := h
  refine ct_of (lv := [some (.ref x), some (.int (nI (k))), some (.int (nI (r))), none, none]) (by decide +kernel) (Nat.le_of_ble_eq_true rfl) rfl ?_
  refine ev_aload_n 1 dX11_join_0 rfl rfl ?_
  refine ev_iconstN 2 0 dX11_join_1 rfl ?_
  refine ev_putI 5 mm_cl11 (j := 9) (Nat.le_of_ble_eq_true rfl) dX11_join_2 lk270 rfl (fun _ _ _ => rfl) rfl rfl (hV.1 0 _ rfl) rfl ?_
  refine ev_aload_n 6 dX11_join_5 rfl rfl ?_
  refine ev_iload_n 7 dX11_join_6 rfl rfl ?_
  refine ev_invV 10 (Mc := mX11_coderAt) ⟨lk570, lk75, hdX11_coderAt, (Nat.le_of_ble_eq_true rfl), (Nat.le_of_ble_eq_true rfl)⟩ lk567 lk569 lk1 mm_cl11 rfl dX11_join_7 (ca) rfl (hV.1 0 _ rfl) (Nat.le_of_ble_eq_true rfl) rfl rfl ?_
  refine ev_astore_n 11 (lv' := [_, _, some (.int _), _, _]) dX11_join_10 (Nat.le_of_ble_eq_true rfl) rfl rfl ?_
  refine ev_aload_n 12 dX11_join_11 rfl rfl ?_
  refine ev_ifnull_r 15 dX11_join_12 rfl ?_
  refine ev_iload_n 16 dX11_join_15 rfl rfl ?_
  refine ev_iconstN 17 1 dX11_join_16 rfl ?_
  refine ev_icmp_ltN 20 27 dX11_join_17 (by decide) (by omega) (by omega) rfl (fun hx => absurd hx ((by omega))) (fun hbr => ?_)
  refine ev_iload_n 21 dX11_join_20 rfl rfl ?_
  refine ev_sipushN 24 32767 dX11_join_21 (by decide +kernel) rfl ?_
  refine ev_icmp_leN 27 33 dX11_join_24 (by decide) (by omega) (by omega) rfl (fun hbr => ?_) (fun hx => absurd ((by omega)) hx)
  refine ev_aload_n 34 dX11_join_33 rfl rfl ?_
  refine ev_getP 37 mm_cl0 (j := 4) (Nat.le_of_ble_eq_true rfl) dX11_join_34 lk551 (fun _ _ _ => rfl) (hC.1 0 _ rfl) (a := (o + 17)) (hC.2.2.1 3 _ _ _ rfl) rfl ?_
  refine ev_getI 40 mm_cl1 (j := 10) (Nat.le_of_ble_eq_true rfl) dX11_join_37 lk488 (fun _ _ _ => rfl) (hC.1 17 _ rfl) rfl ?_
  refine ev_eqI (y := (v)) ((vzk hv (by omega))) ?_
  refine ev_istore 42 (lv' := [_, _, _, some (.ref _), _]) dX11_join_40 (Nat.le_of_ble_eq_true rfl) rfl rfl ?_
  refine ev_aload_n 43 dX11_join_42 rfl rfl ?_
  refine ev_getP 46 mm_cl0 (j := 4) (Nat.le_of_ble_eq_true rfl) dX11_join_43 lk551 (fun _ _ _ => rfl) (hC.1 0 _ rfl) (a := (o + 17)) (hC.2.2.1 3 _ _ _ rfl) rfl ?_
  refine ev_iload_n 47 dX11_join_46 rfl rfl ?_
  refine ev_putI 50 mm_cl1 (j := 10) (Nat.le_of_ble_eq_true rfl) dX11_join_47 lk488 rfl (fun _ _ _ => rfl) rfl rfl (hC.1 17 _ rfl) rfl ?_
  refine ev_iload 52 dX11_join_50 rfl rfl ?_
  exact ev_iret dX11_join_52 rfl (rfl)
theorem ml_join_f {c r : Int32} (hM : lyM B P m) (hn : I m 0 = nI n) (hc : ¬ (0 ≤ c ∧ c < nI n)) : Ct g mX12_join [.ref m, .int c, .int r] B I J P (some (.int (-1)), B, mo_st I m (-1), J, P) := by
  refine ct_of (lv := [some (.ref m), some (.int (c)), some (.int (r)), none]) (by decide +kernel) (Nat.le_of_ble_eq_true rfl) rfl ?_
  refine ev_aload_n 1 dX12_join_0 rfl rfl ?_
  refine ev_iload_n 2 dX12_join_1 rfl rfl ?_
  refine ev_invV 5 (Mc := mX12_isCoder) ⟨lk1552, lk80, hdX12_isCoder, (Nat.le_of_ble_eq_true rfl), (Nat.le_of_ble_eq_true rfl)⟩ lk1549 lk1551 lk40 mm_cl12 rfl dX12_join_2 (ct_X12_isCoder_f hM (by rw [hn]; exact hc)) rfl (hM.1 0 _ rfl) (Nat.le_of_ble_eq_true rfl) rfl rfl ?_
  refine ev_if_eqN 8 19 dX12_join_5 (by decide) (by omega) rfl (fun hbr => ?_) (fun hx => absurd ((by omega)) hx)
  refine ev_aload_n 20 dX12_join_19 rfl rfl ?_
  refine ev_iconst 21 (v := -1) dX12_join_20 (by decide +kernel) rfl ?_
  refine ev_invV 24 (Mc := mX12_refused) ⟨lk1540, lk80, hdX12_refused, (Nat.le_of_ble_eq_true rfl), (Nat.le_of_ble_eq_true rfl)⟩ lk1537 lk1539 lk38 mm_cl12 rfl dX12_join_21 (ct_X12_refused hM) rfl (hM.1 0 _ rfl) (Nat.le_of_ble_eq_true rfl) rfl rfl ?_
  exact ev_iret dX12_join_24 rfl (rfl)
theorem ml_join_b {r : Int32} (h : MA B I P m n k) (hr : ¬ (nI 1 ≤ r ∧ r ≤ nI 32767)) : Ct g mX12_join [.ref m, .int (nI k), .int r] B I J P (some (.int (-1)), B, mo_st I m (-1), J, P) := by
  obtain ⟨hM, hn, h8, hk⟩ := h
  refine ct_of (lv := [some (.ref m), some (.int (nI (k))), some (.int (r)), none]) (by decide +kernel) (Nat.le_of_ble_eq_true rfl) rfl ?_
  refine ev_aload_n 1 dX12_join_0 rfl rfl ?_
  refine ev_iload_n 2 dX12_join_1 rfl rfl ?_
  refine ev_invV 5 (Mc := mX12_isCoder) ⟨lk1552, lk80, hdX12_isCoder, (Nat.le_of_ble_eq_true rfl), (Nat.le_of_ble_eq_true rfl)⟩ lk1549 lk1551 lk40 mm_cl12 rfl dX12_join_2 (ct_X12_isCoder_t hM hn h8 hk) rfl (hM.1 0 _ rfl) (Nat.le_of_ble_eq_true rfl) rfl rfl ?_
  refine ev_if_eqN 8 19 dX12_join_5 (by decide) (by omega) rfl (fun hx => absurd hx ((by omega))) (fun hbr => ?_)
  refine ev_iload_n 9 dX12_join_8 rfl rfl ?_
  refine ev_iconstN 10 1 dX12_join_9 rfl ?_
  refine ev_sipushN 13 32767 dX12_join_10 (by decide +kernel) rfl ?_
  refine ev_invS 16 (Mc := mX12_in) ⟨lk1536, lk80, hdX12_in, (Nat.le_of_ble_eq_true rfl), (Nat.le_of_ble_eq_true rfl)⟩ lk1534 lk1535 dX12_join_13 (ct_X12_in_f hr) rfl (Nat.le_of_ble_eq_true rfl) rfl rfl ?_
  refine ev_if_neN 19 25 dX12_join_16 (by decide) (by omega) rfl (fun hx => absurd ((by omega)) hx) (fun hbr => ?_)
  refine ev_aload_n 20 dX12_join_19 rfl rfl ?_
  refine ev_iconst 21 (v := -1) dX12_join_20 (by decide +kernel) rfl ?_
  refine ev_invV 24 (Mc := mX12_refused) ⟨lk1540, lk80, hdX12_refused, (Nat.le_of_ble_eq_true rfl), (Nat.le_of_ble_eq_true rfl)⟩ lk1537 lk1539 lk38 mm_cl12 rfl dX12_join_21 (ct_X12_refused hM) rfl (hM.1 0 _ rfl) (Nat.le_of_ble_eq_true rfl) rfl rfl ?_
  exact ev_iret dX12_join_24 rfl (rfl)
theorem ml_join_t {r : Nat} {v : Int32} (h : MA B I P m n k) (h1 : 1 ≤ r) (hr : r ≤ 32767) (hv : I (m + 46) k = v) : Ct g mX12_join [.ref m, .int (nI k), .int (nI r)] B I J P (some (.int v), B, mo_st (va_up I (m + 46) (va_up (I (m + 46)) k (nI r))) m (nI 0), J, P) := by
  obtain ⟨hM, hn, h8, hk⟩ := h
  refine ct_of (lv := [some (.ref m), some (.int (nI (k))), some (.int (nI (r))), none]) (by decide +kernel) (Nat.le_of_ble_eq_true rfl) rfl ?_
  refine ev_aload_n 1 dX12_join_0 rfl rfl ?_
  refine ev_iload_n 2 dX12_join_1 rfl rfl ?_
  refine ev_invV 5 (Mc := mX12_isCoder) ⟨lk1552, lk80, hdX12_isCoder, (Nat.le_of_ble_eq_true rfl), (Nat.le_of_ble_eq_true rfl)⟩ lk1549 lk1551 lk40 mm_cl12 rfl dX12_join_2 (ct_X12_isCoder_t hM hn h8 hk) rfl (hM.1 0 _ rfl) (Nat.le_of_ble_eq_true rfl) rfl rfl ?_
  refine ev_if_eqN 8 19 dX12_join_5 (by decide) (by omega) rfl (fun hx => absurd hx ((by omega))) (fun hbr => ?_)
  refine ev_iload_n 9 dX12_join_8 rfl rfl ?_
  refine ev_iconstN 10 1 dX12_join_9 rfl ?_
  refine ev_sipushN 13 32767 dX12_join_10 (by decide +kernel) rfl ?_
  refine ev_invS 16 (Mc := mX12_in) ⟨lk1536, lk80, hdX12_in, (Nat.le_of_ble_eq_true rfl), (Nat.le_of_ble_eq_true rfl)⟩ lk1534 lk1535 dX12_join_13 (ct_X12_in_t (in_t h1 hr (by omega))) rfl (Nat.le_of_ble_eq_true rfl) rfl rfl ?_
  refine ev_if_neN 19 25 dX12_join_16 (by decide) (by omega) rfl (fun hbr => ?_) (fun hx => absurd hx ((by omega)))
  refine ev_aload_n 26 dX12_join_25 rfl rfl ?_
  refine ev_getP 29 mm_cl12 (j := 52) (Nat.le_of_ble_eq_true rfl) dX12_join_26 lk1337 (fun _ _ _ => rfl) (hM.1 0 _ rfl) (a := (m + 46)) (hM.2.2 45 _ _ _ rfl) rfl ?_
  refine ev_iload_n 30 dX12_join_29 rfl rfl ?_
  refine ev_iald 31 _ dX12_join_30 (hM.1 46 _ rfl) rfl (by have hNN := hM.2.1 46 _ rfl; omega) rfl ?_
  refine ev_eqI (y := (v)) (hv) ?_
  refine ev_istore_n 32 (lv' := [_, _, some (.int _), _]) dX12_join_31 (Nat.le_of_ble_eq_true rfl) rfl rfl ?_
  refine ev_aload_n 33 dX12_join_32 rfl rfl ?_
  refine ev_getP 36 mm_cl12 (j := 52) (Nat.le_of_ble_eq_true rfl) dX12_join_33 lk1337 (fun _ _ _ => rfl) (hM.1 0 _ rfl) (a := (m + 46)) (hM.2.2 45 _ _ _ rfl) rfl ?_
  refine ev_iload_n 37 dX12_join_36 rfl rfl ?_
  refine ev_iload_n 38 dX12_join_37 rfl rfl ?_
  refine ev_iast 39 _ dX12_join_38 (hM.1 46 _ rfl) rfl (by have hNN := hM.2.1 46 _ rfl; omega) rfl ?_
  refine ev_aload_n 40 dX12_join_39 rfl rfl ?_
  refine ev_iload_n 41 dX12_join_40 rfl rfl ?_
  refine ev_invV 44 (Mc := mX12_done) ⟨lk1544, lk80, hdX12_done, (Nat.le_of_ble_eq_true rfl), (Nat.le_of_ble_eq_true rfl)⟩ lk1541 lk1543 lk39 mm_cl12 rfl dX12_join_41 (ct_X12_done hM) rfl (hM.1 0 _ rfl) (Nat.le_of_ble_eq_true rfl) rfl rfl ?_
  exact ev_iret dX12_join_44 rfl (rfl)
theorem cl_drift_f {c r : Int32} (hV : lyV B P x) (hx : I x 4 = nI n) (hc : ¬ (0 ≤ c ∧ c < nI n)) : Ct g mX11_drift [.ref x, .int c, .int r] B I J P (some (.int (-1)), B, vst I x (-1), J, P) := by
  refine ct_of (lv := [some (.ref x), some (.int (c)), some (.int (r)), none, none]) (by decide +kernel) (Nat.le_of_ble_eq_true rfl) rfl ?_
  refine ev_aload_n 1 dX11_drift_0 rfl rfl ?_
  refine ev_iconstN 2 0 dX11_drift_1 rfl ?_
  refine ev_putI 5 mm_cl11 (j := 9) (Nat.le_of_ble_eq_true rfl) dX11_drift_2 lk270 rfl (fun _ _ _ => rfl) rfl rfl (hV.1 0 _ rfl) rfl ?_
  refine ev_aload_n 6 dX11_drift_5 rfl rfl ?_
  refine ev_iload_n 7 dX11_drift_6 rfl rfl ?_
  refine ev_invV 10 (Mc := mX11_coderAt) ⟨lk570, lk75, hdX11_coderAt, (Nat.le_of_ble_eq_true rfl), (Nat.le_of_ble_eq_true rfl)⟩ lk567 lk569 lk1 mm_cl11 rfl dX11_drift_7 (ca_f hV hx hc) rfl (hV.1 0 _ rfl) (Nat.le_of_ble_eq_true rfl) rfl rfl ?_
  refine ev_astore_nN 11 (lv' := [_, _, some (.int _), _, _]) dX11_drift_10 (Nat.le_of_ble_eq_true rfl) rfl rfl ?_
  refine ev_aload_nN 12 dX11_drift_11 rfl rfl ?_
  refine ev_ifnull_n 25 dX11_drift_12 (by decide) ?_
  refine ev_aload_n 26 dX11_drift_25 rfl rfl ?_
  refine ev_iconst 27 (v := -1) dX11_drift_26 (by decide +kernel) rfl ?_
  refine ev_invV 30 (Mc := mX11_refuse) ⟨lk303, lk75, hdX11_refuse, (Nat.le_of_ble_eq_true rfl), (Nat.le_of_ble_eq_true rfl)⟩ lk300 lk302 lk0 mm_cl11 rfl dX11_drift_27 (ct_refuse hV) rfl (hV.1 0 _ rfl) (Nat.le_of_ble_eq_true rfl) rfl rfl ?_
  exact ev_iret dX11_drift_30 rfl (rfl)
theorem cl_drift_b {r : Int32} (h : CA B I P x o n k) (hr : ¬ (-1 ≤ r ∧ r ≤ nI 1)) : Ct g mX11_drift [.ref x, .int (nI k), .int r] B I J P (some (.int (-1)), B, vst I x (-1), J, P) := by
  have ca := ca_t (g := g) (J := J) h
  obtain ⟨hV, hC, hxo, hx, h8, hk, hP⟩ := h
  refine ct_of (lv := [some (.ref x), some (.int (nI (k))), some (.int (r)), none, none]) (by decide +kernel) (Nat.le_of_ble_eq_true rfl) rfl ?_
  refine ev_aload_n 1 dX11_drift_0 rfl rfl ?_
  refine ev_iconstN 2 0 dX11_drift_1 rfl ?_
  refine ev_putI 5 mm_cl11 (j := 9) (Nat.le_of_ble_eq_true rfl) dX11_drift_2 lk270 rfl (fun _ _ _ => rfl) rfl rfl (hV.1 0 _ rfl) rfl ?_
  refine ev_aload_n 6 dX11_drift_5 rfl rfl ?_
  refine ev_iload_n 7 dX11_drift_6 rfl rfl ?_
  refine ev_invV 10 (Mc := mX11_coderAt) ⟨lk570, lk75, hdX11_coderAt, (Nat.le_of_ble_eq_true rfl), (Nat.le_of_ble_eq_true rfl)⟩ lk567 lk569 lk1 mm_cl11 rfl dX11_drift_7 (ca) rfl (hV.1 0 _ rfl) (Nat.le_of_ble_eq_true rfl) rfl rfl ?_
  refine ev_astore_n 11 (lv' := [_, _, some (.int _), _, _]) dX11_drift_10 (Nat.le_of_ble_eq_true rfl) rfl rfl ?_
  refine ev_aload_n 12 dX11_drift_11 rfl rfl ?_
  refine ev_ifnull_r 15 dX11_drift_12 rfl ?_
  refine ev_iload_n 16 dX11_drift_15 rfl rfl ?_
  refine ev_iconst 17 (v := -1) dX11_drift_16 (by decide +kernel) rfl ?_
  refine ev_icmp_lt 20 25 dX11_drift_17 (by decide) rfl (fun h1 => ?_) (fun h1 => ?_)
  · refine ev_aload_n 26 dX11_drift_25 rfl rfl ?_
    refine ev_iconst 27 (v := -1) dX11_drift_26 (by decide +kernel) rfl ?_
    refine ev_invV 30 (Mc := mX11_refuse) ⟨lk303, lk75, hdX11_refuse, (Nat.le_of_ble_eq_true rfl), (Nat.le_of_ble_eq_true rfl)⟩ lk300 lk302 lk0 mm_cl11 rfl dX11_drift_27 (ct_refuse hV) rfl (hV.1 0 _ rfl) (Nat.le_of_ble_eq_true rfl) rfl rfl ?_
    exact ev_iret dX11_drift_30 rfl (rfl)
  · refine ev_iload_n 21 dX11_drift_20 rfl rfl ?_
    refine ev_iconstN 22 1 dX11_drift_21 rfl ?_
    refine ev_icmp_le 25 31 dX11_drift_22 (by decide) rfl (fun hx => absurd hx ((fun h2 => hr ⟨Int32.not_lt.mp h1, h2⟩))) (fun hbr => ?_)
    refine ev_aload_n 26 dX11_drift_25 rfl rfl ?_
    refine ev_iconst 27 (v := -1) dX11_drift_26 (by decide +kernel) rfl ?_
    refine ev_invV 30 (Mc := mX11_refuse) ⟨lk303, lk75, hdX11_refuse, (Nat.le_of_ble_eq_true rfl), (Nat.le_of_ble_eq_true rfl)⟩ lk300 lk302 lk0 mm_cl11 rfl dX11_drift_27 (ct_refuse hV) rfl (hV.1 0 _ rfl) (Nat.le_of_ble_eq_true rfl) rfl rfl ?_
    exact ev_iret dX11_drift_30 rfl (rfl)
theorem cl_drift_t {r v : Int32} (h : CA B I P x o n k) (hr : -1 ≤ r ∧ r ≤ nI 1) (hv : I (o + 17) 11 = v) : Ct g mX11_drift [.ref x, .int (nI k), .int r] B I J P (some (.int v), B, va_up (vz I x) (o + 17) (va_up (vz I x (o + 17)) 11 r), J, P) := by
  have ca := ca_t (g := g) (J := J) h
  obtain ⟨hV, hC, hxo, hx, h8, hk, hP⟩ := h
  refine ct_of (lv := [some (.ref x), some (.int (nI (k))), some (.int (r)), none, none]) (by decide +kernel) (Nat.le_of_ble_eq_true rfl) rfl ?_
  refine ev_aload_n 1 dX11_drift_0 rfl rfl ?_
  refine ev_iconstN 2 0 dX11_drift_1 rfl ?_
  refine ev_putI 5 mm_cl11 (j := 9) (Nat.le_of_ble_eq_true rfl) dX11_drift_2 lk270 rfl (fun _ _ _ => rfl) rfl rfl (hV.1 0 _ rfl) rfl ?_
  refine ev_aload_n 6 dX11_drift_5 rfl rfl ?_
  refine ev_iload_n 7 dX11_drift_6 rfl rfl ?_
  refine ev_invV 10 (Mc := mX11_coderAt) ⟨lk570, lk75, hdX11_coderAt, (Nat.le_of_ble_eq_true rfl), (Nat.le_of_ble_eq_true rfl)⟩ lk567 lk569 lk1 mm_cl11 rfl dX11_drift_7 (ca) rfl (hV.1 0 _ rfl) (Nat.le_of_ble_eq_true rfl) rfl rfl ?_
  refine ev_astore_n 11 (lv' := [_, _, some (.int _), _, _]) dX11_drift_10 (Nat.le_of_ble_eq_true rfl) rfl rfl ?_
  refine ev_aload_n 12 dX11_drift_11 rfl rfl ?_
  refine ev_ifnull_r 15 dX11_drift_12 rfl ?_
  refine ev_iload_n 16 dX11_drift_15 rfl rfl ?_
  refine ev_iconst 17 (v := -1) dX11_drift_16 (by decide +kernel) rfl ?_
  refine ev_icmp_lt 20 25 dX11_drift_17 (by decide) rfl (fun hx => absurd hx ((Int32.not_lt.mpr hr.1))) (fun hbr => ?_)
  refine ev_iload_n 21 dX11_drift_20 rfl rfl ?_
  refine ev_iconstN 22 1 dX11_drift_21 rfl ?_
  refine ev_icmp_le 25 31 dX11_drift_22 (by decide) rfl (fun hbr => ?_) (fun hx => absurd (hr.2) hx)
  refine ev_aload_n 32 dX11_drift_31 rfl rfl ?_
  refine ev_getP 35 mm_cl0 (j := 4) (Nat.le_of_ble_eq_true rfl) dX11_drift_32 lk551 (fun _ _ _ => rfl) (hC.1 0 _ rfl) (a := (o + 17)) (hC.2.2.1 3 _ _ _ rfl) rfl ?_
  refine ev_getI 38 mm_cl1 (j := 11) (Nat.le_of_ble_eq_true rfl) dX11_drift_35 lk490 (fun _ _ _ => rfl) (hC.1 17 _ rfl) rfl ?_
  refine ev_eqI (y := (v)) ((vzk hv (by omega))) ?_
  refine ev_istore 40 (lv' := [_, _, _, some (.ref _), _]) dX11_drift_38 (Nat.le_of_ble_eq_true rfl) rfl rfl ?_
  refine ev_aload_n 41 dX11_drift_40 rfl rfl ?_
  refine ev_getP 44 mm_cl0 (j := 4) (Nat.le_of_ble_eq_true rfl) dX11_drift_41 lk551 (fun _ _ _ => rfl) (hC.1 0 _ rfl) (a := (o + 17)) (hC.2.2.1 3 _ _ _ rfl) rfl ?_
  refine ev_iload_n 45 dX11_drift_44 rfl rfl ?_
  refine ev_putI 48 mm_cl1 (j := 11) (Nat.le_of_ble_eq_true rfl) dX11_drift_45 lk490 rfl (fun _ _ _ => rfl) rfl rfl (hC.1 17 _ rfl) rfl ?_
  refine ev_iload 50 dX11_drift_48 rfl rfl ?_
  exact ev_iret dX11_drift_50 rfl (rfl)
theorem ml_drift_f {c r : Int32} (hM : lyM B P m) (hn : I m 0 = nI n) (hc : ¬ (0 ≤ c ∧ c < nI n)) : Ct g mX12_drift [.ref m, .int c, .int r] B I J P (some (.int (-1)), B, mo_st I m (-1), J, P) := by
  refine ct_of (lv := [some (.ref m), some (.int (c)), some (.int (r)), none]) (by decide +kernel) (Nat.le_of_ble_eq_true rfl) rfl ?_
  refine ev_aload_n 1 dX12_drift_0 rfl rfl ?_
  refine ev_iload_n 2 dX12_drift_1 rfl rfl ?_
  refine ev_invV 5 (Mc := mX12_isCoder) ⟨lk1552, lk80, hdX12_isCoder, (Nat.le_of_ble_eq_true rfl), (Nat.le_of_ble_eq_true rfl)⟩ lk1549 lk1551 lk40 mm_cl12 rfl dX12_drift_2 (ct_X12_isCoder_f hM (by rw [hn]; exact hc)) rfl (hM.1 0 _ rfl) (Nat.le_of_ble_eq_true rfl) rfl rfl ?_
  refine ev_if_eqN 8 17 dX12_drift_5 (by decide) (by omega) rfl (fun hbr => ?_) (fun hx => absurd ((by omega)) hx)
  refine ev_aload_n 18 dX12_drift_17 rfl rfl ?_
  refine ev_iconst 19 (v := -1) dX12_drift_18 (by decide +kernel) rfl ?_
  refine ev_invV 22 (Mc := mX12_refused) ⟨lk1540, lk80, hdX12_refused, (Nat.le_of_ble_eq_true rfl), (Nat.le_of_ble_eq_true rfl)⟩ lk1537 lk1539 lk38 mm_cl12 rfl dX12_drift_19 (ct_X12_refused hM) rfl (hM.1 0 _ rfl) (Nat.le_of_ble_eq_true rfl) rfl rfl ?_
  exact ev_iret dX12_drift_22 rfl (rfl)
theorem ml_drift_b {r : Int32} (h : MA B I P m n k) (hr : ¬ (-1 ≤ r ∧ r ≤ nI 1)) : Ct g mX12_drift [.ref m, .int (nI k), .int r] B I J P (some (.int (-1)), B, mo_st I m (-1), J, P) := by
  obtain ⟨hM, hn, h8, hk⟩ := h
  refine ct_of (lv := [some (.ref m), some (.int (nI (k))), some (.int (r)), none]) (by decide +kernel) (Nat.le_of_ble_eq_true rfl) rfl ?_
  refine ev_aload_n 1 dX12_drift_0 rfl rfl ?_
  refine ev_iload_n 2 dX12_drift_1 rfl rfl ?_
  refine ev_invV 5 (Mc := mX12_isCoder) ⟨lk1552, lk80, hdX12_isCoder, (Nat.le_of_ble_eq_true rfl), (Nat.le_of_ble_eq_true rfl)⟩ lk1549 lk1551 lk40 mm_cl12 rfl dX12_drift_2 (ct_X12_isCoder_t hM hn h8 hk) rfl (hM.1 0 _ rfl) (Nat.le_of_ble_eq_true rfl) rfl rfl ?_
  refine ev_if_eqN 8 17 dX12_drift_5 (by decide) (by omega) rfl (fun hx => absurd hx ((by omega))) (fun hbr => ?_)
  refine ev_iload_n 9 dX12_drift_8 rfl rfl ?_
  refine ev_iconst 10 (v := -1) dX12_drift_9 (by decide +kernel) rfl ?_
  refine ev_iconstN 11 1 dX12_drift_10 rfl ?_
  refine ev_invS 14 (Mc := mX12_in) ⟨lk1536, lk80, hdX12_in, (Nat.le_of_ble_eq_true rfl), (Nat.le_of_ble_eq_true rfl)⟩ lk1534 lk1535 dX12_drift_11 (ct_X12_in_f hr) rfl (Nat.le_of_ble_eq_true rfl) rfl rfl ?_
  refine ev_if_neN 17 23 dX12_drift_14 (by decide) (by omega) rfl (fun hx => absurd ((by omega)) hx) (fun hbr => ?_)
  refine ev_aload_n 18 dX12_drift_17 rfl rfl ?_
  refine ev_iconst 19 (v := -1) dX12_drift_18 (by decide +kernel) rfl ?_
  refine ev_invV 22 (Mc := mX12_refused) ⟨lk1540, lk80, hdX12_refused, (Nat.le_of_ble_eq_true rfl), (Nat.le_of_ble_eq_true rfl)⟩ lk1537 lk1539 lk38 mm_cl12 rfl dX12_drift_19 (ct_X12_refused hM) rfl (hM.1 0 _ rfl) (Nat.le_of_ble_eq_true rfl) rfl rfl ?_
  exact ev_iret dX12_drift_22 rfl (rfl)
theorem ml_drift_t {r v : Int32} (h : MA B I P m n k) (hr : -1 ≤ r ∧ r ≤ nI 1) (hv : I (m + 47) k = v) : Ct g mX12_drift [.ref m, .int (nI k), .int r] B I J P (some (.int v), B, mo_st (va_up I (m + 47) (va_up (I (m + 47)) k r)) m (nI 0), J, P) := by
  obtain ⟨hM, hn, h8, hk⟩ := h
  refine ct_of (lv := [some (.ref m), some (.int (nI (k))), some (.int (r)), none]) (by decide +kernel) (Nat.le_of_ble_eq_true rfl) rfl ?_
  refine ev_aload_n 1 dX12_drift_0 rfl rfl ?_
  refine ev_iload_n 2 dX12_drift_1 rfl rfl ?_
  refine ev_invV 5 (Mc := mX12_isCoder) ⟨lk1552, lk80, hdX12_isCoder, (Nat.le_of_ble_eq_true rfl), (Nat.le_of_ble_eq_true rfl)⟩ lk1549 lk1551 lk40 mm_cl12 rfl dX12_drift_2 (ct_X12_isCoder_t hM hn h8 hk) rfl (hM.1 0 _ rfl) (Nat.le_of_ble_eq_true rfl) rfl rfl ?_
  refine ev_if_eqN 8 17 dX12_drift_5 (by decide) (by omega) rfl (fun hx => absurd hx ((by omega))) (fun hbr => ?_)
  refine ev_iload_n 9 dX12_drift_8 rfl rfl ?_
  refine ev_iconst 10 (v := -1) dX12_drift_9 (by decide +kernel) rfl ?_
  refine ev_iconstN 11 1 dX12_drift_10 rfl ?_
  refine ev_invS 14 (Mc := mX12_in) ⟨lk1536, lk80, hdX12_in, (Nat.le_of_ble_eq_true rfl), (Nat.le_of_ble_eq_true rfl)⟩ lk1534 lk1535 dX12_drift_11 (ct_X12_in_t hr) rfl (Nat.le_of_ble_eq_true rfl) rfl rfl ?_
  refine ev_if_neN 17 23 dX12_drift_14 (by decide) (by omega) rfl (fun hbr => ?_) (fun hx => absurd hx ((by omega)))
  refine ev_aload_n 24 dX12_drift_23 rfl rfl ?_
  refine ev_getP 27 mm_cl12 (j := 53) (Nat.le_of_ble_eq_true rfl) dX12_drift_24 lk1338 (fun _ _ _ => rfl) (hM.1 0 _ rfl) (a := (m + 47)) (hM.2.2 46 _ _ _ rfl) rfl ?_
  refine ev_iload_n 28 dX12_drift_27 rfl rfl ?_
  refine ev_iald 29 _ dX12_drift_28 (hM.1 47 _ rfl) rfl (by have hNN := hM.2.1 47 _ rfl; omega) rfl ?_
  refine ev_eqI (y := (v)) (hv) ?_
  refine ev_istore_n 30 (lv' := [_, _, some (.int _), _]) dX12_drift_29 (Nat.le_of_ble_eq_true rfl) rfl rfl ?_
  refine ev_aload_n 31 dX12_drift_30 rfl rfl ?_
  refine ev_getP 34 mm_cl12 (j := 53) (Nat.le_of_ble_eq_true rfl) dX12_drift_31 lk1338 (fun _ _ _ => rfl) (hM.1 0 _ rfl) (a := (m + 47)) (hM.2.2 46 _ _ _ rfl) rfl ?_
  refine ev_iload_n 35 dX12_drift_34 rfl rfl ?_
  refine ev_iload_n 36 dX12_drift_35 rfl rfl ?_
  refine ev_iast 37 _ dX12_drift_36 (hM.1 47 _ rfl) rfl (by have hNN := hM.2.1 47 _ rfl; omega) rfl ?_
  refine ev_aload_n 38 dX12_drift_37 rfl rfl ?_
  refine ev_iload_n 39 dX12_drift_38 rfl rfl ?_
  refine ev_invV 42 (Mc := mX12_done) ⟨lk1544, lk80, hdX12_done, (Nat.le_of_ble_eq_true rfl), (Nat.le_of_ble_eq_true rfl)⟩ lk1541 lk1543 lk39 mm_cl12 rfl dX12_drift_39 (ct_X12_done hM) rfl (hM.1 0 _ rfl) (Nat.le_of_ble_eq_true rfl) rfl rfl ?_
  exact ev_iret dX12_drift_42 rfl (rfl)
end SU0
