/-! MIX -/
def mxw (wa wb : Int32) (A C : Nat → Int32) (i : Nat) : Int64 := ((wa * A i + wb * C i) >>> (nI 5 &&& 31)).toInt64
def mxv (wa wb : Int32) (A C : Nat → Int32) (i : Nat) : Int32 := sp_S (mxw wa wb A C i)
def mxT (wa wb : Int32) (A C : Nat → Int32) : Nat → Int64
  | 0 => 0
  | i + 1 => mxT wa wb A C i + sp_t (mxw wa wb A C i)
section MX0
variable {g : mm_G} {B : mm_B} {I : mm_TI} {J : mm_TJ} {P : mm_TP} {x m o p n a b : Nat}
theorem cl_mix_fn {c d wa wb : Int32} (hV : lyV B P x) (hx : I x 4 = nI n) (hc : ¬ (0 ≤ c ∧ c < nI n)) (hd : ¬ (0 ≤ d ∧ d < nI n)) : Ct g mX11_mix [.ref x, .int c, .int d, .int wa, .int wb] B I J P (some (.int (-1)), B, vst I x (-1), J, P) := by
  refine ct_of (lv := [some (.ref x), some (.int (c)), some (.int (d)), some (.int (wa)), some (.int (wb)), none, none, none]) (by decide +kernel) (Nat.le_of_ble_eq_true rfl) rfl ?_
  refine ev_aload_n 1 dX11_mix_0 rfl rfl ?_
  refine ev_iconstN 2 0 dX11_mix_1 rfl ?_
  refine ev_putI 5 mm_cl11 (j := 9) (Nat.le_of_ble_eq_true rfl) dX11_mix_2 lk270 rfl (fun _ _ _ => rfl) rfl rfl (hV.1 0 _ rfl) rfl ?_
  refine ev_aload_n 6 dX11_mix_5 rfl rfl ?_
  refine ev_iload_n 7 dX11_mix_6 rfl rfl ?_
  refine ev_invV 10 (Mc := mX11_coderAt) ⟨lk570, lk75, hdX11_coderAt, (Nat.le_of_ble_eq_true rfl), (Nat.le_of_ble_eq_true rfl)⟩ lk567 lk569 lk1 mm_cl11 rfl dX11_mix_7 (ca_f hV hx hc) rfl (hV.1 0 _ rfl) (Nat.le_of_ble_eq_true rfl) rfl rfl ?_
  refine ev_astoreN 12 (lv' := [_, _, _, _, some (.int _), _, _, _]) dX11_mix_10 (Nat.le_of_ble_eq_true rfl) rfl rfl ?_
  refine ev_aload_n 13 dX11_mix_12 rfl rfl ?_
  refine ev_iload_n 14 dX11_mix_13 rfl rfl ?_
  refine ev_invV 17 (Mc := mX11_coderAt) ⟨lk570, lk75, hdX11_coderAt, (Nat.le_of_ble_eq_true rfl), (Nat.le_of_ble_eq_true rfl)⟩ lk567 lk569 lk1 mm_cl11 rfl dX11_mix_14 (ca_f hV hx hd) rfl (hV.1 0 _ rfl) (Nat.le_of_ble_eq_true rfl) rfl rfl ?_
  refine ev_astoreN 19 (lv' := [_, _, _, _, _, some .null, _, _]) dX11_mix_17 (Nat.le_of_ble_eq_true rfl) rfl rfl ?_
  refine ev_aloadN 21 dX11_mix_19 rfl rfl ?_
  refine ev_ifnull_n 44 dX11_mix_21 (by decide) ?_
  refine ev_aload_n 45 dX11_mix_44 rfl rfl ?_
  refine ev_iconst 46 (v := -1) dX11_mix_45 (by decide +kernel) rfl ?_
  refine ev_invV 49 (Mc := mX11_refuse) ⟨lk303, lk75, hdX11_refuse, (Nat.le_of_ble_eq_true rfl), (Nat.le_of_ble_eq_true rfl)⟩ lk300 lk302 lk0 mm_cl11 rfl dX11_mix_46 (ct_refuse hV) rfl (hV.1 0 _ rfl) (Nat.le_of_ble_eq_true rfl) rfl rfl ?_
  exact ev_iret dX11_mix_49 rfl (rfl)
theorem cl_mix_fr {c wa wb : Int32} (h2 : CA B I P x p n b) (hc : ¬ (0 ≤ c ∧ c < nI n)) : Ct g mX11_mix [.ref x, .int c, .int (nI b), .int wa, .int wb] B I J P (some (.int (-1)), B, vst I x (-1), J, P) := by
  have ca := ca_t (g := g) (J := J) h2
  obtain ⟨hV, hD, hxp, hx, h8, hk, hP⟩ := h2
  have tp : mm_T B p = 100 := hD.1 0 _ rfl
  refine ct_of (lv := [some (.ref x), some (.int (c)), some (.int (nI (b))), some (.int (wa)), some (.int (wb)), none, none, none]) (by decide +kernel) (Nat.le_of_ble_eq_true rfl) rfl ?_
  refine ev_aload_n 1 dX11_mix_0 rfl rfl ?_
  refine ev_iconstN 2 0 dX11_mix_1 rfl ?_
  refine ev_putI 5 mm_cl11 (j := 9) (Nat.le_of_ble_eq_true rfl) dX11_mix_2 lk270 rfl (fun _ _ _ => rfl) rfl rfl (hV.1 0 _ rfl) rfl ?_
  refine ev_aload_n 6 dX11_mix_5 rfl rfl ?_
  refine ev_iload_n 7 dX11_mix_6 rfl rfl ?_
  refine ev_invV 10 (Mc := mX11_coderAt) ⟨lk570, lk75, hdX11_coderAt, (Nat.le_of_ble_eq_true rfl), (Nat.le_of_ble_eq_true rfl)⟩ lk567 lk569 lk1 mm_cl11 rfl dX11_mix_7 (ca_f hV hx hc) rfl (hV.1 0 _ rfl) (Nat.le_of_ble_eq_true rfl) rfl rfl ?_
  refine ev_astoreN 12 (lv' := [_, _, _, _, some (.int _), _, _, _]) dX11_mix_10 (Nat.le_of_ble_eq_true rfl) rfl rfl ?_
  refine ev_aload_n 13 dX11_mix_12 rfl rfl ?_
  refine ev_iload_n 14 dX11_mix_13 rfl rfl ?_
  refine ev_invV 17 (Mc := mX11_coderAt) ⟨lk570, lk75, hdX11_coderAt, (Nat.le_of_ble_eq_true rfl), (Nat.le_of_ble_eq_true rfl)⟩ lk567 lk569 lk1 mm_cl11 rfl dX11_mix_14 (ca) rfl (hV.1 0 _ rfl) (Nat.le_of_ble_eq_true rfl) rfl rfl ?_
  refine ev_astore 19 (lv' := [_, _, _, _, _, some .null, _, _]) dX11_mix_17 (Nat.le_of_ble_eq_true rfl) rfl rfl ?_
  refine ev_aloadN 21 dX11_mix_19 rfl rfl ?_
  refine ev_ifnull_n 44 dX11_mix_21 (by decide) ?_
  refine ev_aload_n 45 dX11_mix_44 rfl rfl ?_
  refine ev_iconst 46 (v := -1) dX11_mix_45 (by decide +kernel) rfl ?_
  refine ev_invV 49 (Mc := mX11_refuse) ⟨lk303, lk75, hdX11_refuse, (Nat.le_of_ble_eq_true rfl), (Nat.le_of_ble_eq_true rfl)⟩ lk300 lk302 lk0 mm_cl11 rfl dX11_mix_46 (ct_refuse hV) rfl (hV.1 0 _ rfl) (Nat.le_of_ble_eq_true rfl) rfl rfl ?_
  exact ev_iret dX11_mix_49 rfl (rfl)
theorem cl_mix_g {d wa wb : Int32} (h1 : CA B I P x o n a) (hd : ¬ (0 ≤ d ∧ d < nI n)) : Ct g mX11_mix [.ref x, .int (nI a), .int d, .int wa, .int wb] B I J P (some (.int (-1)), B, vst I x (-1), J, P) := by
  have ca := ca_t (g := g) (J := J) h1
  obtain ⟨hV, hC, hxo, hx, h8, hk, hP⟩ := h1
  refine ct_of (lv := [some (.ref x), some (.int (nI (a))), some (.int (d)), some (.int (wa)), some (.int (wb)), none, none, none]) (by decide +kernel) (Nat.le_of_ble_eq_true rfl) rfl ?_
  refine ev_aload_n 1 dX11_mix_0 rfl rfl ?_
  refine ev_iconstN 2 0 dX11_mix_1 rfl ?_
  refine ev_putI 5 mm_cl11 (j := 9) (Nat.le_of_ble_eq_true rfl) dX11_mix_2 lk270 rfl (fun _ _ _ => rfl) rfl rfl (hV.1 0 _ rfl) rfl ?_
  refine ev_aload_n 6 dX11_mix_5 rfl rfl ?_
  refine ev_iload_n 7 dX11_mix_6 rfl rfl ?_
  refine ev_invV 10 (Mc := mX11_coderAt) ⟨lk570, lk75, hdX11_coderAt, (Nat.le_of_ble_eq_true rfl), (Nat.le_of_ble_eq_true rfl)⟩ lk567 lk569 lk1 mm_cl11 rfl dX11_mix_7 (ca) rfl (hV.1 0 _ rfl) (Nat.le_of_ble_eq_true rfl) rfl rfl ?_
  refine ev_astore 12 (lv' := [_, _, _, _, some (.int _), _, _, _]) dX11_mix_10 (Nat.le_of_ble_eq_true rfl) rfl rfl ?_
  refine ev_aload_n 13 dX11_mix_12 rfl rfl ?_
  refine ev_iload_n 14 dX11_mix_13 rfl rfl ?_
  refine ev_invV 17 (Mc := mX11_coderAt) ⟨lk570, lk75, hdX11_coderAt, (Nat.le_of_ble_eq_true rfl), (Nat.le_of_ble_eq_true rfl)⟩ lk567 lk569 lk1 mm_cl11 rfl dX11_mix_14 (ca_f hV hx hd) rfl (hV.1 0 _ rfl) (Nat.le_of_ble_eq_true rfl) rfl rfl ?_
  refine ev_astoreN 19 (lv' := [_, _, _, _, _, some (.ref _), _, _]) dX11_mix_17 (Nat.le_of_ble_eq_true rfl) rfl rfl ?_
  refine ev_aload 21 dX11_mix_19 rfl rfl ?_
  refine ev_ifnull_r 24 dX11_mix_21 rfl ?_
  refine ev_aloadN 26 dX11_mix_24 rfl rfl ?_
  refine ev_ifnull_n 44 dX11_mix_26 (by decide) ?_
  refine ev_aload_n 45 dX11_mix_44 rfl rfl ?_
  refine ev_iconst 46 (v := -1) dX11_mix_45 (by decide +kernel) rfl ?_
  refine ev_invV 49 (Mc := mX11_refuse) ⟨lk303, lk75, hdX11_refuse, (Nat.le_of_ble_eq_true rfl), (Nat.le_of_ble_eq_true rfl)⟩ lk300 lk302 lk0 mm_cl11 rfl dX11_mix_46 (ct_refuse hV) rfl (hV.1 0 _ rfl) (Nat.le_of_ble_eq_true rfl) rfl rfl ?_
  exact ev_iret dX11_mix_49 rfl (rfl)
theorem cl_mix_b {wa wb : Int32} (h1 : CA B I P x o n a) (h2 : CA B I P x p n b) (hw : ¬ (-32 ≤ wa ∧ wa ≤ nI 32)) : Ct g mX11_mix [.ref x, .int (nI a), .int (nI b), .int wa, .int wb] B I J P (some (.int (-1)), B, vst I x (-1), J, P) := by
  have ca := ca_t (g := g) (J := J) h1
  have cb := ca_t (g := g) (J := J) h2
  obtain ⟨hV, hC, hxo, hx, h8, hk, hP⟩ := h1
  have tp : mm_T B p = 100 := h2.2.1.1 0 _ rfl
  refine ct_of (lv := [some (.ref x), some (.int (nI (a))), some (.int (nI (b))), some (.int (wa)), some (.int (wb)), none, none, none]) (by decide +kernel) (Nat.le_of_ble_eq_true rfl) rfl ?_
  refine ev_aload_n 1 dX11_mix_0 rfl rfl ?_
  refine ev_iconstN 2 0 dX11_mix_1 rfl ?_
  refine ev_putI 5 mm_cl11 (j := 9) (Nat.le_of_ble_eq_true rfl) dX11_mix_2 lk270 rfl (fun _ _ _ => rfl) rfl rfl (hV.1 0 _ rfl) rfl ?_
  refine ev_aload_n 6 dX11_mix_5 rfl rfl ?_
  refine ev_iload_n 7 dX11_mix_6 rfl rfl ?_
  refine ev_invV 10 (Mc := mX11_coderAt) ⟨lk570, lk75, hdX11_coderAt, (Nat.le_of_ble_eq_true rfl), (Nat.le_of_ble_eq_true rfl)⟩ lk567 lk569 lk1 mm_cl11 rfl dX11_mix_7 (ca) rfl (hV.1 0 _ rfl) (Nat.le_of_ble_eq_true rfl) rfl rfl ?_
  refine ev_astore 12 (lv' := [_, _, _, _, some (.int _), _, _, _]) dX11_mix_10 (Nat.le_of_ble_eq_true rfl) rfl rfl ?_
  refine ev_aload_n 13 dX11_mix_12 rfl rfl ?_
  refine ev_iload_n 14 dX11_mix_13 rfl rfl ?_
  refine ev_invV 17 (Mc := mX11_coderAt) ⟨lk570, lk75, hdX11_coderAt, (Nat.le_of_ble_eq_true rfl), (Nat.le_of_ble_eq_true rfl)⟩ lk567 lk569 lk1 mm_cl11 rfl dX11_mix_14 (cb) rfl (hV.1 0 _ rfl) (Nat.le_of_ble_eq_true rfl) rfl rfl ?_
  refine ev_astore 19 (lv' := [_, _, _, _, _, some (.ref _), _, _]) dX11_mix_17 (Nat.le_of_ble_eq_true rfl) rfl rfl ?_
  refine ev_aload 21 dX11_mix_19 rfl rfl ?_
  refine ev_ifnull_r 24 dX11_mix_21 rfl ?_
  refine ev_aload 26 dX11_mix_24 rfl rfl ?_
  refine ev_ifnull_r 29 dX11_mix_26 rfl ?_
  refine ev_iload_n 30 dX11_mix_29 rfl rfl ?_
  refine ev_invS 33 (Mc := mX11_isWeight) ⟨lk1218, lk75, hdX11_isWeight, (Nat.le_of_ble_eq_true rfl), (Nat.le_of_ble_eq_true rfl)⟩ lk1216 lk1217 dX11_mix_30 (ct_isWeight_f hw) rfl (Nat.le_of_ble_eq_true rfl) rfl rfl ?_
  refine ev_if_eqN 36 44 dX11_mix_33 (by decide) (by omega) rfl (fun hbr => ?_) (fun hx => absurd ((by omega)) hx)
  refine ev_aload_n 45 dX11_mix_44 rfl rfl ?_
  refine ev_iconst 46 (v := -1) dX11_mix_45 (by decide +kernel) rfl ?_
  refine ev_invV 49 (Mc := mX11_refuse) ⟨lk303, lk75, hdX11_refuse, (Nat.le_of_ble_eq_true rfl), (Nat.le_of_ble_eq_true rfl)⟩ lk300 lk302 lk0 mm_cl11 rfl dX11_mix_46 (ct_refuse hV) rfl (hV.1 0 _ rfl) (Nat.le_of_ble_eq_true rfl) rfl rfl ?_
  exact ev_iret dX11_mix_49 rfl (rfl)
theorem cl_mix_b2 {wa wb : Int32} (h1 : CA B I P x o n a) (h2 : CA B I P x p n b) (hwa : -32 ≤ wa ∧ wa ≤ nI 32) (hw : ¬ (-32 ≤ wb ∧ wb ≤ nI 32)) : Ct g mX11_mix [.ref x, .int (nI a), .int (nI b), .int wa, .int wb] B I J P (some (.int (-1)), B, vst I x (-1), J, P) := by
  have ca := ca_t (g := g) (J := J) h1
  have cb := ca_t (g := g) (J := J) h2
  obtain ⟨hV, hC, hxo, hx, h8, hk, hP⟩ := h1
  have tp : mm_T B p = 100 := h2.2.1.1 0 _ rfl
  refine ct_of (lv := [some (.ref x), some (.int (nI (a))), some (.int (nI (b))), some (.int (wa)), some (.int (wb)), none, none, none]) (by decide +kernel) (Nat.le_of_ble_eq_true rfl) rfl ?_
  refine ev_aload_n 1 dX11_mix_0 rfl rfl ?_
  refine ev_iconstN 2 0 dX11_mix_1 rfl ?_
  refine ev_putI 5 mm_cl11 (j := 9) (Nat.le_of_ble_eq_true rfl) dX11_mix_2 lk270 rfl (fun _ _ _ => rfl) rfl rfl (hV.1 0 _ rfl) rfl ?_
  refine ev_aload_n 6 dX11_mix_5 rfl rfl ?_
  refine ev_iload_n 7 dX11_mix_6 rfl rfl ?_
  refine ev_invV 10 (Mc := mX11_coderAt) ⟨lk570, lk75, hdX11_coderAt, (Nat.le_of_ble_eq_true rfl), (Nat.le_of_ble_eq_true rfl)⟩ lk567 lk569 lk1 mm_cl11 rfl dX11_mix_7 (ca) rfl (hV.1 0 _ rfl) (Nat.le_of_ble_eq_true rfl) rfl rfl ?_
  refine ev_astore 12 (lv' := [_, _, _, _, some (.int _), _, _, _]) dX11_mix_10 (Nat.le_of_ble_eq_true rfl) rfl rfl ?_
  refine ev_aload_n 13 dX11_mix_12 rfl rfl ?_
  refine ev_iload_n 14 dX11_mix_13 rfl rfl ?_
  refine ev_invV 17 (Mc := mX11_coderAt) ⟨lk570, lk75, hdX11_coderAt, (Nat.le_of_ble_eq_true rfl), (Nat.le_of_ble_eq_true rfl)⟩ lk567 lk569 lk1 mm_cl11 rfl dX11_mix_14 (cb) rfl (hV.1 0 _ rfl) (Nat.le_of_ble_eq_true rfl) rfl rfl ?_
  refine ev_astore 19 (lv' := [_, _, _, _, _, some (.ref _), _, _]) dX11_mix_17 (Nat.le_of_ble_eq_true rfl) rfl rfl ?_
  refine ev_aload 21 dX11_mix_19 rfl rfl ?_
  refine ev_ifnull_r 24 dX11_mix_21 rfl ?_
  refine ev_aload 26 dX11_mix_24 rfl rfl ?_
  refine ev_ifnull_r 29 dX11_mix_26 rfl ?_
  refine ev_iload_n 30 dX11_mix_29 rfl rfl ?_
  refine ev_invS 33 (Mc := mX11_isWeight) ⟨lk1218, lk75, hdX11_isWeight, (Nat.le_of_ble_eq_true rfl), (Nat.le_of_ble_eq_true rfl)⟩ lk1216 lk1217 dX11_mix_30 (ct_isWeight_t hwa) rfl (Nat.le_of_ble_eq_true rfl) rfl rfl ?_
  refine ev_if_eqN 36 44 dX11_mix_33 (by decide) (by omega) rfl (fun hx => absurd hx ((by omega))) (fun hbr => ?_)
  refine ev_iload 38 dX11_mix_36 rfl rfl ?_
  refine ev_invS 41 (Mc := mX11_isWeight) ⟨lk1218, lk75, hdX11_isWeight, (Nat.le_of_ble_eq_true rfl), (Nat.le_of_ble_eq_true rfl)⟩ lk1216 lk1217 dX11_mix_38 (ct_isWeight_f hw) rfl (Nat.le_of_ble_eq_true rfl) rfl rfl ?_
  refine ev_if_neN 44 50 dX11_mix_41 (by decide) (by omega) rfl (fun hx => absurd ((by omega)) hx) (fun hbr => ?_)
  refine ev_aload_n 45 dX11_mix_44 rfl rfl ?_
  refine ev_iconst 46 (v := -1) dX11_mix_45 (by decide +kernel) rfl ?_
  refine ev_invV 49 (Mc := mX11_refuse) ⟨lk303, lk75, hdX11_refuse, (Nat.le_of_ble_eq_true rfl), (Nat.le_of_ble_eq_true rfl)⟩ lk300 lk302 lk0 mm_cl11 rfl dX11_mix_46 (ct_refuse hV) rfl (hV.1 0 _ rfl) (Nat.le_of_ble_eq_true rfl) rfl rfl ?_
  exact ev_iret dX11_mix_49 rfl (rfl)
theorem cl_mix_s {wa wb : Int32} (h1 : CA B I P x o n a) (h2 : CA B I P x p n b) (hwa : -32 ≤ wa ∧ wa ≤ nI 32) (hwb : -32 ≤ wb ∧ wb ≤ nI 32) (hd : I (o + 17) 15 = nI 0) : Ct g mX11_mix [.ref x, .int (nI a), .int (nI b), .int wa, .int wb] B I J P (some (.int (-2)), B, vst I x (-2), J, P) := by
  have ca := ca_t (g := g) (J := J) h1
  have cb := ca_t (g := g) (J := J) h2
  obtain ⟨hV, hC, hxo, hx, h8, hk, hP⟩ := h1
  have tp : mm_T B p = 100 := h2.2.1.1 0 _ rfl
  refine ct_of (lv := [some (.ref x), some (.int (nI (a))), some (.int (nI (b))), some (.int (wa)), some (.int (wb)), none, none, none]) (by decide +kernel) (Nat.le_of_ble_eq_true rfl) rfl ?_
  refine ev_aload_n 1 dX11_mix_0 rfl rfl ?_
  refine ev_iconstN 2 0 dX11_mix_1 rfl ?_
  refine ev_putI 5 mm_cl11 (j := 9) (Nat.le_of_ble_eq_true rfl) dX11_mix_2 lk270 rfl (fun _ _ _ => rfl) rfl rfl (hV.1 0 _ rfl) rfl ?_
  refine ev_aload_n 6 dX11_mix_5 rfl rfl ?_
  refine ev_iload_n 7 dX11_mix_6 rfl rfl ?_
  refine ev_invV 10 (Mc := mX11_coderAt) ⟨lk570, lk75, hdX11_coderAt, (Nat.le_of_ble_eq_true rfl), (Nat.le_of_ble_eq_true rfl)⟩ lk567 lk569 lk1 mm_cl11 rfl dX11_mix_7 (ca) rfl (hV.1 0 _ rfl) (Nat.le_of_ble_eq_true rfl) rfl rfl ?_
  refine ev_astore 12 (lv' := [_, _, _, _, some (.int _), _, _, _]) dX11_mix_10 (Nat.le_of_ble_eq_true rfl) rfl rfl ?_
  refine ev_aload_n 13 dX11_mix_12 rfl rfl ?_
  refine ev_iload_n 14 dX11_mix_13 rfl rfl ?_
  refine ev_invV 17 (Mc := mX11_coderAt) ⟨lk570, lk75, hdX11_coderAt, (Nat.le_of_ble_eq_true rfl), (Nat.le_of_ble_eq_true rfl)⟩ lk567 lk569 lk1 mm_cl11 rfl dX11_mix_14 (cb) rfl (hV.1 0 _ rfl) (Nat.le_of_ble_eq_true rfl) rfl rfl ?_
  refine ev_astore 19 (lv' := [_, _, _, _, _, some (.ref _), _, _]) dX11_mix_17 (Nat.le_of_ble_eq_true rfl) rfl rfl ?_
  refine ev_aload 21 dX11_mix_19 rfl rfl ?_
  refine ev_ifnull_r 24 dX11_mix_21 rfl ?_
  refine ev_aload 26 dX11_mix_24 rfl rfl ?_
  refine ev_ifnull_r 29 dX11_mix_26 rfl ?_
  refine ev_iload_n 30 dX11_mix_29 rfl rfl ?_
  refine ev_invS 33 (Mc := mX11_isWeight) ⟨lk1218, lk75, hdX11_isWeight, (Nat.le_of_ble_eq_true rfl), (Nat.le_of_ble_eq_true rfl)⟩ lk1216 lk1217 dX11_mix_30 (ct_isWeight_t hwa) rfl (Nat.le_of_ble_eq_true rfl) rfl rfl ?_
  refine ev_if_eqN 36 44 dX11_mix_33 (by decide) (by omega) rfl (fun hx => absurd hx ((by omega))) (fun hbr => ?_)
  refine ev_iload 38 dX11_mix_36 rfl rfl ?_
  refine ev_invS 41 (Mc := mX11_isWeight) ⟨lk1218, lk75, hdX11_isWeight, (Nat.le_of_ble_eq_true rfl), (Nat.le_of_ble_eq_true rfl)⟩ lk1216 lk1217 dX11_mix_38 (ct_isWeight_t hwb) rfl (Nat.le_of_ble_eq_true rfl) rfl rfl ?_
  refine ev_if_neN 44 50 dX11_mix_41 (by decide) (by omega) rfl (fun hbr => ?_) (fun hx => absurd hx ((by omega)))
  refine ev_aload 52 dX11_mix_50 rfl rfl ?_
  refine ev_getP 55 mm_cl0 (j := 4) (Nat.le_of_ble_eq_true rfl) dX11_mix_52 lk551 (fun _ _ _ => rfl) (hC.1 0 _ rfl) (a := (o + 17)) (hC.2.2.1 3 _ _ _ rfl) rfl ?_
  refine ev_getI 58 mm_cl1 (j := 15) (Nat.le_of_ble_eq_true rfl) dX11_mix_55 lk497 (fun _ _ _ => rfl) (hC.1 17 _ rfl) rfl ?_
  refine ev_eqI (y := nI (0)) ((vzk hd (by omega))) ?_
  refine ev_if_eqN 61 72 dX11_mix_58 (by decide) (by omega) rfl (fun hbr => ?_) (fun hx => absurd ((by omega)) hx)
  refine ev_aload_n 73 dX11_mix_72 rfl rfl ?_
  refine ev_bipush 75 (v := -2) dX11_mix_73 (by decide +kernel) rfl ?_
  refine ev_invV 78 (Mc := mX11_refuse) ⟨lk303, lk75, hdX11_refuse, (Nat.le_of_ble_eq_true rfl), (Nat.le_of_ble_eq_true rfl)⟩ lk300 lk302 lk0 mm_cl11 rfl dX11_mix_75 (ct_refuse hV) rfl (hV.1 0 _ rfl) (Nat.le_of_ble_eq_true rfl) rfl rfl ?_
  exact ev_iret dX11_mix_78 rfl (rfl)
theorem cl_mix_s2 {wa wb : Int32} {da : Nat} (h1 : CA B I P x o n a) (h2 : CA B I P x p n b) (hwa : -32 ≤ wa ∧ wa ≤ nI 32) (hwb : -32 ≤ wb ∧ wb ≤ nI 32) (hd : I (o + 17) 15 = nI da) (d0 : 0 < da) (d1 : da < 2 ^ 31) (he : I (p + 17) 15 = nI 0) : Ct g mX11_mix [.ref x, .int (nI a), .int (nI b), .int wa, .int wb] B I J P (some (.int (-2)), B, vst I x (-2), J, P) := by
  have ca := ca_t (g := g) (J := J) h1
  have cb := ca_t (g := g) (J := J) h2
  obtain ⟨hV, hC, hxo, hx, h8, hk, hP⟩ := h1
  obtain ⟨-, hD, hxp, -⟩ := h2
  have tp : mm_T B p = 100 := hD.1 0 _ rfl
  have tq : mm_T B (p + 17) = 101 := hD.1 17 _ rfl
  refine ct_of (lv := [some (.ref x), some (.int (nI (a))), some (.int (nI (b))), some (.int (wa)), some (.int (wb)), none, none, none]) (by decide +kernel) (Nat.le_of_ble_eq_true rfl) rfl ?_
  refine ev_aload_n 1 dX11_mix_0 rfl rfl ?_
  refine ev_iconstN 2 0 dX11_mix_1 rfl ?_
  refine ev_putI 5 mm_cl11 (j := 9) (Nat.le_of_ble_eq_true rfl) dX11_mix_2 lk270 rfl (fun _ _ _ => rfl) rfl rfl (hV.1 0 _ rfl) rfl ?_
  refine ev_aload_n 6 dX11_mix_5 rfl rfl ?_
  refine ev_iload_n 7 dX11_mix_6 rfl rfl ?_
  refine ev_invV 10 (Mc := mX11_coderAt) ⟨lk570, lk75, hdX11_coderAt, (Nat.le_of_ble_eq_true rfl), (Nat.le_of_ble_eq_true rfl)⟩ lk567 lk569 lk1 mm_cl11 rfl dX11_mix_7 (ca) rfl (hV.1 0 _ rfl) (Nat.le_of_ble_eq_true rfl) rfl rfl ?_
  refine ev_astore 12 (lv' := [_, _, _, _, some (.int _), _, _, _]) dX11_mix_10 (Nat.le_of_ble_eq_true rfl) rfl rfl ?_
  refine ev_aload_n 13 dX11_mix_12 rfl rfl ?_
  refine ev_iload_n 14 dX11_mix_13 rfl rfl ?_
  refine ev_invV 17 (Mc := mX11_coderAt) ⟨lk570, lk75, hdX11_coderAt, (Nat.le_of_ble_eq_true rfl), (Nat.le_of_ble_eq_true rfl)⟩ lk567 lk569 lk1 mm_cl11 rfl dX11_mix_14 (cb) rfl (hV.1 0 _ rfl) (Nat.le_of_ble_eq_true rfl) rfl rfl ?_
  refine ev_astore 19 (lv' := [_, _, _, _, _, some (.ref _), _, _]) dX11_mix_17 (Nat.le_of_ble_eq_true rfl) rfl rfl ?_
  refine ev_aload 21 dX11_mix_19 rfl rfl ?_
  refine ev_ifnull_r 24 dX11_mix_21 rfl ?_
  refine ev_aload 26 dX11_mix_24 rfl rfl ?_
  refine ev_ifnull_r 29 dX11_mix_26 rfl ?_
  refine ev_iload_n 30 dX11_mix_29 rfl rfl ?_
  refine ev_invS 33 (Mc := mX11_isWeight) ⟨lk1218, lk75, hdX11_isWeight, (Nat.le_of_ble_eq_true rfl), (Nat.le_of_ble_eq_true rfl)⟩ lk1216 lk1217 dX11_mix_30 (ct_isWeight_t hwa) rfl (Nat.le_of_ble_eq_true rfl) rfl rfl ?_
  refine ev_if_eqN 36 44 dX11_mix_33 (by decide) (by omega) rfl (fun hx => absurd hx ((by omega))) (fun hbr => ?_)
  refine ev_iload 38 dX11_mix_36 rfl rfl ?_
  refine ev_invS 41 (Mc := mX11_isWeight) ⟨lk1218, lk75, hdX11_isWeight, (Nat.le_of_ble_eq_true rfl), (Nat.le_of_ble_eq_true rfl)⟩ lk1216 lk1217 dX11_mix_38 (ct_isWeight_t hwb) rfl (Nat.le_of_ble_eq_true rfl) rfl rfl ?_
  refine ev_if_neN 44 50 dX11_mix_41 (by decide) (by omega) rfl (fun hbr => ?_) (fun hx => absurd hx ((by omega)))
  refine ev_aload 52 dX11_mix_50 rfl rfl ?_
  refine ev_getP 55 mm_cl0 (j := 4) (Nat.le_of_ble_eq_true rfl) dX11_mix_52 lk551 (fun _ _ _ => rfl) (hC.1 0 _ rfl) (a := (o + 17)) (hC.2.2.1 3 _ _ _ rfl) rfl ?_
  refine ev_getI 58 mm_cl1 (j := 15) (Nat.le_of_ble_eq_true rfl) dX11_mix_55 lk497 (fun _ _ _ => rfl) (hC.1 17 _ rfl) rfl ?_
  refine ev_eqI (y := nI (da)) ((vzk hd (by omega))) ?_
  refine ev_if_eqN 61 72 dX11_mix_58 (by decide) (by omega) rfl (fun hx => absurd hx ((by omega))) (fun hbr => ?_)
  refine ev_aload 63 dX11_mix_61 rfl rfl ?_
  refine ev_getP 66 mm_cl0 (j := 4) (Nat.le_of_ble_eq_true rfl) dX11_mix_63 lk551 (fun _ _ _ => rfl) tp (a := (p + 17)) (hD.2.2.1 3 _ _ _ rfl) rfl ?_
  refine ev_getI 69 mm_cl1 (j := 15) (Nat.le_of_ble_eq_true rfl) dX11_mix_66 lk497 (fun _ _ _ => rfl) tq rfl ?_
  refine ev_eqI (y := nI (0)) ((vzk he (by omega))) ?_
  refine ev_if_neN 72 79 dX11_mix_69 (by decide) (by omega) rfl (fun hx => absurd ((by omega)) hx) (fun hbr => ?_)
  refine ev_aload_n 73 dX11_mix_72 rfl rfl ?_
  refine ev_bipush 75 (v := -2) dX11_mix_73 (by decide +kernel) rfl ?_
  refine ev_invV 78 (Mc := mX11_refuse) ⟨lk303, lk75, hdX11_refuse, (Nat.le_of_ble_eq_true rfl), (Nat.le_of_ble_eq_true rfl)⟩ lk300 lk302 lk0 mm_cl11 rfl dX11_mix_75 (ct_refuse hV) rfl (hV.1 0 _ rfl) (Nat.le_of_ble_eq_true rfl) rfl rfl ?_
  exact ev_iret dX11_mix_78 rfl (rfl)
theorem lx_mix {wa wb : Int32} {N : Nat} {A C : Nat → Int32} {I0 : mm_TI} (hV : lyV B P x) (hC : lyC B P x o) (hD : lyC B P x p) (hxo : x + 22 ≤ o) (hxp : x + 22 ≤ p) (hN : N ≤ 321) (h8 : I0 x 8 = nI N) (hA : ∀ i, i < N → I0 (o + 28) i = A i) (hB : ∀ i, i < N → I0 (p + 28) i = C i) : ∀ (d i : Nat), i + d = N →
    Ev g mX11_mix 105 [some (.ref x), some (.int (nI a)), some (.int (nI b)), some (.int wa), some (.int wb), some (.ref o), some (.ref p), some (.int (nI i))] [] B (va_up I0 (x + 21) (sgp (I0 (x + 21)) 0 i (mxv wa wb A C))) (sp_up J (x + 1) 3 (mxT wa wb A C i)) P (some (.int (nI N)), B, va_up I0 (x + 21) (sgp (I0 (x + 21)) 0 N (mxv wa wb A C)), sp_up J (x + 1) 3 (mxT wa wb A C N), P) := by
  have tp : mm_T B p = 100 := hD.1 0 _ rfl
  have tq : mm_T B (p + 17) = 101 := hD.1 17 _ rfl
  have t28 : mm_T B (p + 28) = 200 := hD.1 28 _ rfl
  have n28 : mm_N B (p + 28) = 321 := hD.2.1 28 _ rfl
  intro d
  induction d with
  | zero =>
    intro i hi
    obtain rfl : i = N := by omega
    refine ev_iload 107 dX11_mix_105 rfl rfl ?_
    refine ev_aload_n 108 dX11_mix_107 rfl rfl ?_
    refine ev_getI 111 mm_cl11 (j := 8) (Nat.le_of_ble_eq_true rfl) dX11_mix_108 lk269 (fun _ _ _ => rfl) (hV.1 0 _ rfl) rfl ?_
    refine ev_eqI (y := nI (i)) ((by rw [va_up_n _ _ (by omega)]; exact h8)) ?_
    refine ev_icmp_geN 114 165 dX11_mix_111 (by decide) (by omega) (by omega) rfl (fun hbr => ?_) (fun hx => absurd ((by omega)) hx)
    refine ev_aload_n 166 dX11_mix_165 rfl rfl ?_
    refine ev_getI 169 mm_cl11 (j := 8) (Nat.le_of_ble_eq_true rfl) dX11_mix_166 lk269 (fun _ _ _ => rfl) (hV.1 0 _ rfl) rfl ?_
    refine ev_eqI (y := nI (i)) ((by rw [va_up_n _ _ (by omega)]; exact h8)) ?_
    exact ev_iret dX11_mix_169 rfl (rfl)
  | succ d ih =>
    intro i hi
    have e := ih (i + 1) (by omega)
    have nr := fun J => ct_X10_narrow (g := g) (I := va_up I0 (x + 21) (sgp (I0 (x + 21)) 0 i (mxv wa wb A C))) (J := J) (w := mxw wa wb A C i) hV
    refine ev_iload 107 dX11_mix_105 rfl rfl ?_
    refine ev_aload_n 108 dX11_mix_107 rfl rfl ?_
    refine ev_getI 111 mm_cl11 (j := 8) (Nat.le_of_ble_eq_true rfl) dX11_mix_108 lk269 (fun _ _ _ => rfl) (hV.1 0 _ rfl) rfl ?_
    refine ev_eqI (y := nI (N)) ((by rw [va_up_n _ _ (by omega)]; exact h8)) ?_
    refine ev_icmp_geN 114 165 dX11_mix_111 (by decide) (by omega) (by omega) rfl (fun hx => absurd hx ((by omega))) (fun hbr => ?_)
    refine ev_aload_n 115 dX11_mix_114 rfl rfl ?_
    refine ev_getP 118 mm_cl11 (j := 7) (Nat.le_of_ble_eq_true rfl) dX11_mix_115 lk268 (fun _ _ _ => rfl) (hV.1 0 _ rfl) (a := (x + 21)) (hV.2.2 5 _ _ _ rfl) rfl ?_
    refine ev_iload 120 dX11_mix_118 rfl rfl ?_
    refine ev_aload_n 121 dX11_mix_120 rfl rfl ?_
    refine ev_getP 124 mm_cl11 (j := 0) (Nat.le_of_ble_eq_true rfl) dX11_mix_121 lk261 (fun _ _ _ => rfl) (hV.1 0 _ rfl) (a := (x + 1)) (hV.2.2 0 _ _ _ rfl) rfl ?_
    refine ev_iload_n 125 dX11_mix_124 rfl rfl ?_
    refine ev_aload 127 dX11_mix_125 rfl rfl ?_
    refine ev_getP 130 mm_cl0 (j := 4) (Nat.le_of_ble_eq_true rfl) dX11_mix_127 lk551 (fun _ _ _ => rfl) (hC.1 0 _ rfl) (a := (o + 17)) (hC.2.2.1 3 _ _ _ rfl) rfl ?_
    refine ev_getP 133 mm_cl1 (j := 5) (Nat.le_of_ble_eq_true rfl) dX11_mix_130 lk480 (fun _ _ _ => rfl) (hC.1 17 _ rfl) (a := (o + 28)) (hC.2.2.1 16 _ _ _ rfl) rfl ?_
    refine ev_iload 135 dX11_mix_133 rfl rfl ?_
    refine ev_iald 136 _ dX11_mix_135 (hC.1 28 _ rfl) rfl (by have hNN := hC.2.1 28 _ rfl; omega) rfl ?_
    refine ev_eqI (y := ((A i))) ((by rw [va_up_n _ _ (by omega)]; exact hA i (by omega))) ?_
    refine ev_imul 137 dX11_mix_136 rfl ?_
    refine ev_iload 139 dX11_mix_137 rfl rfl ?_
    refine ev_aload 141 dX11_mix_139 rfl rfl ?_
    refine ev_getP 144 mm_cl0 (j := 4) (Nat.le_of_ble_eq_true rfl) dX11_mix_141 lk551 (fun _ _ _ => rfl) tp (a := (p + 17)) (hD.2.2.1 3 _ _ _ rfl) rfl ?_
    refine ev_getP 147 mm_cl1 (j := 5) (Nat.le_of_ble_eq_true rfl) dX11_mix_144 lk480 (fun _ _ _ => rfl) tq (a := (p + 28)) (hD.2.2.1 16 _ _ _ rfl) rfl ?_
    refine ev_iload 149 dX11_mix_147 rfl rfl ?_
    refine ev_iald 150 _ dX11_mix_149 t28 rfl (by omega) rfl ?_
    refine ev_eqI (y := ((C i))) ((by rw [va_up_n _ _ (by omega)]; exact hB i (by omega))) ?_
    refine ev_imul 151 dX11_mix_150 rfl ?_
    refine ev_iadd 152 dX11_mix_151 rfl ?_
    refine ev_iconstN 153 5 dX11_mix_152 rfl ?_
    refine ev_ishr 154 dX11_mix_153 rfl ?_
    refine ev_i2l 155 dX11_mix_154 rfl ?_
    refine ev_invV 158 (Mc := mX10_narrow) ⟨lk674, lk76, hdX10_narrow, (Nat.le_of_ble_eq_true rfl), (Nat.le_of_ble_eq_true rfl)⟩ lk1220 lk672 lk673 mm_cl10 rfl dX11_mix_155 (nr _) rfl (hV.1 1 _ rfl) (Nat.le_of_ble_eq_true rfl) rfl rfl ?_
    refine ev_iast 159 _ dX11_mix_158 (hV.1 21 _ rfl) rfl (by have hNN := hV.2.1 21 _ rfl; omega) rfl ?_
    rw [va_up_s, bx_uu, sp_up_up, show va_up (sgp (I0 (x + 21)) 0 i (mxv wa wb A C)) i (sp_S (mxw wa wb A C i)) = sgp (I0 (x + 21)) 0 (i + 1) (mxv wa wb A C) by have := sgp_grow (f := I0 (x + 21)) (off := 0) (n := i) (v := mxv wa wb A C) rfl; rw [Nat.zero_add] at this; exact this]
    refine ev_iincN 162 (lv' := [_, _, _, _, _, _, some (.ref _), _]) 1 dX11_mix_159 rfl (Nat.le_of_ble_eq_true rfl) rfl rfl ?_
    refine ev_goto 105 dX11_mix_162 (by decide) ?_
    exact e
theorem cl_mix_t {wa wb : Int32} {da db oa ob N : Nat} {A C : Nat → Int32} (h1 : CA B I P x o n a) (h2 : CA B I P x p n b) (hwa : -32 ≤ wa ∧ wa ≤ nI 32) (hwb : -32 ≤ wb ∧ wb ≤ nI 32) (hd : I (o + 17) 15 = nI da) (d0 : 0 < da) (d1 : da < 2 ^ 31) (he : I (p + 17) 15 = nI db) (e0 : 0 < db) (e1 : db < 2 ^ 31) (o1 : I (o + 17) 6 = nI oa) (o2 : I (p + 17) 6 = nI ob) (oa3 : oa ≤ 321) (ob3 : ob ≤ 321) (hN : N = min oa ob) (hA : ∀ i, i < N → I (o + 28) i = A i) (hB : ∀ i, i < N → I (p + 28) i = C i) :
    Ct g mX11_mix [.ref x, .int (nI a), .int (nI b), .int wa, .int wb] B I J P (some (.int (nI N)), B, va_up (va_up (vz I x) x (va_up (vz I x x) 8 (nI N))) (x + 21) (sgp (I (x + 21)) 0 N (mxv wa wb A C)), sp_up J (x + 1) 3 (mxT wa wb A C N), P) := by
  have ca := ca_t (g := g) (J := J) h1
  have cb := ca_t (g := g) (J := J) h2
  obtain ⟨hV, hC, hxo, hx, h8, hk, hP⟩ := h1
  obtain ⟨-, hD, hxp, -⟩ := h2
  have tp : mm_T B p = 100 := hD.1 0 _ rfl
  have tq : mm_T B (p + 17) = 101 := hD.1 17 _ rfl
  have N3 : N ≤ 321 := by rw [hN]; exact Nat.le_trans (Nat.min_le_left _ _) oa3
  have e := lx_mix (g := g) (J := J) (a := a) (b := b) (wa := wa) (wb := wb) (A := A) (C := C) (I0 := va_up (vz I x) x (va_up (vz I x x) 8 (nI N))) hV hC hD hxo hxp N3 (by rw [va_up_s, va_up_s]) (fun i hi => by rw [va_up_n _ _ (by omega)]; exact vzk (hA i hi) (by omega)) (fun i hi => by rw [va_up_n _ _ (by omega)]; exact vzk (hB i hi) (by omega)) N 0 (by omega)
  rw [sgp_0, va_up_id, show mxT wa wb A C 0 = 0 from rfl, sp_up_0, va_up_n _ _ (show x + 21 ≠ x by omega), show vz I x (x + 21) = I (x + 21) from va_up_n _ _ (by omega)] at e
  refine ct_of (lv := [some (.ref x), some (.int (nI a)), some (.int (nI b)), some (.int wa), some (.int wb), none, none, none]) (by decide +kernel) (Nat.le_of_ble_eq_true rfl) rfl ?_
  refine ev_aload_n 1 dX11_mix_0 rfl rfl ?_
  refine ev_iconstN 2 0 dX11_mix_1 rfl ?_
  refine ev_putI 5 mm_cl11 (j := 9) (Nat.le_of_ble_eq_true rfl) dX11_mix_2 lk270 rfl (fun _ _ _ => rfl) rfl rfl (hV.1 0 _ rfl) rfl ?_
  refine ev_aload_n 6 dX11_mix_5 rfl rfl ?_
  refine ev_iload_n 7 dX11_mix_6 rfl rfl ?_
  refine ev_invV 10 (Mc := mX11_coderAt) ⟨lk570, lk75, hdX11_coderAt, (Nat.le_of_ble_eq_true rfl), (Nat.le_of_ble_eq_true rfl)⟩ lk567 lk569 lk1 mm_cl11 rfl dX11_mix_7 (ca) rfl (hV.1 0 _ rfl) (Nat.le_of_ble_eq_true rfl) rfl rfl ?_
  refine ev_astore 12 (lv' := [_, _, _, _, some (.int _), _, _, _]) dX11_mix_10 (Nat.le_of_ble_eq_true rfl) rfl rfl ?_
  refine ev_aload_n 13 dX11_mix_12 rfl rfl ?_
  refine ev_iload_n 14 dX11_mix_13 rfl rfl ?_
  refine ev_invV 17 (Mc := mX11_coderAt) ⟨lk570, lk75, hdX11_coderAt, (Nat.le_of_ble_eq_true rfl), (Nat.le_of_ble_eq_true rfl)⟩ lk567 lk569 lk1 mm_cl11 rfl dX11_mix_14 (cb) rfl (hV.1 0 _ rfl) (Nat.le_of_ble_eq_true rfl) rfl rfl ?_
  refine ev_astore 19 (lv' := [_, _, _, _, _, some (.ref _), _, _]) dX11_mix_17 (Nat.le_of_ble_eq_true rfl) rfl rfl ?_
  refine ev_aload 21 dX11_mix_19 rfl rfl ?_
  refine ev_ifnull_r 24 dX11_mix_21 rfl ?_
  refine ev_aload 26 dX11_mix_24 rfl rfl ?_
  refine ev_ifnull_r 29 dX11_mix_26 rfl ?_
  refine ev_iload_n 30 dX11_mix_29 rfl rfl ?_
  refine ev_invS 33 (Mc := mX11_isWeight) ⟨lk1218, lk75, hdX11_isWeight, (Nat.le_of_ble_eq_true rfl), (Nat.le_of_ble_eq_true rfl)⟩ lk1216 lk1217 dX11_mix_30 (ct_isWeight_t hwa) rfl (Nat.le_of_ble_eq_true rfl) rfl rfl ?_
  refine ev_if_eqN 36 44 dX11_mix_33 (by decide) (by omega) rfl (fun hx => absurd hx ((by omega))) (fun hbr => ?_)
  refine ev_iload 38 dX11_mix_36 rfl rfl ?_
  refine ev_invS 41 (Mc := mX11_isWeight) ⟨lk1218, lk75, hdX11_isWeight, (Nat.le_of_ble_eq_true rfl), (Nat.le_of_ble_eq_true rfl)⟩ lk1216 lk1217 dX11_mix_38 (ct_isWeight_t hwb) rfl (Nat.le_of_ble_eq_true rfl) rfl rfl ?_
  refine ev_if_neN 44 50 dX11_mix_41 (by decide) (by omega) rfl (fun hbr => ?_) (fun hx => absurd hx ((by omega)))
  refine ev_aload 52 dX11_mix_50 rfl rfl ?_
  refine ev_getP 55 mm_cl0 (j := 4) (Nat.le_of_ble_eq_true rfl) dX11_mix_52 lk551 (fun _ _ _ => rfl) (hC.1 0 _ rfl) (a := (o + 17)) (hC.2.2.1 3 _ _ _ rfl) rfl ?_
  refine ev_getI 58 mm_cl1 (j := 15) (Nat.le_of_ble_eq_true rfl) dX11_mix_55 lk497 (fun _ _ _ => rfl) (hC.1 17 _ rfl) rfl ?_
  refine ev_eqI (y := nI (da)) ((vzk hd (by omega))) ?_
  refine ev_if_eqN 61 72 dX11_mix_58 (by decide) (by omega) rfl (fun hx => absurd hx ((by omega))) (fun hbr => ?_)
  refine ev_aload 63 dX11_mix_61 rfl rfl ?_
  refine ev_getP 66 mm_cl0 (j := 4) (Nat.le_of_ble_eq_true rfl) dX11_mix_63 lk551 (fun _ _ _ => rfl) tp (a := (p + 17)) (hD.2.2.1 3 _ _ _ rfl) rfl ?_
  refine ev_getI 69 mm_cl1 (j := 15) (Nat.le_of_ble_eq_true rfl) dX11_mix_66 lk497 (fun _ _ _ => rfl) tq rfl ?_
  refine ev_eqI (y := nI (db)) ((vzk he (by omega))) ?_
  refine ev_if_neN 72 79 dX11_mix_69 (by decide) (by omega) rfl (fun hbr => ?_) (fun hx => absurd hx ((by omega)))
  refine ev_aload_n 80 dX11_mix_79 rfl rfl ?_
  refine ev_aload 82 dX11_mix_80 rfl rfl ?_
  refine ev_getP 85 mm_cl0 (j := 4) (Nat.le_of_ble_eq_true rfl) dX11_mix_82 lk551 (fun _ _ _ => rfl) (hC.1 0 _ rfl) (a := (o + 17)) (hC.2.2.1 3 _ _ _ rfl) rfl ?_
  refine ev_getI 88 mm_cl1 (j := 6) (Nat.le_of_ble_eq_true rfl) dX11_mix_85 lk482 (fun _ _ _ => rfl) (hC.1 17 _ rfl) rfl ?_
  refine ev_eqI (y := nI (oa)) ((vzk o1 (by omega))) ?_
  refine ev_aload 90 dX11_mix_88 rfl rfl ?_
  refine ev_getP 93 mm_cl0 (j := 4) (Nat.le_of_ble_eq_true rfl) dX11_mix_90 lk551 (fun _ _ _ => rfl) tp (a := (p + 17)) (hD.2.2.1 3 _ _ _ rfl) rfl ?_
  refine ev_getI 96 mm_cl1 (j := 6) (Nat.le_of_ble_eq_true rfl) dX11_mix_93 lk482 (fun _ _ _ => rfl) tq rfl ?_
  refine ev_eqI (y := nI (ob)) ((vzk o2 (by omega))) ?_
  refine ev_min 99 dX11_mix_96 lk1219 lk759 lk87 lk760 (Nat.le_of_ble_eq_true rfl) (Nat.le_of_ble_eq_true rfl) (Nat.le_of_ble_eq_true rfl) rfl ?_
  refine ev_eqI (y := nI (N)) ((by rw [hN]; exact nI_min (by omega) (by omega))) ?_
  refine ev_putI 102 mm_cl11 (j := 8) (Nat.le_of_ble_eq_true rfl) dX11_mix_99 lk269 rfl (fun _ _ _ => rfl) rfl rfl (hV.1 0 _ rfl) rfl ?_
  refine ev_iconstN 103 0 dX11_mix_102 rfl ?_
  refine ev_istore 105 (lv' := [_, _, _, _, _, _, some (.ref _), _]) dX11_mix_103 (Nat.le_of_ble_eq_true rfl) rfl rfl ?_
  exact e
theorem ml_mix_f {c d wa wb : Int32} (hM : lyM B P m) (hn : I m 0 = nI n) (hc : ¬ (0 ≤ c ∧ c < nI n)) : Ct g mX12_mix [.ref m, .int c, .int d, .int wa, .int wb] B I J P (some (.int (-1)), B, mo_st I m (-1), J, P) := by
  refine ct_of (lv := [some (.ref m), some (.int (c)), some (.int (d)), some (.int (wa)), some (.int (wb)), none]) (by decide +kernel) (Nat.le_of_ble_eq_true rfl) rfl ?_
  refine ev_aload_n 1 dX12_mix_0 rfl rfl ?_
  refine ev_iload_n 2 dX12_mix_1 rfl rfl ?_
  refine ev_invV 5 (Mc := mX12_isCoder) ⟨lk1552, lk80, hdX12_isCoder, (Nat.le_of_ble_eq_true rfl), (Nat.le_of_ble_eq_true rfl)⟩ lk1549 lk1551 lk40 mm_cl12 rfl dX12_mix_2 (ct_X12_isCoder_f hM (by rw [hn]; exact hc)) rfl (hM.1 0 _ rfl) (Nat.le_of_ble_eq_true rfl) rfl rfl ?_
  refine ev_if_eqN 8 39 dX12_mix_5 (by decide) (by omega) rfl (fun hbr => ?_) (fun hx => absurd ((by omega)) hx)
  refine ev_aload_n 40 dX12_mix_39 rfl rfl ?_
  refine ev_iconst 41 (v := -1) dX12_mix_40 (by decide +kernel) rfl ?_
  refine ev_invV 44 (Mc := mX12_refused) ⟨lk1540, lk80, hdX12_refused, (Nat.le_of_ble_eq_true rfl), (Nat.le_of_ble_eq_true rfl)⟩ lk1537 lk1539 lk38 mm_cl12 rfl dX12_mix_41 (ct_X12_refused hM) rfl (hM.1 0 _ rfl) (Nat.le_of_ble_eq_true rfl) rfl rfl ?_
  exact ev_iret dX12_mix_44 rfl (rfl)
theorem ml_mix_g {d wa wb : Int32} (h : MA B I P m n a) (hd : ¬ (0 ≤ d ∧ d < nI n)) : Ct g mX12_mix [.ref m, .int (nI a), .int d, .int wa, .int wb] B I J P (some (.int (-1)), B, mo_st I m (-1), J, P) := by
  obtain ⟨hM, hn, h8, hk⟩ := h
  refine ct_of (lv := [some (.ref m), some (.int (nI (a))), some (.int (d)), some (.int (wa)), some (.int (wb)), none]) (by decide +kernel) (Nat.le_of_ble_eq_true rfl) rfl ?_
  refine ev_aload_n 1 dX12_mix_0 rfl rfl ?_
  refine ev_iload_n 2 dX12_mix_1 rfl rfl ?_
  refine ev_invV 5 (Mc := mX12_isCoder) ⟨lk1552, lk80, hdX12_isCoder, (Nat.le_of_ble_eq_true rfl), (Nat.le_of_ble_eq_true rfl)⟩ lk1549 lk1551 lk40 mm_cl12 rfl dX12_mix_2 (ct_X12_isCoder_t hM hn h8 hk) rfl (hM.1 0 _ rfl) (Nat.le_of_ble_eq_true rfl) rfl rfl ?_
  refine ev_if_eqN 8 39 dX12_mix_5 (by decide) (by omega) rfl (fun hx => absurd hx ((by omega))) (fun hbr => ?_)
  refine ev_aload_n 9 dX12_mix_8 rfl rfl ?_
  refine ev_iload_n 10 dX12_mix_9 rfl rfl ?_
  refine ev_invV 13 (Mc := mX12_isCoder) ⟨lk1552, lk80, hdX12_isCoder, (Nat.le_of_ble_eq_true rfl), (Nat.le_of_ble_eq_true rfl)⟩ lk1549 lk1551 lk40 mm_cl12 rfl dX12_mix_10 (ct_X12_isCoder_f hM (by rw [hn]; exact hd)) rfl (hM.1 0 _ rfl) (Nat.le_of_ble_eq_true rfl) rfl rfl ?_
  refine ev_if_eqN 16 39 dX12_mix_13 (by decide) (by omega) rfl (fun hbr => ?_) (fun hx => absurd ((by omega)) hx)
  refine ev_aload_n 40 dX12_mix_39 rfl rfl ?_
  refine ev_iconst 41 (v := -1) dX12_mix_40 (by decide +kernel) rfl ?_
  refine ev_invV 44 (Mc := mX12_refused) ⟨lk1540, lk80, hdX12_refused, (Nat.le_of_ble_eq_true rfl), (Nat.le_of_ble_eq_true rfl)⟩ lk1537 lk1539 lk38 mm_cl12 rfl dX12_mix_41 (ct_X12_refused hM) rfl (hM.1 0 _ rfl) (Nat.le_of_ble_eq_true rfl) rfl rfl ?_
  exact ev_iret dX12_mix_44 rfl (rfl)
theorem ml_mix_b {wa wb : Int32} (h : MA B I P m n a) (hb : b < n) (hw : ¬ (-32 ≤ wa ∧ wa ≤ nI 32)) : Ct g mX12_mix [.ref m, .int (nI a), .int (nI b), .int wa, .int wb] B I J P (some (.int (-1)), B, mo_st I m (-1), J, P) := by
  obtain ⟨hM, hn, h8, hk⟩ := h
  refine ct_of (lv := [some (.ref m), some (.int (nI (a))), some (.int (nI (b))), some (.int (wa)), some (.int (wb)), none]) (by decide +kernel) (Nat.le_of_ble_eq_true rfl) rfl ?_
  refine ev_aload_n 1 dX12_mix_0 rfl rfl ?_
  refine ev_iload_n 2 dX12_mix_1 rfl rfl ?_
  refine ev_invV 5 (Mc := mX12_isCoder) ⟨lk1552, lk80, hdX12_isCoder, (Nat.le_of_ble_eq_true rfl), (Nat.le_of_ble_eq_true rfl)⟩ lk1549 lk1551 lk40 mm_cl12 rfl dX12_mix_2 (ct_X12_isCoder_t hM hn h8 hk) rfl (hM.1 0 _ rfl) (Nat.le_of_ble_eq_true rfl) rfl rfl ?_
  refine ev_if_eqN 8 39 dX12_mix_5 (by decide) (by omega) rfl (fun hx => absurd hx ((by omega))) (fun hbr => ?_)
  refine ev_aload_n 9 dX12_mix_8 rfl rfl ?_
  refine ev_iload_n 10 dX12_mix_9 rfl rfl ?_
  refine ev_invV 13 (Mc := mX12_isCoder) ⟨lk1552, lk80, hdX12_isCoder, (Nat.le_of_ble_eq_true rfl), (Nat.le_of_ble_eq_true rfl)⟩ lk1549 lk1551 lk40 mm_cl12 rfl dX12_mix_10 (ct_X12_isCoder_t hM hn h8 hb) rfl (hM.1 0 _ rfl) (Nat.le_of_ble_eq_true rfl) rfl rfl ?_
  refine ev_if_eqN 16 39 dX12_mix_13 (by decide) (by omega) rfl (fun hx => absurd hx ((by omega))) (fun hbr => ?_)
  refine ev_iload_n 17 dX12_mix_16 rfl rfl ?_
  refine ev_bipush 19 (v := -32) dX12_mix_17 (by decide +kernel) rfl ?_
  refine ev_bipushN 21 32 dX12_mix_19 (by decide +kernel) rfl ?_
  refine ev_invS 24 (Mc := mX12_in) ⟨lk1536, lk80, hdX12_in, (Nat.le_of_ble_eq_true rfl), (Nat.le_of_ble_eq_true rfl)⟩ lk1534 lk1535 dX12_mix_21 (ct_X12_in_f hw) rfl (Nat.le_of_ble_eq_true rfl) rfl rfl ?_
  refine ev_if_eqN 27 39 dX12_mix_24 (by decide) (by omega) rfl (fun hbr => ?_) (fun hx => absurd ((by omega)) hx)
  refine ev_aload_n 40 dX12_mix_39 rfl rfl ?_
  refine ev_iconst 41 (v := -1) dX12_mix_40 (by decide +kernel) rfl ?_
  refine ev_invV 44 (Mc := mX12_refused) ⟨lk1540, lk80, hdX12_refused, (Nat.le_of_ble_eq_true rfl), (Nat.le_of_ble_eq_true rfl)⟩ lk1537 lk1539 lk38 mm_cl12 rfl dX12_mix_41 (ct_X12_refused hM) rfl (hM.1 0 _ rfl) (Nat.le_of_ble_eq_true rfl) rfl rfl ?_
  exact ev_iret dX12_mix_44 rfl (rfl)
theorem ml_mix_b2 {wa wb : Int32} (h : MA B I P m n a) (hb : b < n) (hwa : -32 ≤ wa ∧ wa ≤ nI 32) (hw : ¬ (-32 ≤ wb ∧ wb ≤ nI 32)) : Ct g mX12_mix [.ref m, .int (nI a), .int (nI b), .int wa, .int wb] B I J P (some (.int (-1)), B, mo_st I m (-1), J, P) := by
  obtain ⟨hM, hn, h8, hk⟩ := h
  refine ct_of (lv := [some (.ref m), some (.int (nI (a))), some (.int (nI (b))), some (.int (wa)), some (.int (wb)), none]) (by decide +kernel) (Nat.le_of_ble_eq_true rfl) rfl ?_
  refine ev_aload_n 1 dX12_mix_0 rfl rfl ?_
  refine ev_iload_n 2 dX12_mix_1 rfl rfl ?_
  refine ev_invV 5 (Mc := mX12_isCoder) ⟨lk1552, lk80, hdX12_isCoder, (Nat.le_of_ble_eq_true rfl), (Nat.le_of_ble_eq_true rfl)⟩ lk1549 lk1551 lk40 mm_cl12 rfl dX12_mix_2 (ct_X12_isCoder_t hM hn h8 hk) rfl (hM.1 0 _ rfl) (Nat.le_of_ble_eq_true rfl) rfl rfl ?_
  refine ev_if_eqN 8 39 dX12_mix_5 (by decide) (by omega) rfl (fun hx => absurd hx ((by omega))) (fun hbr => ?_)
  refine ev_aload_n 9 dX12_mix_8 rfl rfl ?_
  refine ev_iload_n 10 dX12_mix_9 rfl rfl ?_
  refine ev_invV 13 (Mc := mX12_isCoder) ⟨lk1552, lk80, hdX12_isCoder, (Nat.le_of_ble_eq_true rfl), (Nat.le_of_ble_eq_true rfl)⟩ lk1549 lk1551 lk40 mm_cl12 rfl dX12_mix_10 (ct_X12_isCoder_t hM hn h8 hb) rfl (hM.1 0 _ rfl) (Nat.le_of_ble_eq_true rfl) rfl rfl ?_
  refine ev_if_eqN 16 39 dX12_mix_13 (by decide) (by omega) rfl (fun hx => absurd hx ((by omega))) (fun hbr => ?_)
  refine ev_iload_n 17 dX12_mix_16 rfl rfl ?_
  refine ev_bipush 19 (v := -32) dX12_mix_17 (by decide +kernel) rfl ?_
  refine ev_bipushN 21 32 dX12_mix_19 (by decide +kernel) rfl ?_
  refine ev_invS 24 (Mc := mX12_in) ⟨lk1536, lk80, hdX12_in, (Nat.le_of_ble_eq_true rfl), (Nat.le_of_ble_eq_true rfl)⟩ lk1534 lk1535 dX12_mix_21 (ct_X12_in_t hwa) rfl (Nat.le_of_ble_eq_true rfl) rfl rfl ?_
  refine ev_if_eqN 27 39 dX12_mix_24 (by decide) (by omega) rfl (fun hx => absurd hx ((by omega))) (fun hbr => ?_)
  refine ev_iload 29 dX12_mix_27 rfl rfl ?_
  refine ev_bipush 31 (v := -32) dX12_mix_29 (by decide +kernel) rfl ?_
  refine ev_bipushN 33 32 dX12_mix_31 (by decide +kernel) rfl ?_
  refine ev_invS 36 (Mc := mX12_in) ⟨lk1536, lk80, hdX12_in, (Nat.le_of_ble_eq_true rfl), (Nat.le_of_ble_eq_true rfl)⟩ lk1534 lk1535 dX12_mix_33 (ct_X12_in_f hw) rfl (Nat.le_of_ble_eq_true rfl) rfl rfl ?_
  refine ev_if_neN 39 45 dX12_mix_36 (by decide) (by omega) rfl (fun hx => absurd ((by omega)) hx) (fun hbr => ?_)
  refine ev_aload_n 40 dX12_mix_39 rfl rfl ?_
  refine ev_iconst 41 (v := -1) dX12_mix_40 (by decide +kernel) rfl ?_
  refine ev_invV 44 (Mc := mX12_refused) ⟨lk1540, lk80, hdX12_refused, (Nat.le_of_ble_eq_true rfl), (Nat.le_of_ble_eq_true rfl)⟩ lk1537 lk1539 lk38 mm_cl12 rfl dX12_mix_41 (ct_X12_refused hM) rfl (hM.1 0 _ rfl) (Nat.le_of_ble_eq_true rfl) rfl rfl ?_
  exact ev_iret dX12_mix_44 rfl (rfl)
theorem ml_mix_s {wa wb : Int32} (h : MA B I P m n a) (hb : b < n) (hwa : -32 ≤ wa ∧ wa ≤ nI 32) (hwb : -32 ≤ wb ∧ wb ≤ nI 32) (hd : I (m + 38) a = nI 0) : Ct g mX12_mix [.ref m, .int (nI a), .int (nI b), .int wa, .int wb] B I J P (some (.int (-2)), B, mo_st I m (-2), J, P) := by
  obtain ⟨hM, hn, h8, hk⟩ := h
  refine ct_of (lv := [some (.ref m), some (.int (nI (a))), some (.int (nI (b))), some (.int (wa)), some (.int (wb)), none]) (by decide +kernel) (Nat.le_of_ble_eq_true rfl) rfl ?_
  refine ev_aload_n 1 dX12_mix_0 rfl rfl ?_
  refine ev_iload_n 2 dX12_mix_1 rfl rfl ?_
  refine ev_invV 5 (Mc := mX12_isCoder) ⟨lk1552, lk80, hdX12_isCoder, (Nat.le_of_ble_eq_true rfl), (Nat.le_of_ble_eq_true rfl)⟩ lk1549 lk1551 lk40 mm_cl12 rfl dX12_mix_2 (ct_X12_isCoder_t hM hn h8 hk) rfl (hM.1 0 _ rfl) (Nat.le_of_ble_eq_true rfl) rfl rfl ?_
  refine ev_if_eqN 8 39 dX12_mix_5 (by decide) (by omega) rfl (fun hx => absurd hx ((by omega))) (fun hbr => ?_)
  refine ev_aload_n 9 dX12_mix_8 rfl rfl ?_
  refine ev_iload_n 10 dX12_mix_9 rfl rfl ?_
  refine ev_invV 13 (Mc := mX12_isCoder) ⟨lk1552, lk80, hdX12_isCoder, (Nat.le_of_ble_eq_true rfl), (Nat.le_of_ble_eq_true rfl)⟩ lk1549 lk1551 lk40 mm_cl12 rfl dX12_mix_10 (ct_X12_isCoder_t hM hn h8 hb) rfl (hM.1 0 _ rfl) (Nat.le_of_ble_eq_true rfl) rfl rfl ?_
  refine ev_if_eqN 16 39 dX12_mix_13 (by decide) (by omega) rfl (fun hx => absurd hx ((by omega))) (fun hbr => ?_)
  refine ev_iload_n 17 dX12_mix_16 rfl rfl ?_
  refine ev_bipush 19 (v := -32) dX12_mix_17 (by decide +kernel) rfl ?_
  refine ev_bipushN 21 32 dX12_mix_19 (by decide +kernel) rfl ?_
  refine ev_invS 24 (Mc := mX12_in) ⟨lk1536, lk80, hdX12_in, (Nat.le_of_ble_eq_true rfl), (Nat.le_of_ble_eq_true rfl)⟩ lk1534 lk1535 dX12_mix_21 (ct_X12_in_t hwa) rfl (Nat.le_of_ble_eq_true rfl) rfl rfl ?_
  refine ev_if_eqN 27 39 dX12_mix_24 (by decide) (by omega) rfl (fun hx => absurd hx ((by omega))) (fun hbr => ?_)
  refine ev_iload 29 dX12_mix_27 rfl rfl ?_
  refine ev_bipush 31 (v := -32) dX12_mix_29 (by decide +kernel) rfl ?_
  refine ev_bipushN 33 32 dX12_mix_31 (by decide +kernel) rfl ?_
  refine ev_invS 36 (Mc := mX12_in) ⟨lk1536, lk80, hdX12_in, (Nat.le_of_ble_eq_true rfl), (Nat.le_of_ble_eq_true rfl)⟩ lk1534 lk1535 dX12_mix_33 (ct_X12_in_t hwb) rfl (Nat.le_of_ble_eq_true rfl) rfl rfl ?_
  refine ev_if_neN 39 45 dX12_mix_36 (by decide) (by omega) rfl (fun hbr => ?_) (fun hx => absurd hx ((by omega)))
  refine ev_aload_n 46 dX12_mix_45 rfl rfl ?_
  refine ev_getP 49 mm_cl12 (j := 44) (Nat.le_of_ble_eq_true rfl) dX12_mix_46 lk1329 (fun _ _ _ => rfl) (hM.1 0 _ rfl) (a := (m + 38)) (hM.2.2 37 _ _ _ rfl) rfl ?_
  refine ev_iload_n 50 dX12_mix_49 rfl rfl ?_
  refine ev_iald 51 _ dX12_mix_50 (hM.1 38 _ rfl) rfl (by have hNN := hM.2.1 38 _ rfl; omega) rfl ?_
  refine ev_eqI (y := nI (0)) (hd) ?_
  refine ev_if_eqN 54 63 dX12_mix_51 (by decide) (by omega) rfl (fun hbr => ?_) (fun hx => absurd ((by omega)) hx)
  refine ev_aload_n 64 dX12_mix_63 rfl rfl ?_
  refine ev_bipush 66 (v := -2) dX12_mix_64 (by decide +kernel) rfl ?_
  refine ev_invV 69 (Mc := mX12_refused) ⟨lk1540, lk80, hdX12_refused, (Nat.le_of_ble_eq_true rfl), (Nat.le_of_ble_eq_true rfl)⟩ lk1537 lk1539 lk38 mm_cl12 rfl dX12_mix_66 (ct_X12_refused hM) rfl (hM.1 0 _ rfl) (Nat.le_of_ble_eq_true rfl) rfl rfl ?_
  exact ev_iret dX12_mix_69 rfl (rfl)
theorem ml_mix_s2 {wa wb : Int32} {da : Nat} (h : MA B I P m n a) (hb : b < n) (hwa : -32 ≤ wa ∧ wa ≤ nI 32) (hwb : -32 ≤ wb ∧ wb ≤ nI 32) (hd : I (m + 38) a = nI da) (d0 : 0 < da) (d1 : da < 2 ^ 31) (he : I (m + 38) b = nI 0) : Ct g mX12_mix [.ref m, .int (nI a), .int (nI b), .int wa, .int wb] B I J P (some (.int (-2)), B, mo_st I m (-2), J, P) := by
  obtain ⟨hM, hn, h8, hk⟩ := h
  refine ct_of (lv := [some (.ref m), some (.int (nI (a))), some (.int (nI (b))), some (.int (wa)), some (.int (wb)), none]) (by decide +kernel) (Nat.le_of_ble_eq_true rfl) rfl ?_
  refine ev_aload_n 1 dX12_mix_0 rfl rfl ?_
  refine ev_iload_n 2 dX12_mix_1 rfl rfl ?_
  refine ev_invV 5 (Mc := mX12_isCoder) ⟨lk1552, lk80, hdX12_isCoder, (Nat.le_of_ble_eq_true rfl), (Nat.le_of_ble_eq_true rfl)⟩ lk1549 lk1551 lk40 mm_cl12 rfl dX12_mix_2 (ct_X12_isCoder_t hM hn h8 hk) rfl (hM.1 0 _ rfl) (Nat.le_of_ble_eq_true rfl) rfl rfl ?_
  refine ev_if_eqN 8 39 dX12_mix_5 (by decide) (by omega) rfl (fun hx => absurd hx ((by omega))) (fun hbr => ?_)
  refine ev_aload_n 9 dX12_mix_8 rfl rfl ?_
  refine ev_iload_n 10 dX12_mix_9 rfl rfl ?_
  refine ev_invV 13 (Mc := mX12_isCoder) ⟨lk1552, lk80, hdX12_isCoder, (Nat.le_of_ble_eq_true rfl), (Nat.le_of_ble_eq_true rfl)⟩ lk1549 lk1551 lk40 mm_cl12 rfl dX12_mix_10 (ct_X12_isCoder_t hM hn h8 hb) rfl (hM.1 0 _ rfl) (Nat.le_of_ble_eq_true rfl) rfl rfl ?_
  refine ev_if_eqN 16 39 dX12_mix_13 (by decide) (by omega) rfl (fun hx => absurd hx ((by omega))) (fun hbr => ?_)
  refine ev_iload_n 17 dX12_mix_16 rfl rfl ?_
  refine ev_bipush 19 (v := -32) dX12_mix_17 (by decide +kernel) rfl ?_
  refine ev_bipushN 21 32 dX12_mix_19 (by decide +kernel) rfl ?_
  refine ev_invS 24 (Mc := mX12_in) ⟨lk1536, lk80, hdX12_in, (Nat.le_of_ble_eq_true rfl), (Nat.le_of_ble_eq_true rfl)⟩ lk1534 lk1535 dX12_mix_21 (ct_X12_in_t hwa) rfl (Nat.le_of_ble_eq_true rfl) rfl rfl ?_
  refine ev_if_eqN 27 39 dX12_mix_24 (by decide) (by omega) rfl (fun hx => absurd hx ((by omega))) (fun hbr => ?_)
  refine ev_iload 29 dX12_mix_27 rfl rfl ?_
  refine ev_bipush 31 (v := -32) dX12_mix_29 (by decide +kernel) rfl ?_
  refine ev_bipushN 33 32 dX12_mix_31 (by decide +kernel) rfl ?_
  refine ev_invS 36 (Mc := mX12_in) ⟨lk1536, lk80, hdX12_in, (Nat.le_of_ble_eq_true rfl), (Nat.le_of_ble_eq_true rfl)⟩ lk1534 lk1535 dX12_mix_33 (ct_X12_in_t hwb) rfl (Nat.le_of_ble_eq_true rfl) rfl rfl ?_
  refine ev_if_neN 39 45 dX12_mix_36 (by decide) (by omega) rfl (fun hbr => ?_) (fun hx => absurd hx ((by omega)))
  refine ev_aload_n 46 dX12_mix_45 rfl rfl ?_
  refine ev_getP 49 mm_cl12 (j := 44) (Nat.le_of_ble_eq_true rfl) dX12_mix_46 lk1329 (fun _ _ _ => rfl) (hM.1 0 _ rfl) (a := (m + 38)) (hM.2.2 37 _ _ _ rfl) rfl ?_
  refine ev_iload_n 50 dX12_mix_49 rfl rfl ?_
  refine ev_iald 51 _ dX12_mix_50 (hM.1 38 _ rfl) rfl (by have hNN := hM.2.1 38 _ rfl; omega) rfl ?_
  refine ev_eqI (y := nI (da)) (hd) ?_
  refine ev_if_eqN 54 63 dX12_mix_51 (by decide) (by omega) rfl (fun hx => absurd hx ((by omega))) (fun hbr => ?_)
  refine ev_aload_n 55 dX12_mix_54 rfl rfl ?_
  refine ev_getP 58 mm_cl12 (j := 44) (Nat.le_of_ble_eq_true rfl) dX12_mix_55 lk1329 (fun _ _ _ => rfl) (hM.1 0 _ rfl) (a := (m + 38)) (hM.2.2 37 _ _ _ rfl) rfl ?_
  refine ev_iload_n 59 dX12_mix_58 rfl rfl ?_
  refine ev_iald 60 _ dX12_mix_59 (hM.1 38 _ rfl) rfl (by have hNN := hM.2.1 38 _ rfl; omega) rfl ?_
  refine ev_eqI (y := nI (0)) (he) ?_
  refine ev_if_neN 63 70 dX12_mix_60 (by decide) (by omega) rfl (fun hx => absurd ((by omega)) hx) (fun hbr => ?_)
  refine ev_aload_n 64 dX12_mix_63 rfl rfl ?_
  refine ev_bipush 66 (v := -2) dX12_mix_64 (by decide +kernel) rfl ?_
  refine ev_invV 69 (Mc := mX12_refused) ⟨lk1540, lk80, hdX12_refused, (Nat.le_of_ble_eq_true rfl), (Nat.le_of_ble_eq_true rfl)⟩ lk1537 lk1539 lk38 mm_cl12 rfl dX12_mix_66 (ct_X12_refused hM) rfl (hM.1 0 _ rfl) (Nat.le_of_ble_eq_true rfl) rfl rfl ?_
  exact ev_iret dX12_mix_69 rfl (rfl)
theorem lx_mmix {wa wb : Int32} {N : Nat} {A C : Nat → Int32} {I0 : mm_TI} (hM : lyM B P m) (ha : a < 8) (hb : b < 8) (hN : N ≤ 321) (h8 : I0 m 9 = nI N) (hA : ∀ i, i < N → I0 (m + 45) (322 * a + i) = A i) (hB : ∀ i, i < N → I0 (m + 45) (322 * b + i) = C i) : ∀ (d i : Nat), i + d = N →
    Ev g mX12_mix 107 [some (.ref m), some (.int (nI a)), some (.int (nI b)), some (.int wa), some (.int wb), some (.int (nI i))] [] B (va_up I0 (m + 4) (sgp (I0 (m + 4)) 0 i (mxv wa wb A C))) (sp_up J m 2 (mxT wa wb A C i)) P (some (.int (nI N)), B, mo_st (va_up I0 (m + 4) (sgp (I0 (m + 4)) 0 N (mxv wa wb A C))) m (nI 0), sp_up J m 2 (mxT wa wb A C N), P) := by
  intro d
  induction d with
  | zero =>
    intro i hi
    obtain rfl : i = N := by omega
    refine ev_iload 109 dX12_mix_107 rfl rfl ?_
    refine ev_aload_n 110 dX12_mix_109 rfl rfl ?_
    refine ev_getI 113 mm_cl12 (j := 9) (Nat.le_of_ble_eq_true rfl) dX12_mix_110 lk1294 (fun _ _ _ => rfl) (hM.1 0 _ rfl) rfl ?_
    refine ev_eqI (y := nI (i)) ((by rw [va_up_n _ _ (by omega)]; exact h8)) ?_
    refine ev_icmp_geN 116 168 dX12_mix_113 (by decide) (by omega) (by omega) rfl (fun hbr => ?_) (fun hx => absurd ((by omega)) hx)
    refine ev_aload_n 169 dX12_mix_168 rfl rfl ?_
    refine ev_aload_n 170 dX12_mix_169 rfl rfl ?_
    refine ev_getI 173 mm_cl12 (j := 9) (Nat.le_of_ble_eq_true rfl) dX12_mix_170 lk1294 (fun _ _ _ => rfl) (hM.1 0 _ rfl) rfl ?_
    refine ev_eqI (y := nI (i)) ((by rw [va_up_n _ _ (by omega)]; exact h8)) ?_
    refine ev_invV 176 (Mc := mX12_done) ⟨lk1544, lk80, hdX12_done, (Nat.le_of_ble_eq_true rfl), (Nat.le_of_ble_eq_true rfl)⟩ lk1541 lk1543 lk39 mm_cl12 rfl dX12_mix_173 (ct_X12_done hM) rfl (hM.1 0 _ rfl) (Nat.le_of_ble_eq_true rfl) rfl rfl ?_
    exact ev_iret dX12_mix_176 rfl (rfl)
  | succ d ih =>
    intro i hi
    have e := ih (i + 1) (by omega)
    have nr := fun J => ct_X12_sample16 (g := g) (I := va_up I0 (m + 4) (sgp (I0 (m + 4)) 0 i (mxv wa wb A C))) (J := J) (w := mxw wa wb A C i) hM
    refine ev_iload 109 dX12_mix_107 rfl rfl ?_
    refine ev_aload_n 110 dX12_mix_109 rfl rfl ?_
    refine ev_getI 113 mm_cl12 (j := 9) (Nat.le_of_ble_eq_true rfl) dX12_mix_110 lk1294 (fun _ _ _ => rfl) (hM.1 0 _ rfl) rfl ?_
    refine ev_eqI (y := nI (N)) ((by rw [va_up_n _ _ (by omega)]; exact h8)) ?_
    refine ev_icmp_geN 116 168 dX12_mix_113 (by decide) (by omega) (by omega) rfl (fun hx => absurd hx ((by omega))) (fun hbr => ?_)
    refine ev_aload_n 117 dX12_mix_116 rfl rfl ?_
    refine ev_getP 120 mm_cl12 (j := 8) (Nat.le_of_ble_eq_true rfl) dX12_mix_117 lk1293 (fun _ _ _ => rfl) (hM.1 0 _ rfl) (a := (m + 4)) (hM.2.2 3 _ _ _ rfl) rfl ?_
    refine ev_iload 122 dX12_mix_120 rfl rfl ?_
    refine ev_aload_n 123 dX12_mix_122 rfl rfl ?_
    refine ev_iload_n 124 dX12_mix_123 rfl rfl ?_
    refine ev_aload_n 125 dX12_mix_124 rfl rfl ?_
    refine ev_getP 128 mm_cl12 (j := 51) (Nat.le_of_ble_eq_true rfl) dX12_mix_125 lk1336 (fun _ _ _ => rfl) (hM.1 0 _ rfl) (a := (m + 45)) (hM.2.2 44 _ _ _ rfl) rfl ?_
    refine ev_sipushN 131 322 dX12_mix_128 (by decide +kernel) rfl ?_
    refine ev_iload_n 132 dX12_mix_131 rfl rfl ?_
    refine ev_imulN 133 dX12_mix_132 rfl ?_
    refine ev_iload 135 dX12_mix_133 rfl rfl ?_
    refine ev_iaddN 136 dX12_mix_135 rfl ?_
    refine ev_iald 137 _ dX12_mix_136 (hM.1 45 _ rfl) rfl (by have hNN := hM.2.1 45 _ rfl; omega) rfl ?_
    refine ev_eqI (y := ((A i))) ((by rw [va_up_n _ _ (by omega)]; exact hA i (by omega))) ?_
    refine ev_imul 138 dX12_mix_137 rfl ?_
    refine ev_iload 140 dX12_mix_138 rfl rfl ?_
    refine ev_aload_n 141 dX12_mix_140 rfl rfl ?_
    refine ev_getP 144 mm_cl12 (j := 51) (Nat.le_of_ble_eq_true rfl) dX12_mix_141 lk1336 (fun _ _ _ => rfl) (hM.1 0 _ rfl) (a := (m + 45)) (hM.2.2 44 _ _ _ rfl) rfl ?_
    refine ev_sipushN 147 322 dX12_mix_144 (by decide +kernel) rfl ?_
    refine ev_iload_n 148 dX12_mix_147 rfl rfl ?_
    refine ev_imulN 149 dX12_mix_148 rfl ?_
    refine ev_iload 151 dX12_mix_149 rfl rfl ?_
    refine ev_iaddN 152 dX12_mix_151 rfl ?_
    refine ev_iald 153 _ dX12_mix_152 (hM.1 45 _ rfl) rfl (by have hNN := hM.2.1 45 _ rfl; omega) rfl ?_
    refine ev_eqI (y := ((C i))) ((by rw [va_up_n _ _ (by omega)]; exact hB i (by omega))) ?_
    refine ev_imul 154 dX12_mix_153 rfl ?_
    refine ev_iadd 155 dX12_mix_154 rfl ?_
    refine ev_iconstN 156 5 dX12_mix_155 rfl ?_
    refine ev_ishr 157 dX12_mix_156 rfl ?_
    refine ev_i2l 158 dX12_mix_157 rfl ?_
    refine ev_invV 161 (Mc := mX12_sample16) ⟨lk1608, lk80, hdX12_sample16, (Nat.le_of_ble_eq_true rfl), (Nat.le_of_ble_eq_true rfl)⟩ lk1605 lk1607 lk42 mm_cl12 rfl dX12_mix_158 (nr _) rfl (hM.1 0 _ rfl) (Nat.le_of_ble_eq_true rfl) rfl rfl ?_
    refine ev_iast 162 _ dX12_mix_161 (hM.1 4 _ rfl) rfl (by have hNN := hM.2.1 4 _ rfl; omega) rfl ?_
    rw [va_up_s, bx_uu, sp_up_up, show va_up (sgp (I0 (m + 4)) 0 i (mxv wa wb A C)) i (sp_S (mxw wa wb A C i)) = sgp (I0 (m + 4)) 0 (i + 1) (mxv wa wb A C) by have := sgp_grow (f := I0 (m + 4)) (off := 0) (n := i) (v := mxv wa wb A C) rfl; rw [Nat.zero_add] at this; exact this]
    refine ev_iincN 165 (lv' := [_, _, _, _, some (.int _), _]) 1 dX12_mix_162 rfl (Nat.le_of_ble_eq_true rfl) rfl rfl ?_
    refine ev_goto 107 dX12_mix_165 (by decide) ?_
    exact e
theorem ml_mix_t {wa wb : Int32} {da db oa ob N : Nat} {A C : Nat → Int32} (h : MA B I P m n a) (hb : b < n) (hwa : -32 ≤ wa ∧ wa ≤ nI 32) (hwb : -32 ≤ wb ∧ wb ≤ nI 32) (hd : I (m + 38) a = nI da) (d0 : 0 < da) (d1 : da < 2 ^ 31) (he : I (m + 38) b = nI db) (e0 : 0 < db) (e1 : db < 2 ^ 31) (o1 : I (m + 44) a = nI oa) (o2 : I (m + 44) b = nI ob) (oa3 : oa ≤ 321) (ob3 : ob ≤ 321) (hN : N = min oa ob) (hA : ∀ i, i < N → I (m + 45) (322 * a + i) = A i) (hB : ∀ i, i < N → I (m + 45) (322 * b + i) = C i) :
    Ct g mX12_mix [.ref m, .int (nI a), .int (nI b), .int wa, .int wb] B I J P (some (.int (nI N)), B, mo_st (va_up (va_up I m (va_up (I m) 9 (nI N))) (m + 4) (sgp (I (m + 4)) 0 N (mxv wa wb A C))) m (nI 0), sp_up J m 2 (mxT wa wb A C N), P) := by
  obtain ⟨hM, hn, h8, hk⟩ := h
  have N3 : N ≤ 321 := by rw [hN]; exact Nat.le_trans (Nat.min_le_left _ _) oa3
  have e := lx_mmix (g := g) (J := J) (wa := wa) (wb := wb) (A := A) (C := C) (I0 := va_up I m (va_up (I m) 9 (nI N))) hM (show a < 8 by omega) (show b < 8 by omega) N3 (by rw [va_up_s, va_up_s]) (fun i hi => by rw [va_up_n _ _ (by omega)]; exact hA i hi) (fun i hi => by rw [va_up_n _ _ (by omega)]; exact hB i hi) N 0 (by omega)
  rw [sgp_0, va_up_id, show mxT wa wb A C 0 = 0 from rfl, sp_up_0, va_up_n _ _ (show m + 4 ≠ m by omega)] at e
  by_cases hl : oa < ob
  · obtain rfl : N = oa := by rw [hN]; exact Nat.min_eq_left (by omega)
    refine ct_of (lv := [some (.ref m), some (.int (nI a)), some (.int (nI b)), some (.int wa), some (.int wb), none]) (by decide +kernel) (Nat.le_of_ble_eq_true rfl) rfl ?_
    refine ev_aload_n 1 dX12_mix_0 rfl rfl ?_
    refine ev_iload_n 2 dX12_mix_1 rfl rfl ?_
    refine ev_invV 5 (Mc := mX12_isCoder) ⟨lk1552, lk80, hdX12_isCoder, (Nat.le_of_ble_eq_true rfl), (Nat.le_of_ble_eq_true rfl)⟩ lk1549 lk1551 lk40 mm_cl12 rfl dX12_mix_2 (ct_X12_isCoder_t hM hn h8 hk) rfl (hM.1 0 _ rfl) (Nat.le_of_ble_eq_true rfl) rfl rfl ?_
    refine ev_if_eqN 8 39 dX12_mix_5 (by decide) (by omega) rfl (fun hx => absurd hx ((by omega))) (fun hbr => ?_)
    refine ev_aload_n 9 dX12_mix_8 rfl rfl ?_
    refine ev_iload_n 10 dX12_mix_9 rfl rfl ?_
    refine ev_invV 13 (Mc := mX12_isCoder) ⟨lk1552, lk80, hdX12_isCoder, (Nat.le_of_ble_eq_true rfl), (Nat.le_of_ble_eq_true rfl)⟩ lk1549 lk1551 lk40 mm_cl12 rfl dX12_mix_10 (ct_X12_isCoder_t hM hn h8 hb) rfl (hM.1 0 _ rfl) (Nat.le_of_ble_eq_true rfl) rfl rfl ?_
    refine ev_if_eqN 16 39 dX12_mix_13 (by decide) (by omega) rfl (fun hx => absurd hx ((by omega))) (fun hbr => ?_)
    refine ev_iload_n 17 dX12_mix_16 rfl rfl ?_
    refine ev_bipush 19 (v := -32) dX12_mix_17 (by decide +kernel) rfl ?_
    refine ev_bipushN 21 32 dX12_mix_19 (by decide +kernel) rfl ?_
    refine ev_invS 24 (Mc := mX12_in) ⟨lk1536, lk80, hdX12_in, (Nat.le_of_ble_eq_true rfl), (Nat.le_of_ble_eq_true rfl)⟩ lk1534 lk1535 dX12_mix_21 (ct_X12_in_t hwa) rfl (Nat.le_of_ble_eq_true rfl) rfl rfl ?_
    refine ev_if_eqN 27 39 dX12_mix_24 (by decide) (by omega) rfl (fun hx => absurd hx ((by omega))) (fun hbr => ?_)
    refine ev_iload 29 dX12_mix_27 rfl rfl ?_
    refine ev_bipush 31 (v := -32) dX12_mix_29 (by decide +kernel) rfl ?_
    refine ev_bipushN 33 32 dX12_mix_31 (by decide +kernel) rfl ?_
    refine ev_invS 36 (Mc := mX12_in) ⟨lk1536, lk80, hdX12_in, (Nat.le_of_ble_eq_true rfl), (Nat.le_of_ble_eq_true rfl)⟩ lk1534 lk1535 dX12_mix_33 (ct_X12_in_t hwb) rfl (Nat.le_of_ble_eq_true rfl) rfl rfl ?_
    refine ev_if_neN 39 45 dX12_mix_36 (by decide) (by omega) rfl (fun hbr => ?_) (fun hx => absurd hx ((by omega)))
    refine ev_aload_n 46 dX12_mix_45 rfl rfl ?_
    refine ev_getP 49 mm_cl12 (j := 44) (Nat.le_of_ble_eq_true rfl) dX12_mix_46 lk1329 (fun _ _ _ => rfl) (hM.1 0 _ rfl) (a := (m + 38)) (hM.2.2 37 _ _ _ rfl) rfl ?_
    refine ev_iload_n 50 dX12_mix_49 rfl rfl ?_
    refine ev_iald 51 _ dX12_mix_50 (hM.1 38 _ rfl) rfl (by have hNN := hM.2.1 38 _ rfl; omega) rfl ?_
    refine ev_eqI (y := nI (da)) (hd) ?_
    refine ev_if_eqN 54 63 dX12_mix_51 (by decide) (by omega) rfl (fun hx => absurd hx ((by omega))) (fun hbr => ?_)
    refine ev_aload_n 55 dX12_mix_54 rfl rfl ?_
    refine ev_getP 58 mm_cl12 (j := 44) (Nat.le_of_ble_eq_true rfl) dX12_mix_55 lk1329 (fun _ _ _ => rfl) (hM.1 0 _ rfl) (a := (m + 38)) (hM.2.2 37 _ _ _ rfl) rfl ?_
    refine ev_iload_n 59 dX12_mix_58 rfl rfl ?_
    refine ev_iald 60 _ dX12_mix_59 (hM.1 38 _ rfl) rfl (by have hNN := hM.2.1 38 _ rfl; omega) rfl ?_
    refine ev_eqI (y := nI (db)) (he) ?_
    refine ev_if_neN 63 70 dX12_mix_60 (by decide) (by omega) rfl (fun hbr => ?_) (fun hx => absurd hx ((by omega)))
    refine ev_aload_n 71 dX12_mix_70 rfl rfl ?_
    refine ev_aload_n 72 dX12_mix_71 rfl rfl ?_
    refine ev_getP 75 mm_cl12 (j := 50) (Nat.le_of_ble_eq_true rfl) dX12_mix_72 lk1335 (fun _ _ _ => rfl) (hM.1 0 _ rfl) (a := (m + 44)) (hM.2.2 43 _ _ _ rfl) rfl ?_
    refine ev_iload_n 76 dX12_mix_75 rfl rfl ?_
    refine ev_iald 77 _ dX12_mix_76 (hM.1 44 _ rfl) rfl (by have hNN := hM.2.1 44 _ rfl; omega) rfl ?_
    refine ev_eqI (y := nI (N)) (o1) ?_
    refine ev_aload_n 78 dX12_mix_77 rfl rfl ?_
    refine ev_getP 81 mm_cl12 (j := 50) (Nat.le_of_ble_eq_true rfl) dX12_mix_78 lk1335 (fun _ _ _ => rfl) (hM.1 0 _ rfl) (a := (m + 44)) (hM.2.2 43 _ _ _ rfl) rfl ?_
    refine ev_iload_n 82 dX12_mix_81 rfl rfl ?_
    refine ev_iald 83 _ dX12_mix_82 (hM.1 44 _ rfl) rfl (by have hNN := hM.2.1 44 _ rfl; omega) rfl ?_
    refine ev_eqI (y := nI (ob)) (o2) ?_
    refine ev_icmp_geN 86 95 dX12_mix_83 (by decide) (by omega) (by omega) rfl (fun hx => absurd hx ((by omega))) (fun hbr => ?_)
    refine ev_aload_n 87 dX12_mix_86 rfl rfl ?_
    refine ev_getP 90 mm_cl12 (j := 50) (Nat.le_of_ble_eq_true rfl) dX12_mix_87 lk1335 (fun _ _ _ => rfl) (hM.1 0 _ rfl) (a := (m + 44)) (hM.2.2 43 _ _ _ rfl) rfl ?_
    refine ev_iload_n 91 dX12_mix_90 rfl rfl ?_
    refine ev_iald 92 _ dX12_mix_91 (hM.1 44 _ rfl) rfl (by have hNN := hM.2.1 44 _ rfl; omega) rfl ?_
    refine ev_eqI (y := nI (N)) (o1) ?_
    refine ev_goto 101 dX12_mix_92 (by decide) ?_
    refine ev_putI 104 mm_cl12 (j := 9) (Nat.le_of_ble_eq_true rfl) dX12_mix_101 lk1294 rfl (fun _ _ _ => rfl) rfl rfl (hM.1 0 _ rfl) rfl ?_
    refine ev_iconstN 105 0 dX12_mix_104 rfl ?_
    refine ev_istore 107 (lv' := [_, _, _, _, some (.int _), _]) dX12_mix_105 (Nat.le_of_ble_eq_true rfl) rfl rfl ?_
    exact e
  · obtain rfl : N = ob := by rw [hN]; exact Nat.min_eq_right (by omega)
    refine ct_of (lv := [some (.ref m), some (.int (nI a)), some (.int (nI b)), some (.int wa), some (.int wb), none]) (by decide +kernel) (Nat.le_of_ble_eq_true rfl) rfl ?_
    refine ev_aload_n 1 dX12_mix_0 rfl rfl ?_
    refine ev_iload_n 2 dX12_mix_1 rfl rfl ?_
    refine ev_invV 5 (Mc := mX12_isCoder) ⟨lk1552, lk80, hdX12_isCoder, (Nat.le_of_ble_eq_true rfl), (Nat.le_of_ble_eq_true rfl)⟩ lk1549 lk1551 lk40 mm_cl12 rfl dX12_mix_2 (ct_X12_isCoder_t hM hn h8 hk) rfl (hM.1 0 _ rfl) (Nat.le_of_ble_eq_true rfl) rfl rfl ?_
    refine ev_if_eqN 8 39 dX12_mix_5 (by decide) (by omega) rfl (fun hx => absurd hx ((by omega))) (fun hbr => ?_)
    refine ev_aload_n 9 dX12_mix_8 rfl rfl ?_
    refine ev_iload_n 10 dX12_mix_9 rfl rfl ?_
    refine ev_invV 13 (Mc := mX12_isCoder) ⟨lk1552, lk80, hdX12_isCoder, (Nat.le_of_ble_eq_true rfl), (Nat.le_of_ble_eq_true rfl)⟩ lk1549 lk1551 lk40 mm_cl12 rfl dX12_mix_10 (ct_X12_isCoder_t hM hn h8 hb) rfl (hM.1 0 _ rfl) (Nat.le_of_ble_eq_true rfl) rfl rfl ?_
    refine ev_if_eqN 16 39 dX12_mix_13 (by decide) (by omega) rfl (fun hx => absurd hx ((by omega))) (fun hbr => ?_)
    refine ev_iload_n 17 dX12_mix_16 rfl rfl ?_
    refine ev_bipush 19 (v := -32) dX12_mix_17 (by decide +kernel) rfl ?_
    refine ev_bipushN 21 32 dX12_mix_19 (by decide +kernel) rfl ?_
    refine ev_invS 24 (Mc := mX12_in) ⟨lk1536, lk80, hdX12_in, (Nat.le_of_ble_eq_true rfl), (Nat.le_of_ble_eq_true rfl)⟩ lk1534 lk1535 dX12_mix_21 (ct_X12_in_t hwa) rfl (Nat.le_of_ble_eq_true rfl) rfl rfl ?_
    refine ev_if_eqN 27 39 dX12_mix_24 (by decide) (by omega) rfl (fun hx => absurd hx ((by omega))) (fun hbr => ?_)
    refine ev_iload 29 dX12_mix_27 rfl rfl ?_
    refine ev_bipush 31 (v := -32) dX12_mix_29 (by decide +kernel) rfl ?_
    refine ev_bipushN 33 32 dX12_mix_31 (by decide +kernel) rfl ?_
    refine ev_invS 36 (Mc := mX12_in) ⟨lk1536, lk80, hdX12_in, (Nat.le_of_ble_eq_true rfl), (Nat.le_of_ble_eq_true rfl)⟩ lk1534 lk1535 dX12_mix_33 (ct_X12_in_t hwb) rfl (Nat.le_of_ble_eq_true rfl) rfl rfl ?_
    refine ev_if_neN 39 45 dX12_mix_36 (by decide) (by omega) rfl (fun hbr => ?_) (fun hx => absurd hx ((by omega)))
    refine ev_aload_n 46 dX12_mix_45 rfl rfl ?_
    refine ev_getP 49 mm_cl12 (j := 44) (Nat.le_of_ble_eq_true rfl) dX12_mix_46 lk1329 (fun _ _ _ => rfl) (hM.1 0 _ rfl) (a := (m + 38)) (hM.2.2 37 _ _ _ rfl) rfl ?_
    refine ev_iload_n 50 dX12_mix_49 rfl rfl ?_
    refine ev_iald 51 _ dX12_mix_50 (hM.1 38 _ rfl) rfl (by have hNN := hM.2.1 38 _ rfl; omega) rfl ?_
    refine ev_eqI (y := nI (da)) (hd) ?_
    refine ev_if_eqN 54 63 dX12_mix_51 (by decide) (by omega) rfl (fun hx => absurd hx ((by omega))) (fun hbr => ?_)
    refine ev_aload_n 55 dX12_mix_54 rfl rfl ?_
    refine ev_getP 58 mm_cl12 (j := 44) (Nat.le_of_ble_eq_true rfl) dX12_mix_55 lk1329 (fun _ _ _ => rfl) (hM.1 0 _ rfl) (a := (m + 38)) (hM.2.2 37 _ _ _ rfl) rfl ?_
    refine ev_iload_n 59 dX12_mix_58 rfl rfl ?_
    refine ev_iald 60 _ dX12_mix_59 (hM.1 38 _ rfl) rfl (by have hNN := hM.2.1 38 _ rfl; omega) rfl ?_
    refine ev_eqI (y := nI (db)) (he) ?_
    refine ev_if_neN 63 70 dX12_mix_60 (by decide) (by omega) rfl (fun hbr => ?_) (fun hx => absurd hx ((by omega)))
    refine ev_aload_n 71 dX12_mix_70 rfl rfl ?_
    refine ev_aload_n 72 dX12_mix_71 rfl rfl ?_
    refine ev_getP 75 mm_cl12 (j := 50) (Nat.le_of_ble_eq_true rfl) dX12_mix_72 lk1335 (fun _ _ _ => rfl) (hM.1 0 _ rfl) (a := (m + 44)) (hM.2.2 43 _ _ _ rfl) rfl ?_
    refine ev_iload_n 76 dX12_mix_75 rfl rfl ?_
    refine ev_iald 77 _ dX12_mix_76 (hM.1 44 _ rfl) rfl (by have hNN := hM.2.1 44 _ rfl; omega) rfl ?_
    refine ev_eqI (y := nI (oa)) (o1) ?_
    refine ev_aload_n 78 dX12_mix_77 rfl rfl ?_
    refine ev_getP 81 mm_cl12 (j := 50) (Nat.le_of_ble_eq_true rfl) dX12_mix_78 lk1335 (fun _ _ _ => rfl) (hM.1 0 _ rfl) (a := (m + 44)) (hM.2.2 43 _ _ _ rfl) rfl ?_
    refine ev_iload_n 82 dX12_mix_81 rfl rfl ?_
    refine ev_iald 83 _ dX12_mix_82 (hM.1 44 _ rfl) rfl (by have hNN := hM.2.1 44 _ rfl; omega) rfl ?_
    refine ev_eqI (y := nI (N)) (o2) ?_
    refine ev_icmp_geN 86 95 dX12_mix_83 (by decide) (by omega) (by omega) rfl (fun hbr => ?_) (fun hx => absurd ((by omega)) hx)
    refine ev_aload_n 96 dX12_mix_95 rfl rfl ?_
    refine ev_getP 99 mm_cl12 (j := 50) (Nat.le_of_ble_eq_true rfl) dX12_mix_96 lk1335 (fun _ _ _ => rfl) (hM.1 0 _ rfl) (a := (m + 44)) (hM.2.2 43 _ _ _ rfl) rfl ?_
    refine ev_iload_n 100 dX12_mix_99 rfl rfl ?_
    refine ev_iald 101 _ dX12_mix_100 (hM.1 44 _ rfl) rfl (by have hNN := hM.2.1 44 _ rfl; omega) rfl ?_
    refine ev_eqI (y := nI (N)) (o2) ?_
    refine ev_putI 104 mm_cl12 (j := 9) (Nat.le_of_ble_eq_true rfl) dX12_mix_101 lk1294 rfl (fun _ _ _ => rfl) rfl rfl (hM.1 0 _ rfl) rfl ?_
    refine ev_iconstN 105 0 dX12_mix_104 rfl ?_
    refine ev_istore 107 (lv' := [_, _, _, _, some (.int _), _]) dX12_mix_105 (Nat.le_of_ble_eq_true rfl) rfl rfl ?_
    exact e
end MX0
section MX1
variable {g : mm_G}
/-- the bench was laid anew -/
theorem RC_be {B : mm_B} {I I1 I2 : mm_TI} {J : mm_TJ} {P : mm_TP} {x m n R K N : Nat} {o : Nat → Nat} {fl φ : Nat → Nat → Nat} {ρ : Nat → Nat} {val : Nat → Int32} {T : Int64} (h : RC g B I J P x m n R K o fl φ ρ) (hN : N ≤ 1284) (e1 : I1 = va_up (va_up (vz I x) x (va_up (vz I x x) 8 (nI N))) (x + 21) (sgp (I (x + 21)) 0 N val)) (e2 : I2 = mo_st (va_up (va_up I1 m (va_up (I1 m) 9 (nI N))) (m + 4) (sgp (I1 (m + 4)) 0 N val)) m (nI 0)) :
    RC g B I2 (sp_up (sp_up J (x + 1) 3 T) m 2 T) P x m n R K o fl φ ρ ∧ ∀ q, q < x → I2 q = I q := by
  obtain ⟨hV, hM, -⟩ := RG_ly h
  obtain ⟨h8, hx4, hm0⟩ := RG_n h
  obtain ⟨xm, mn⟩ := RC_xm h
  have v0 : ∀ q, q ≠ x → vz I x q = I q := fun q hq => va_up_n _ _ hq
  have g1 : ∀ q, q ≠ x → q ≠ x + 21 → I1 q = I q := fun q q1 q2 => by rw [e1, va_up_n _ _ q2, va_up_n _ _ q1, v0 _ q1]
  have gx : I1 x = va_up (va_up (I x) 9 (nI 0)) 8 (nI N) := by rw [e1, va_up_n _ _ (by omega), va_up_s, show vz I x x = va_up (I x) 9 (nI 0) from va_up_s _ _ _]
  have g21 : I1 (x + 21) = sgp (I (x + 21)) 0 N val := by rw [e1, va_up_s]
  have g2 : ∀ q, q ≠ m → q ≠ m + 4 → I2 q = I1 q := fun q q1 q2 => by rw [e2]; exact (va_up_n _ _ q1).trans ((va_up_n _ _ q2).trans (va_up_n _ _ q1))
  have gm : I2 m = va_up (va_up (I m) 9 (nI N)) 1 (nI 0) := by
    rw [e2]; refine (va_up_s _ _ _).trans ?_
    rw [va_up_n _ _ (by omega), va_up_s, g1 m (by omega) (by omega)]
  have g4 : I2 (m + 4) = sgp (I (m + 4)) 0 N val := by
    rw [e2]; refine (va_up_n _ _ (by omega)).trans ?_
    rw [va_up_s, g1 _ (by omega) (by omega)]
  have fo : ∀ q, q ≠ x → q ≠ m → q ≠ x + 21 → q ≠ m + 4 → I2 q = I q := fun q a b c d => by rw [g2 q b d, g1 q a c]
  have fx : I2 x = va_up (va_up (I x) 9 (nI 0)) 8 (nI N) := by rw [g2 x (by omega) (by omega), gx]
  have f21 : I2 (x + 21) = sgp (I (x + 21)) 0 N val := by rw [g2 _ (by omega) (by omega), g21]
  have ro := fun r hr => RC_row h (r := r) hr
  have jo : ∀ q, q ≠ x + 1 → q ≠ m → sp_up (sp_up J (x + 1) 3 T) m 2 T q = J q := fun q a b => by rw [sp_up_o b, sp_up_o a]
  refine ⟨RC_gl h (RCg_mk h (Ext_rf B) h.1.1 hV hM (fun q hq => fo q (by omega) (by omega) (by omega) (by omega)) ⟨h8, by rw [fx, va_up_n _ _ (by omega), va_up_n _ _ (by omega)]; exact hx4, by rw [gm, va_up_n _ _ (by omega), va_up_n _ _ (by omega)]; exact hm0⟩ ⟨?_, fun i hi => by rw [fo (x + 2) (by omega) (by omega) (by omega) (by omega), fo (m + 1) (by omega) (by omega) (by omega) (by omega)]; exact (RG_j h).2 i hi⟩ (RGt_cg (RG_t h) (by rw [fo (x + 1) (by omega) (by omega) (by omega) (by omega)]) (by rw [gm, va_up_n _ _ (by omega), va_up_n _ _ (by omega)]) (fo _ (by omega) (by omega) (by omega) (by omega)) (fo _ (by omega) (by omega) (by omega) (by omega))) (RGp_cg (RG_p h) (by rw [fx, va_up_n _ _ (by omega), va_up_n _ _ (by omega)]) (by rw [gm, va_up_n _ _ (by omega), va_up_n _ _ (by omega)]) (fo _ (by omega) (by omega) (by omega) (by omega)) (fo _ (by omega) (by omega) (by omega) (by omega))) ⟨N, hN, by rw [fx, va_up_s], by rw [gm, va_up_n _ _ (by omega), va_up_s], fun i hi => ?_⟩ (RGz_cg (RG_z h) (fun k k1 k2 => fo _ (by omega) (by omega) (by omega) (by omega)) (jo _ (by omega) (by omega)) (jo _ (by omega) (by omega))) (RGr_cg (RG_r h) (Ext_rf B) (by rw [gm, va_up_n _ _ (by omega), va_up_n _ _ (by omega)]) (fun r hr => by have := ro r hr; exact fo _ (by omega) (by omega) (by omega) (by omega)) (fo _ (by omega) (by omega) (by omega) (by omega)) (fo _ (by omega) (by omega) (by omega) (by omega)) (fo _ (by omega) (by omega) (by omega) (by omega)))) (by rw [fx, gm, va_up_n _ _ (by omega), va_up_s, va_up_s]) (fun q a b => fo q (by omega) (by omega) (by omega) (by omega)) (fun q a b => jo q (by omega) (by omega)), fun q hq => fo q (by omega) (by omega) (by omega) (by omega)⟩
  · rw [sp_up_at, sp_up_o (show m ≠ x + 1 by omega), sp_up_o (show x + 1 ≠ m by omega), sp_up_at, (RG_j h).1]
  · rw [f21, g4]
    have a := sgp_in (f := I (x + 21)) (off := 0) (v := val) hi
    have b := sgp_in (f := I (m + 4)) (off := 0) (v := val) hi
    rw [Nat.zero_add] at a b
    rw [a, b]
theorem jo_mix {c d wa wb : Int32} : JO g mX11_mix mX12_mix [.int c, .int d, .int wa, .int wb] := by
  refine jo_mk fun K x m B I J P n R o fl φ ρ hK hR h => ?_
  obtain ⟨hV, hM, -⟩ := RG_ly h
  obtain ⟨h8, hx4, hm0⟩ := RG_n h
  have xm := (RC_xm h).1
  rcases cd_cases h8 c with ⟨a, ha, rfl⟩ | hc
  · rcases cd_cases h8 d with ⟨b, hb, rfl⟩ | hd
    · by_cases hwa : -32 ≤ wa ∧ wa ≤ nI 32
      · by_cases hwb : -32 ≤ wb ∧ wb ≤ nI 32
        · obtain ⟨⟨oa, a1, a2, a3, a4⟩, -, -, -, -, -, -, ⟨da, d1, d2, d3, d4⟩, -⟩ := RC_d h ha
          obtain ⟨⟨ob, b1, b2, b3, b4⟩, -, -, -, -, -, -, ⟨db, f1, f2, f3, f4⟩, -⟩ := RC_d h hb
          by_cases e0 : da = 0
          · subst e0
            exact Or.inl ⟨_, _, cl_mix_s (CA_of h ha) (CA_of h hb) hwa hwb d2, fun I1 h1 => ml_mix_s (MA_of h ha (h1 _ (by omega))) hb hwa hwb (by rw [h1 _ (by omega)]; exact d3)⟩
          · by_cases f0 : db = 0
            · subst f0
              exact Or.inl ⟨_, _, cl_mix_s2 (CA_of h ha) (CA_of h hb) hwa hwb d2 (by omega) (by omega) f2, fun I1 h1 => ml_mix_s2 (MA_of h ha (h1 _ (by omega))) hb hwa hwb (by rw [h1 _ (by omega)]; exact d3) (by omega) (by omega) (by rw [h1 _ (by omega)]; exact f3)⟩
            · right
              have mn1 := Nat.min_le_left oa ob
              have mn2 := Nat.min_le_right oa ob
              have v1 : ∀ (F : Nat → Int32) (G : Nat → Int32) q, q ≠ x → q ≠ x + 21 → va_up (va_up (vz I x) x F) (x + 21) G q = I q := fun F G q q1 q2 => (va_up_n _ _ q2).trans ((va_up_n _ _ q1).trans (va_up_n _ _ q1))
              have rc := RC_be (N := min oa ob) (val := mxv wa wb (I (o a + 28)) (I (o b + 28))) (T := mxT wa wb (I (o a + 28)) (I (o b + 28)) (min oa ob)) h (by omega) rfl rfl
              exact ⟨_, _, _, _, _, cl_mix_t (A := I (o a + 28)) (C := I (o b + 28)) (CA_of h ha) (CA_of h hb) hwa hwb d2 (by omega) (by omega) f2 (by omega) (by omega) a2 b2 a1 b1 rfl (fun _ _ => rfl) (fun _ _ => rfl), ml_mix_t (MA_of h ha (v1 _ _ _ (by omega) (by omega))) hb hwa hwb (by rw [v1 _ _ _ (by omega) (by omega)]; exact d3) (by omega) (by omega) (by rw [v1 _ _ _ (by omega) (by omega)]; exact f3) (by omega) (by omega) (by rw [v1 _ _ _ (by omega) (by omega)]; exact a3) (by rw [v1 _ _ _ (by omega) (by omega)]; exact b3) a1 b1 rfl (fun i hi => by rw [v1 _ _ _ (by omega) (by omega)]; exact (a4 i (by omega)).1.symm) (fun i hi => by rw [v1 _ _ _ (by omega) (by omega)]; exact (b4 i (by omega)).1.symm), rc.1, rc.2⟩
        · exact Or.inl ⟨_, _, cl_mix_b2 (CA_of h ha) (CA_of h hb) hwa hwb, fun I1 h1 => ml_mix_b2 (MA_of h ha (h1 _ (by omega))) hb hwa hwb⟩
      · exact Or.inl ⟨_, _, cl_mix_b (CA_of h ha) (CA_of h hb) hwa, fun I1 h1 => ml_mix_b (MA_of h ha (h1 _ (by omega))) hb hwa⟩
    · exact Or.inl ⟨_, _, cl_mix_g (CA_of h ha) hd, fun I1 h1 => ml_mix_g (MA_of h ha (h1 _ (by omega))) hd⟩
  · rcases cd_cases h8 d with ⟨b, hb, rfl⟩ | hd
    · exact Or.inl ⟨_, _, cl_mix_fr (CA_of h hb) hc, fun I1 h1 => ml_mix_f hM (by rw [h1 _ (by omega)]; exact hm0) hc⟩
    · exact Or.inl ⟨_, _, cl_mix_fn hV hx4 hc hd, fun I1 h1 => ml_mix_f hM (by rw [h1 _ (by omega)]; exact hm0) hc⟩
end MX1
