/-! READERS -/
section RDJ
variable {g : mm_G} {B : mm_B} {I : mm_TI} {J : mm_TJ} {P : mm_TP} {x m n R K : Nat} {o : Nat → Nat} {fl φ : Nat → Nat → Nat} {ρ : Nat → Nat} {k : Nat}
theorem RC_2 {a : Int32} (h : RC g B I J P x m n R K o fl φ ρ) : RC g B (mo_st (vst I x a) m a) J P x m n R K o fl φ ρ := by
  obtain ⟨xm, -⟩ := RC_xm h
  refine RC_st h ?_ (fun k hk => ?_) (fun k hk => ?_) (fun q q1 q2 _ _ _ => ?_) (fun _ _ _ _ _ => rfl) rfl
  · rw [show mo_st (vst I x a) m a x = vst I x a x from va_up_n _ _ (by omega), vst_9, show mo_st (vst I x a) m a m = va_up (vst I x a m) 1 a from va_up_s _ _ _, va_up_s]
  · rw [show mo_st (vst I x a) m a x = vst I x a x from va_up_n _ _ (by omega), vst_k (by omega)]
  · rw [show mo_st (vst I x a) m a m = va_up (vst I x a m) 1 a from va_up_s _ _ _, va_up_n _ _ (by omega), vst_n (by omega)]
  · rw [show mo_st (vst I x a) m a q = vst I x a q from va_up_n _ _ q2, vst_n q1]
theorem jo_rd {β : Type} {κ : β → Value} {Mc Mm : mm_M} {as : List Value} (H : ∀ (K x m : Nat) (B : mm_B) (I : mm_TI) (J : mm_TJ) (P : mm_TP) (n R : Nat) (o : Nat → Nat) (fl φ : Nat → Nat → Nat) (ρ : Nat → Nat), K < 600 → RC g B I J P x m n R K o fl φ ρ → ∃ (r : β) (a : Int32), Ct g Mc (.ref x :: as) B I J P (some (κ r), B, vst I x a, J, P) ∧ ∀ I1 : mm_TI, (∀ q, q ≠ x → I1 q = I q) → Ct g Mm (.ref m :: as) B I1 J P (some (κ r), B, mo_st I1 m a, J, P)) : JOk κ g Mc Mm as := by
  intro K x m B I J P hK ⟨n, R, o, fl, φ, ρ, hR, h⟩
  obtain ⟨r, a, h1, h2⟩ := H K x m B I J P n R o fl φ ρ hK h
  have xm := (RC_xm h).1
  refine ⟨r, B, vst I x a, J, P, mo_st (vst I x a) m a, J, P, h1, h2 _ (fun q hq => vst_n hq), ⟨n, R, o, fl, φ, ρ, by omega, RC_mono (RC_2 h) (by omega)⟩, Ext_rf B, by omega, by omega, fun q hq => ?_⟩
  rw [show mo_st (vst I x a) m a q = vst I x a q from va_up_n _ _ (by omega), vst_n (by omega)]
theorem RC_v (h : RC g B I J P x m n R K o fl φ ρ) (hk : k < n) : VC B I J P x m (o k) R K (fl k) (φ k) ρ k := h.2.2.2.1 k hk
theorem RC_w (h : RC g B I J P x m n R K o fl φ ρ) (hk : k < n) : VCw I m (o k) k := (h.2.2.2.1 k hk).2.1
theorem RC_e (h : RC g B I J P x m n R K o fl φ ρ) (hk : k < n) : VCe I m (o k) k := (h.2.2.2.1 k hk).2.2.1
theorem RC_s (h : RC g B I J P x m n R K o fl φ ρ) (hk : k < n) : VCs I J m (o k) k := (h.2.2.2.1 k hk).2.2.2.1
theorem RC_m1 (h : RC g B I J P x m n R K o fl φ ρ) (hk : k < n) : VCm I m (o k + 13) (2 * k) := (h.2.2.2.1 k hk).2.2.2.2.1
theorem RC_d (h : RC g B I J P x m n R K o fl φ ρ) (hk : k < n) : VCd I m (o k) K k := (h.2.2.2.1 k hk).2.2.2.2.2.1
theorem RC_m2 (h : RC g B I J P x m n R K o fl φ ρ) (hk : k < n) : VCm I m (o k + 29) (2 * k + 1) := (h.2.2.2.1 k hk).2.2.2.2.2.2.1
theorem RC_f (h : RC g B I J P x m n R K o fl φ ρ) (hk : k < n) : VCf B I J P m (fl k) k := (h.2.2.2.1 k hk).2.2.2.2.2.2.2.1
theorem RC_l (h : RC g B I J P x m n R K o fl φ ρ) (hk : k < n) : VCl B I P m (o k) R (φ k) ρ k := (h.2.2.2.1 k hk).2.2.2.2.2.2.2.2
end RDJ
section RD0
variable {g : mm_G} {B : mm_B} {I : mm_TI} {J : mm_TJ} {P : mm_TP} {x m o n k : Nat}
theorem cl_finding_t {v : Int32} (h : CA B I P x o n k) (hv : I (o + 17) 12 = v) : Ct g mX11_finding [.ref x, .int (nI k)] B I J P (some (.int v), B, vst I x (nI 0), J, P) := by
  have ca := ca_t (g := g) (J := J) h
  obtain ⟨hV, hC, hxo, hx, h8, hk, hP⟩ := h
  refine ct_of (lv := [some (.ref x), some (.int (nI (k))), none]) (by decide +kernel) (Nat.le_of_ble_eq_true rfl) rfl ?_
  refine ev_aload_n 1 dX11_finding_0 rfl rfl ?_
  refine ev_iconstN 2 0 dX11_finding_1 rfl ?_
  refine ev_putI 5 mm_cl11 (j := 9) (Nat.le_of_ble_eq_true rfl) dX11_finding_2 lk270 rfl (fun _ _ _ => rfl) rfl rfl (hV.1 0 _ rfl) rfl ?_
  refine ev_aload_n 6 dX11_finding_5 rfl rfl ?_
  refine ev_iload_n 7 dX11_finding_6 rfl rfl ?_
  refine ev_invV 10 (Mc := mX11_coderAt) ⟨lk570, lk75, hdX11_coderAt, (Nat.le_of_ble_eq_true rfl), (Nat.le_of_ble_eq_true rfl)⟩ lk567 lk569 lk1 mm_cl11 rfl dX11_finding_7 (ca) rfl (hV.1 0 _ rfl) (Nat.le_of_ble_eq_true rfl) rfl rfl ?_
  refine ev_astore_n 11 (lv' := [_, some (.int _), _]) dX11_finding_10 (Nat.le_of_ble_eq_true rfl) rfl rfl ?_
  refine ev_aload_n 12 dX11_finding_11 rfl rfl ?_
  refine ev_ifnonnull_r 23 dX11_finding_12 (by decide) ?_
  refine ev_aload_n 24 dX11_finding_23 rfl rfl ?_
  refine ev_getP 27 mm_cl0 (j := 4) (Nat.le_of_ble_eq_true rfl) dX11_finding_24 lk551 (fun _ _ _ => rfl) (hC.1 0 _ rfl) (a := (o + 17)) (hC.2.2.1 3 _ _ _ rfl) rfl ?_
  refine ev_getI 30 mm_cl1 (j := 12) (Nat.le_of_ble_eq_true rfl) dX11_finding_27 lk492 (fun _ _ _ => rfl) (hC.1 17 _ rfl) rfl ?_
  refine ev_eqI (y := (v)) ((vzk hv (by omega))) ?_
  exact ev_iret dX11_finding_30 rfl (rfl)
theorem cl_finding_f {c : Int32} (hV : lyV B P x) (hx : I x 4 = nI n) (hc : ¬ (0 ≤ c ∧ c < nI n)) : Ct g mX11_finding [.ref x, .int c] B I J P (some (.int (-1)), B, vst I x (-1), J, P) := by
  refine ct_of (lv := [some (.ref x), some (.int (c)), none]) (by decide +kernel) (Nat.le_of_ble_eq_true rfl) rfl ?_
  refine ev_aload_n 1 dX11_finding_0 rfl rfl ?_
  refine ev_iconstN 2 0 dX11_finding_1 rfl ?_
  refine ev_putI 5 mm_cl11 (j := 9) (Nat.le_of_ble_eq_true rfl) dX11_finding_2 lk270 rfl (fun _ _ _ => rfl) rfl rfl (hV.1 0 _ rfl) rfl ?_
  refine ev_aload_n 6 dX11_finding_5 rfl rfl ?_
  refine ev_iload_n 7 dX11_finding_6 rfl rfl ?_
  refine ev_invV 10 (Mc := mX11_coderAt) ⟨lk570, lk75, hdX11_coderAt, (Nat.le_of_ble_eq_true rfl), (Nat.le_of_ble_eq_true rfl)⟩ lk567 lk569 lk1 mm_cl11 rfl dX11_finding_7 (ca_f hV hx hc) rfl (hV.1 0 _ rfl) (Nat.le_of_ble_eq_true rfl) rfl rfl ?_
  refine ev_astore_nN 11 (lv' := [_, some (.int _), _]) dX11_finding_10 (Nat.le_of_ble_eq_true rfl) rfl rfl ?_
  refine ev_aload_nN 12 dX11_finding_11 rfl rfl ?_
  refine ev_ifnonnull_n 15 dX11_finding_12 rfl ?_
  refine ev_aload_n 16 dX11_finding_15 rfl rfl ?_
  refine ev_iconst 17 (v := -1) dX11_finding_16 (by decide +kernel) rfl ?_
  refine ev_invV 20 (Mc := mX11_refuse) ⟨lk303, lk75, hdX11_refuse, (Nat.le_of_ble_eq_true rfl), (Nat.le_of_ble_eq_true rfl)⟩ lk300 lk302 lk0 mm_cl11 rfl dX11_finding_17 (ct_refuse hV) rfl (hV.1 0 _ rfl) (Nat.le_of_ble_eq_true rfl) rfl rfl ?_
  refine ev_goto 30 dX11_finding_20 (by decide) ?_
  exact ev_iret dX11_finding_30 rfl (rfl)
theorem ml_finding_t {v : Int32} (h : MA B I P m n k) (hv : I (m + 42) k = v) : Ct g mX12_finding [.ref m, .int (nI k)] B I J P (some (.int v), B, mo_st I m (nI 0), J, P) := by
  obtain ⟨hM, hn, h8, hk⟩ := h
  refine ct_of (lv := [some (.ref m), some (.int (nI (k)))]) (by decide +kernel) (Nat.le_of_ble_eq_true rfl) rfl ?_
  refine ev_aload_n 1 dX12_finding_0 rfl rfl ?_
  refine ev_iload_n 2 dX12_finding_1 rfl rfl ?_
  refine ev_invV 5 (Mc := mX12_isCoder) ⟨lk1552, lk80, hdX12_isCoder, (Nat.le_of_ble_eq_true rfl), (Nat.le_of_ble_eq_true rfl)⟩ lk1549 lk1551 lk40 mm_cl12 rfl dX12_finding_2 (ct_X12_isCoder_t hM hn h8 hk) rfl (hM.1 0 _ rfl) (Nat.le_of_ble_eq_true rfl) rfl rfl ?_
  refine ev_if_eqN 8 21 dX12_finding_5 (by decide) (by omega) rfl (fun hx => absurd hx ((by omega))) (fun hbr => ?_)
  refine ev_aload_n 9 dX12_finding_8 rfl rfl ?_
  refine ev_aload_n 10 dX12_finding_9 rfl rfl ?_
  refine ev_getP 13 mm_cl12 (j := 48) (Nat.le_of_ble_eq_true rfl) dX12_finding_10 lk1333 (fun _ _ _ => rfl) (hM.1 0 _ rfl) (a := (m + 42)) (hM.2.2 41 _ _ _ rfl) rfl ?_
  refine ev_iload_n 14 dX12_finding_13 rfl rfl ?_
  refine ev_iald 15 _ dX12_finding_14 (hM.1 42 _ rfl) rfl (by have hNN := hM.2.1 42 _ rfl; omega) rfl ?_
  refine ev_eqI (y := (v)) (hv) ?_
  refine ev_invV 18 (Mc := mX12_done) ⟨lk1544, lk80, hdX12_done, (Nat.le_of_ble_eq_true rfl), (Nat.le_of_ble_eq_true rfl)⟩ lk1541 lk1543 lk39 mm_cl12 rfl dX12_finding_15 (ct_X12_done hM) rfl (hM.1 0 _ rfl) (Nat.le_of_ble_eq_true rfl) rfl rfl ?_
  refine ev_goto 26 dX12_finding_18 (by decide) ?_
  exact ev_iret dX12_finding_26 rfl (rfl)
theorem ml_finding_f {c : Int32} (hM : lyM B P m) (hn : I m 0 = nI n) (hc : ¬ (0 ≤ c ∧ c < nI n)) : Ct g mX12_finding [.ref m, .int c] B I J P (some (.int (-1)), B, mo_st I m (-1), J, P) := by
  refine ct_of (lv := [some (.ref m), some (.int (c))]) (by decide +kernel) (Nat.le_of_ble_eq_true rfl) rfl ?_
  refine ev_aload_n 1 dX12_finding_0 rfl rfl ?_
  refine ev_iload_n 2 dX12_finding_1 rfl rfl ?_
  refine ev_invV 5 (Mc := mX12_isCoder) ⟨lk1552, lk80, hdX12_isCoder, (Nat.le_of_ble_eq_true rfl), (Nat.le_of_ble_eq_true rfl)⟩ lk1549 lk1551 lk40 mm_cl12 rfl dX12_finding_2 (ct_X12_isCoder_f hM (by rw [hn]; exact hc)) rfl (hM.1 0 _ rfl) (Nat.le_of_ble_eq_true rfl) rfl rfl ?_
  refine ev_if_eqN 8 21 dX12_finding_5 (by decide) (by omega) rfl (fun hbr => ?_) (fun hx => absurd ((by omega)) hx)
  refine ev_aload_n 22 dX12_finding_21 rfl rfl ?_
  refine ev_iconst 23 (v := -1) dX12_finding_22 (by decide +kernel) rfl ?_
  refine ev_invV 26 (Mc := mX12_refused) ⟨lk1540, lk80, hdX12_refused, (Nat.le_of_ble_eq_true rfl), (Nat.le_of_ble_eq_true rfl)⟩ lk1537 lk1539 lk38 mm_cl12 rfl dX12_finding_23 (ct_X12_refused hM) rfl (hM.1 0 _ rfl) (Nat.le_of_ble_eq_true rfl) rfl rfl ?_
  exact ev_iret dX12_finding_26 rfl (rfl)
theorem cl_repair_f {c : Int32} (hV : lyV B P x) (hx : I x 4 = nI n) (hc : ¬ (0 ≤ c ∧ c < nI n)) : Ct g mX11_repair [.ref x, .int c] B I J P (some (.int (-1)), B, vst I x (-1), J, P) := by
  refine ct_of (lv := [some (.ref x), some (.int (c)), none]) (by decide +kernel) (Nat.le_of_ble_eq_true rfl) rfl ?_
  refine ev_aload_n 1 dX11_repair_0 rfl rfl ?_
  refine ev_iconstN 2 0 dX11_repair_1 rfl ?_
  refine ev_putI 5 mm_cl11 (j := 9) (Nat.le_of_ble_eq_true rfl) dX11_repair_2 lk270 rfl (fun _ _ _ => rfl) rfl rfl (hV.1 0 _ rfl) rfl ?_
  refine ev_aload_n 6 dX11_repair_5 rfl rfl ?_
  refine ev_iload_n 7 dX11_repair_6 rfl rfl ?_
  refine ev_invV 10 (Mc := mX11_coderAt) ⟨lk570, lk75, hdX11_coderAt, (Nat.le_of_ble_eq_true rfl), (Nat.le_of_ble_eq_true rfl)⟩ lk567 lk569 lk1 mm_cl11 rfl dX11_repair_7 (ca_f hV hx hc) rfl (hV.1 0 _ rfl) (Nat.le_of_ble_eq_true rfl) rfl rfl ?_
  refine ev_astore_nN 11 (lv' := [_, some (.int _), _]) dX11_repair_10 (Nat.le_of_ble_eq_true rfl) rfl rfl ?_
  refine ev_aload_nN 12 dX11_repair_11 rfl rfl ?_
  refine ev_ifnonnull_n 15 dX11_repair_12 rfl ?_
  refine ev_aload_n 16 dX11_repair_15 rfl rfl ?_
  refine ev_iconst 17 (v := -1) dX11_repair_16 (by decide +kernel) rfl ?_
  refine ev_invV 20 (Mc := mX11_refuse) ⟨lk303, lk75, hdX11_refuse, (Nat.le_of_ble_eq_true rfl), (Nat.le_of_ble_eq_true rfl)⟩ lk300 lk302 lk0 mm_cl11 rfl dX11_repair_17 (ct_refuse hV) rfl (hV.1 0 _ rfl) (Nat.le_of_ble_eq_true rfl) rfl rfl ?_
  exact ev_iret dX11_repair_20 rfl (rfl)
theorem cl_repair_0 (h : CA B I P x o n k) (hv : I (o + 17) 15 = nI 0) : Ct g mX11_repair [.ref x, .int (nI k)] B I J P (some (.int (-4)), B, vst I x (-4), J, P) := by
  have ca := ca_t (g := g) (J := J) h
  obtain ⟨hV, hC, hxo, hx, h8, hk, hP⟩ := h
  refine ct_of (lv := [some (.ref x), some (.int (nI (k))), none]) (by decide +kernel) (Nat.le_of_ble_eq_true rfl) rfl ?_
  refine ev_aload_n 1 dX11_repair_0 rfl rfl ?_
  refine ev_iconstN 2 0 dX11_repair_1 rfl ?_
  refine ev_putI 5 mm_cl11 (j := 9) (Nat.le_of_ble_eq_true rfl) dX11_repair_2 lk270 rfl (fun _ _ _ => rfl) rfl rfl (hV.1 0 _ rfl) rfl ?_
  refine ev_aload_n 6 dX11_repair_5 rfl rfl ?_
  refine ev_iload_n 7 dX11_repair_6 rfl rfl ?_
  refine ev_invV 10 (Mc := mX11_coderAt) ⟨lk570, lk75, hdX11_coderAt, (Nat.le_of_ble_eq_true rfl), (Nat.le_of_ble_eq_true rfl)⟩ lk567 lk569 lk1 mm_cl11 rfl dX11_repair_7 (ca) rfl (hV.1 0 _ rfl) (Nat.le_of_ble_eq_true rfl) rfl rfl ?_
  refine ev_astore_n 11 (lv' := [_, some (.int _), _]) dX11_repair_10 (Nat.le_of_ble_eq_true rfl) rfl rfl ?_
  refine ev_aload_n 12 dX11_repair_11 rfl rfl ?_
  refine ev_ifnonnull_r 21 dX11_repair_12 (by decide) ?_
  refine ev_aload_n 22 dX11_repair_21 rfl rfl ?_
  refine ev_getP 25 mm_cl0 (j := 4) (Nat.le_of_ble_eq_true rfl) dX11_repair_22 lk551 (fun _ _ _ => rfl) (hC.1 0 _ rfl) (a := (o + 17)) (hC.2.2.1 3 _ _ _ rfl) rfl ?_
  refine ev_getI 28 mm_cl1 (j := 15) (Nat.le_of_ble_eq_true rfl) dX11_repair_25 lk497 (fun _ _ _ => rfl) (hC.1 17 _ rfl) rfl ?_
  refine ev_eqI (y := nI (0)) ((vzk hv (by omega))) ?_
  refine ev_if_neN 31 40 dX11_repair_28 (by decide) (by omega) rfl (fun hx => absurd ((by omega)) hx) (fun hbr => ?_)
  refine ev_aload_n 32 dX11_repair_31 rfl rfl ?_
  refine ev_bipush 34 (v := -4) dX11_repair_32 (by decide +kernel) rfl ?_
  refine ev_invV 37 (Mc := mX11_refuse) ⟨lk303, lk75, hdX11_refuse, (Nat.le_of_ble_eq_true rfl), (Nat.le_of_ble_eq_true rfl)⟩ lk300 lk302 lk0 mm_cl11 rfl dX11_repair_34 (ct_refuse hV) rfl (hV.1 0 _ rfl) (Nat.le_of_ble_eq_true rfl) rfl rfl ?_
  refine ev_goto 47 dX11_repair_37 (by decide) ?_
  exact ev_iret dX11_repair_47 rfl (rfl)
theorem cl_repair_t {de : Nat} {v : Int32} (h : CA B I P x o n k) (hv : I (o + 17) 15 = nI de) (h0 : 0 < de) (hd : de < 2 ^ 31) (hw : I (o + 17) 13 = v) : Ct g mX11_repair [.ref x, .int (nI k)] B I J P (some (.int v), B, vst I x (nI 0), J, P) := by
  have ca := ca_t (g := g) (J := J) h
  obtain ⟨hV, hC, hxo, hx, h8, hk, hP⟩ := h
  refine ct_of (lv := [some (.ref x), some (.int (nI (k))), none]) (by decide +kernel) (Nat.le_of_ble_eq_true rfl) rfl ?_
  refine ev_aload_n 1 dX11_repair_0 rfl rfl ?_
  refine ev_iconstN 2 0 dX11_repair_1 rfl ?_
  refine ev_putI 5 mm_cl11 (j := 9) (Nat.le_of_ble_eq_true rfl) dX11_repair_2 lk270 rfl (fun _ _ _ => rfl) rfl rfl (hV.1 0 _ rfl) rfl ?_
  refine ev_aload_n 6 dX11_repair_5 rfl rfl ?_
  refine ev_iload_n 7 dX11_repair_6 rfl rfl ?_
  refine ev_invV 10 (Mc := mX11_coderAt) ⟨lk570, lk75, hdX11_coderAt, (Nat.le_of_ble_eq_true rfl), (Nat.le_of_ble_eq_true rfl)⟩ lk567 lk569 lk1 mm_cl11 rfl dX11_repair_7 (ca) rfl (hV.1 0 _ rfl) (Nat.le_of_ble_eq_true rfl) rfl rfl ?_
  refine ev_astore_n 11 (lv' := [_, some (.int _), _]) dX11_repair_10 (Nat.le_of_ble_eq_true rfl) rfl rfl ?_
  refine ev_aload_n 12 dX11_repair_11 rfl rfl ?_
  refine ev_ifnonnull_r 21 dX11_repair_12 (by decide) ?_
  refine ev_aload_n 22 dX11_repair_21 rfl rfl ?_
  refine ev_getP 25 mm_cl0 (j := 4) (Nat.le_of_ble_eq_true rfl) dX11_repair_22 lk551 (fun _ _ _ => rfl) (hC.1 0 _ rfl) (a := (o + 17)) (hC.2.2.1 3 _ _ _ rfl) rfl ?_
  refine ev_getI 28 mm_cl1 (j := 15) (Nat.le_of_ble_eq_true rfl) dX11_repair_25 lk497 (fun _ _ _ => rfl) (hC.1 17 _ rfl) rfl ?_
  refine ev_eqI (y := nI (de)) ((vzk hv (by omega))) ?_
  refine ev_if_neN 31 40 dX11_repair_28 (by decide) (by omega) rfl (fun hbr => ?_) (fun hx => absurd hx ((by omega)))
  refine ev_aload_n 41 dX11_repair_40 rfl rfl ?_
  refine ev_getP 44 mm_cl0 (j := 4) (Nat.le_of_ble_eq_true rfl) dX11_repair_41 lk551 (fun _ _ _ => rfl) (hC.1 0 _ rfl) (a := (o + 17)) (hC.2.2.1 3 _ _ _ rfl) rfl ?_
  refine ev_getI 47 mm_cl1 (j := 13) (Nat.le_of_ble_eq_true rfl) dX11_repair_44 lk494 (fun _ _ _ => rfl) (hC.1 17 _ rfl) rfl ?_
  refine ev_eqI (y := (v)) ((vzk hw (by omega))) ?_
  exact ev_iret dX11_repair_47 rfl (rfl)
theorem ml_repair_f {c : Int32} (hM : lyM B P m) (hn : I m 0 = nI n) (hc : ¬ (0 ≤ c ∧ c < nI n)) : Ct g mX12_repair [.ref m, .int c] B I J P (some (.int (-1)), B, mo_st I m (-1), J, P) := by
  refine ct_of (lv := [some (.ref m), some (.int (c))]) (by decide +kernel) (Nat.le_of_ble_eq_true rfl) rfl ?_
  refine ev_aload_n 1 dX12_repair_0 rfl rfl ?_
  refine ev_iload_n 2 dX12_repair_1 rfl rfl ?_
  refine ev_invV 5 (Mc := mX12_isCoder) ⟨lk1552, lk80, hdX12_isCoder, (Nat.le_of_ble_eq_true rfl), (Nat.le_of_ble_eq_true rfl)⟩ lk1549 lk1551 lk40 mm_cl12 rfl dX12_repair_2 (ct_X12_isCoder_f hM (by rw [hn]; exact hc)) rfl (hM.1 0 _ rfl) (Nat.le_of_ble_eq_true rfl) rfl rfl ?_
  refine ev_if_neN 8 14 dX12_repair_5 (by decide) (by omega) rfl (fun hx => absurd ((by omega)) hx) (fun hbr => ?_)
  refine ev_aload_n 9 dX12_repair_8 rfl rfl ?_
  refine ev_iconst 10 (v := -1) dX12_repair_9 (by decide +kernel) rfl ?_
  refine ev_invV 13 (Mc := mX12_refused) ⟨lk1540, lk80, hdX12_refused, (Nat.le_of_ble_eq_true rfl), (Nat.le_of_ble_eq_true rfl)⟩ lk1537 lk1539 lk38 mm_cl12 rfl dX12_repair_10 (ct_X12_refused hM) rfl (hM.1 0 _ rfl) (Nat.le_of_ble_eq_true rfl) rfl rfl ?_
  exact ev_iret dX12_repair_13 rfl (rfl)
theorem ml_repair_0 (h : MA B I P m n k) (hv : I (m + 43) k = -4) : Ct g mX12_repair [.ref m, .int (nI k)] B I J P (some (.int (-4)), B, mo_st I m (-4), J, P) := by
  obtain ⟨hM, hn, h8, hk⟩ := h
  refine ct_of (lv := [some (.ref m), some (.int (nI (k)))]) (by decide +kernel) (Nat.le_of_ble_eq_true rfl) rfl ?_
  refine ev_aload_n 1 dX12_repair_0 rfl rfl ?_
  refine ev_iload_n 2 dX12_repair_1 rfl rfl ?_
  refine ev_invV 5 (Mc := mX12_isCoder) ⟨lk1552, lk80, hdX12_isCoder, (Nat.le_of_ble_eq_true rfl), (Nat.le_of_ble_eq_true rfl)⟩ lk1549 lk1551 lk40 mm_cl12 rfl dX12_repair_2 (ct_X12_isCoder_t hM hn h8 hk) rfl (hM.1 0 _ rfl) (Nat.le_of_ble_eq_true rfl) rfl rfl ?_
  refine ev_if_neN 8 14 dX12_repair_5 (by decide) (by omega) rfl (fun hbr => ?_) (fun hx => absurd hx ((by omega)))
  refine ev_aload_n 15 dX12_repair_14 rfl rfl ?_
  refine ev_getP 18 mm_cl12 (j := 49) (Nat.le_of_ble_eq_true rfl) dX12_repair_15 lk1334 (fun _ _ _ => rfl) (hM.1 0 _ rfl) (a := (m + 43)) (hM.2.2 42 _ _ _ rfl) rfl ?_
  refine ev_iload_n 19 dX12_repair_18 rfl rfl ?_
  refine ev_iald 20 _ dX12_repair_19 (hM.1 43 _ rfl) rfl (by have hNN := hM.2.1 43 _ rfl; omega) rfl ?_
  refine ev_eqI (y := (-4)) (hv) ?_
  refine ev_bipush 22 (v := -4) dX12_repair_20 (by decide +kernel) rfl ?_
  refine ev_icmp_ne 25 34 dX12_repair_22 (by decide) rfl (fun hx => absurd (rfl) hx) (fun hbr => ?_)
  refine ev_aload_n 26 dX12_repair_25 rfl rfl ?_
  refine ev_bipush 28 (v := -4) dX12_repair_26 (by decide +kernel) rfl ?_
  refine ev_invV 31 (Mc := mX12_refused) ⟨lk1540, lk80, hdX12_refused, (Nat.le_of_ble_eq_true rfl), (Nat.le_of_ble_eq_true rfl)⟩ lk1537 lk1539 lk38 mm_cl12 rfl dX12_repair_28 (ct_X12_refused hM) rfl (hM.1 0 _ rfl) (Nat.le_of_ble_eq_true rfl) rfl rfl ?_
  refine ev_goto 44 dX12_repair_31 (by decide) ?_
  exact ev_iret dX12_repair_44 rfl (rfl)
theorem ml_repair_t {v : Int32} (h : MA B I P m n k) (hv : I (m + 43) k = v) (hw : v ≠ -4) : Ct g mX12_repair [.ref m, .int (nI k)] B I J P (some (.int v), B, mo_st I m (nI 0), J, P) := by
  obtain ⟨hM, hn, h8, hk⟩ := h
  refine ct_of (lv := [some (.ref m), some (.int (nI (k)))]) (by decide +kernel) (Nat.le_of_ble_eq_true rfl) rfl ?_
  refine ev_aload_n 1 dX12_repair_0 rfl rfl ?_
  refine ev_iload_n 2 dX12_repair_1 rfl rfl ?_
  refine ev_invV 5 (Mc := mX12_isCoder) ⟨lk1552, lk80, hdX12_isCoder, (Nat.le_of_ble_eq_true rfl), (Nat.le_of_ble_eq_true rfl)⟩ lk1549 lk1551 lk40 mm_cl12 rfl dX12_repair_2 (ct_X12_isCoder_t hM hn h8 hk) rfl (hM.1 0 _ rfl) (Nat.le_of_ble_eq_true rfl) rfl rfl ?_
  refine ev_if_neN 8 14 dX12_repair_5 (by decide) (by omega) rfl (fun hbr => ?_) (fun hx => absurd hx ((by omega)))
  refine ev_aload_n 15 dX12_repair_14 rfl rfl ?_
  refine ev_getP 18 mm_cl12 (j := 49) (Nat.le_of_ble_eq_true rfl) dX12_repair_15 lk1334 (fun _ _ _ => rfl) (hM.1 0 _ rfl) (a := (m + 43)) (hM.2.2 42 _ _ _ rfl) rfl ?_
  refine ev_iload_n 19 dX12_repair_18 rfl rfl ?_
  refine ev_iald 20 _ dX12_repair_19 (hM.1 43 _ rfl) rfl (by have hNN := hM.2.1 43 _ rfl; omega) rfl ?_
  refine ev_eqI (y := (v)) (hv) ?_
  refine ev_bipush 22 (v := -4) dX12_repair_20 (by decide +kernel) rfl ?_
  refine ev_icmp_ne 25 34 dX12_repair_22 (by decide) rfl (fun hbr => ?_) (fun hx => absurd hx (hw))
  refine ev_aload_n 35 dX12_repair_34 rfl rfl ?_
  refine ev_aload_n 36 dX12_repair_35 rfl rfl ?_
  refine ev_getP 39 mm_cl12 (j := 49) (Nat.le_of_ble_eq_true rfl) dX12_repair_36 lk1334 (fun _ _ _ => rfl) (hM.1 0 _ rfl) (a := (m + 43)) (hM.2.2 42 _ _ _ rfl) rfl ?_
  refine ev_iload_n 40 dX12_repair_39 rfl rfl ?_
  refine ev_iald 41 _ dX12_repair_40 (hM.1 43 _ rfl) rfl (by have hNN := hM.2.1 43 _ rfl; omega) rfl ?_
  refine ev_eqI (y := (v)) (hv) ?_
  refine ev_invV 44 (Mc := mX12_done) ⟨lk1544, lk80, hdX12_done, (Nat.le_of_ble_eq_true rfl), (Nat.le_of_ble_eq_true rfl)⟩ lk1541 lk1543 lk39 mm_cl12 rfl dX12_repair_41 (ct_X12_done hM) rfl (hM.1 0 _ rfl) (Nat.le_of_ble_eq_true rfl) rfl rfl ?_
  exact ev_iret dX12_repair_44 rfl (rfl)
theorem cl_work_t {b i : Nat} {v : Int32} (hV : lyV B P x) (hb : I x 8 = nI b) (h1 : b ≤ 1284) (hi : i < b) (hv : I (x + 21) i = v) : Ct g mX11_work [.ref x, .int (nI i)] B I J P (some (.int v), B, vst I x (nI 0), J, P) := by
  refine ct_of (lv := [some (.ref x), some (.int (nI (i)))]) (by decide +kernel) (Nat.le_of_ble_eq_true rfl) rfl ?_
  refine ev_aload_n 1 dX11_work_0 rfl rfl ?_
  refine ev_iconstN 2 0 dX11_work_1 rfl ?_
  refine ev_putI 5 mm_cl11 (j := 9) (Nat.le_of_ble_eq_true rfl) dX11_work_2 lk270 rfl (fun _ _ _ => rfl) rfl rfl (hV.1 0 _ rfl) rfl ?_
  refine ev_aload_n 6 dX11_work_5 rfl rfl ?_
  refine ev_aload_n 7 dX11_work_6 rfl rfl ?_
  refine ev_getP 10 mm_cl11 (j := 7) (Nat.le_of_ble_eq_true rfl) dX11_work_7 lk268 (fun _ _ _ => rfl) (hV.1 0 _ rfl) (a := (x + 21)) (hV.2.2 5 _ _ _ rfl) rfl ?_
  refine ev_aload_n 11 dX11_work_10 rfl rfl ?_
  refine ev_getI 14 mm_cl11 (j := 8) (Nat.le_of_ble_eq_true rfl) dX11_work_11 lk269 (fun _ _ _ => rfl) (hV.1 0 _ rfl) rfl ?_
  refine ev_eqI (y := nI (b)) ((vzx hb (by omega))) ?_
  refine ev_iload_n 15 dX11_work_14 rfl rfl ?_
  refine ev_invV 18 (Mc := mX11_entry) ⟨lk1181, lk75, hdX11_entry, (Nat.le_of_ble_eq_true rfl), (Nat.le_of_ble_eq_true rfl)⟩ lk1178 lk1180 lk36 mm_cl11 rfl dX11_work_15 (ct_entry_t (hV.1 21 _ rfl) (by rw [hV.2.1 21 _ rfl]; exact h1) (by omega) hi (vzk hv (by omega)) hV) rfl (hV.1 0 _ rfl) (Nat.le_of_ble_eq_true rfl) rfl rfl ?_
  exact ev_iret dX11_work_18 rfl (rfl)
theorem cl_work_f {b : Nat} {i : Int32} (hV : lyV B P x) (hb : I x 8 = nI b) (hi : ¬ (0 ≤ i ∧ i < nI b)) : Ct g mX11_work [.ref x, .int i] B I J P (some (.int (-2147483648)), B, vst I x (-1), J, P) := by
  refine ct_of (lv := [some (.ref x), some (.int (i))]) (by decide +kernel) (Nat.le_of_ble_eq_true rfl) rfl ?_
  refine ev_aload_n 1 dX11_work_0 rfl rfl ?_
  refine ev_iconstN 2 0 dX11_work_1 rfl ?_
  refine ev_putI 5 mm_cl11 (j := 9) (Nat.le_of_ble_eq_true rfl) dX11_work_2 lk270 rfl (fun _ _ _ => rfl) rfl rfl (hV.1 0 _ rfl) rfl ?_
  refine ev_aload_n 6 dX11_work_5 rfl rfl ?_
  refine ev_aload_n 7 dX11_work_6 rfl rfl ?_
  refine ev_getP 10 mm_cl11 (j := 7) (Nat.le_of_ble_eq_true rfl) dX11_work_7 lk268 (fun _ _ _ => rfl) (hV.1 0 _ rfl) (a := (x + 21)) (hV.2.2 5 _ _ _ rfl) rfl ?_
  refine ev_aload_n 11 dX11_work_10 rfl rfl ?_
  refine ev_getI 14 mm_cl11 (j := 8) (Nat.le_of_ble_eq_true rfl) dX11_work_11 lk269 (fun _ _ _ => rfl) (hV.1 0 _ rfl) rfl ?_
  refine ev_eqI (y := nI (b)) ((vzx hb (by omega))) ?_
  refine ev_iload_n 15 dX11_work_14 rfl rfl ?_
  refine ev_invV 18 (Mc := mX11_entry) ⟨lk1181, lk75, hdX11_entry, (Nat.le_of_ble_eq_true rfl), (Nat.le_of_ble_eq_true rfl)⟩ lk1178 lk1180 lk36 mm_cl11 rfl dX11_work_15 (ct_entry_f (hV.1 21 _ rfl) hi hV) rfl (hV.1 0 _ rfl) (Nat.le_of_ble_eq_true rfl) rfl rfl ?_
  exact ev_iret dX11_work_18 rfl (rfl)
theorem nI_inr {b : Nat} {i : Int32} (hb : b < 2 ^ 31) (hi : ¬ (0 ≤ i ∧ i < nI b)) : ¬ (nI 0 ≤ i ∧ i ≤ nI b - nI 1) := fun ⟨h1, h2⟩ => by
  cases b with
  | zero =>
    have e : (nI 0 - nI 1 : Int32).toInt = -1 := by decide
    have a := Int32.le_iff_toInt_le.mp h1
    have b := Int32.le_iff_toInt_le.mp h2
    rw [e] at b; rw [nI_toInt (by omega)] at a; omega
  | succ b =>
    rw [nI_s1] at h2
    refine hi ⟨h1, ?_⟩
    have a := Int32.le_iff_toInt_le.mp h2
    rw [nI_toInt (by omega)] at a
    apply Int32.lt_iff_toInt_lt.mpr
    rw [nI_toInt hb]; omega
theorem nI_inr' {b i : Nat} (hb : b < 2 ^ 31) (hi : i < b) : nI 0 ≤ nI i ∧ nI i ≤ nI b - nI 1 := by
  obtain ⟨b', rfl⟩ : ∃ b', b = b' + 1 := ⟨b - 1, by omega⟩
  rw [nI_s1]; exact in_t (by omega) (by omega) (by omega)
theorem ml_work_t {b i : Nat} {v : Int32} (hM : lyM B P m) (hb : I m 9 = nI b) (h1 : b ≤ 1284) (hi : i < b) (hv : I (m + 4) i = v) : Ct g mX12_work [.ref m, .int (nI i)] B I J P (some (.int v), B, mo_st I m (nI 0), J, P) := by
  refine ct_of (lv := [some (.ref m), some (.int (nI (i)))]) (by decide +kernel) (Nat.le_of_ble_eq_true rfl) rfl ?_
  refine ev_iload_n 1 dX12_work_0 rfl rfl ?_
  refine ev_iconstN 2 0 dX12_work_1 rfl ?_
  refine ev_aload_n 3 dX12_work_2 rfl rfl ?_
  refine ev_getI 6 mm_cl12 (j := 9) (Nat.le_of_ble_eq_true rfl) dX12_work_3 lk1294 (fun _ _ _ => rfl) (hM.1 0 _ rfl) rfl ?_
  refine ev_eqI (y := ((nI b))) (hb) ?_
  refine ev_iconstN 7 1 dX12_work_6 rfl ?_
  refine ev_isub 8 dX12_work_7 rfl ?_
  refine ev_invS 11 (Mc := mX12_in) ⟨lk1536, lk80, hdX12_in, (Nat.le_of_ble_eq_true rfl), (Nat.le_of_ble_eq_true rfl)⟩ lk1534 lk1535 dX12_work_8 (ct_X12_in_t (nI_inr' (by omega) hi)) rfl (Nat.le_of_ble_eq_true rfl) rfl rfl ?_
  refine ev_if_eqN 14 27 dX12_work_11 (by decide) (by omega) rfl (fun hx => absurd hx ((by omega))) (fun hbr => ?_)
  refine ev_aload_n 15 dX12_work_14 rfl rfl ?_
  refine ev_aload_n 16 dX12_work_15 rfl rfl ?_
  refine ev_getP 19 mm_cl12 (j := 8) (Nat.le_of_ble_eq_true rfl) dX12_work_16 lk1293 (fun _ _ _ => rfl) (hM.1 0 _ rfl) (a := (m + 4)) (hM.2.2 3 _ _ _ rfl) rfl ?_
  refine ev_iload_n 20 dX12_work_19 rfl rfl ?_
  refine ev_iald 21 _ dX12_work_20 (hM.1 4 _ rfl) rfl (by have hNN := hM.2.1 4 _ rfl; omega) rfl ?_
  refine ev_eqI (y := (v)) (hv) ?_
  refine ev_invV 24 (Mc := mX12_done) ⟨lk1544, lk80, hdX12_done, (Nat.le_of_ble_eq_true rfl), (Nat.le_of_ble_eq_true rfl)⟩ lk1541 lk1543 lk39 mm_cl12 rfl dX12_work_21 (ct_X12_done hM) rfl (hM.1 0 _ rfl) (Nat.le_of_ble_eq_true rfl) rfl rfl ?_
  refine ev_goto 32 dX12_work_24 (by decide) ?_
  exact ev_iret dX12_work_32 rfl (rfl)
theorem ml_work_f {b : Nat} {i : Int32} (hM : lyM B P m) (hb : I m 9 = nI b) (h1 : b ≤ 1284) (hi : ¬ (0 ≤ i ∧ i < nI b)) : Ct g mX12_work [.ref m, .int i] B I J P (some (.int (-2147483648)), B, mo_st I m (-1), J, P) := by
  refine ct_of (lv := [some (.ref m), some (.int (i))]) (by decide +kernel) (Nat.le_of_ble_eq_true rfl) rfl ?_
  refine ev_iload_n 1 dX12_work_0 rfl rfl ?_
  refine ev_iconstN 2 0 dX12_work_1 rfl ?_
  refine ev_aload_n 3 dX12_work_2 rfl rfl ?_
  refine ev_getI 6 mm_cl12 (j := 9) (Nat.le_of_ble_eq_true rfl) dX12_work_3 lk1294 (fun _ _ _ => rfl) (hM.1 0 _ rfl) rfl ?_
  refine ev_eqI (y := ((nI b))) (hb) ?_
  refine ev_iconstN 7 1 dX12_work_6 rfl ?_
  refine ev_isub 8 dX12_work_7 rfl ?_
  refine ev_invS 11 (Mc := mX12_in) ⟨lk1536, lk80, hdX12_in, (Nat.le_of_ble_eq_true rfl), (Nat.le_of_ble_eq_true rfl)⟩ lk1534 lk1535 dX12_work_8 (ct_X12_in_f (nI_inr (by omega) hi)) rfl (Nat.le_of_ble_eq_true rfl) rfl rfl ?_
  refine ev_if_eqN 14 27 dX12_work_11 (by decide) (by omega) rfl (fun hbr => ?_) (fun hx => absurd ((by omega)) hx)
  refine ev_aload_n 28 dX12_work_27 rfl rfl ?_
  refine ev_iconst 29 (v := -1) dX12_work_28 (by decide +kernel) rfl ?_
  refine ev_invV 32 (Mc := mX12_refusedNo) ⟨lk1714, lk80, hdX12_refusedNo, (Nat.le_of_ble_eq_true rfl), (Nat.le_of_ble_eq_true rfl)⟩ lk1711 lk1713 lk61 mm_cl12 rfl dX12_work_29 (ct_X12_refusedNo hM) rfl (hM.1 0 _ rfl) (Nat.le_of_ble_eq_true rfl) rfl rfl ?_
  exact ev_iret dX12_work_32 rfl (rfl)
theorem cl_trace_t {b i : Nat} {v : Int32} (hV : lyV B P x) (hb : I (x + 1) 2 = nI b) (h1 : b ≤ 32) (hi : i < b) (hv : I (x + 3) i = v) : Ct g mX11_trace [.ref x, .int (nI i)] B I J P (some (.int v), B, vst I x (nI 0), J, P) := by
  refine ct_of (lv := [some (.ref x), some (.int (nI (i)))]) (by decide +kernel) (Nat.le_of_ble_eq_true rfl) rfl ?_
  refine ev_aload_n 1 dX11_trace_0 rfl rfl ?_
  refine ev_iconstN 2 0 dX11_trace_1 rfl ?_
  refine ev_putI 5 mm_cl11 (j := 9) (Nat.le_of_ble_eq_true rfl) dX11_trace_2 lk270 rfl (fun _ _ _ => rfl) rfl rfl (hV.1 0 _ rfl) rfl ?_
  refine ev_iload_n 6 dX11_trace_5 rfl rfl ?_
  refine ev_if_ltN 9 20 dX11_trace_6 (by decide) (by omega) rfl (fun hx => absurd hx ((not_false))) (fun hbr => ?_)
  refine ev_iload_n 10 dX11_trace_9 rfl rfl ?_
  refine ev_aload_n 11 dX11_trace_10 rfl rfl ?_
  refine ev_getP 14 mm_cl11 (j := 0) (Nat.le_of_ble_eq_true rfl) dX11_trace_11 lk261 (fun _ _ _ => rfl) (hV.1 0 _ rfl) (a := (x + 1)) (hV.2.2 0 _ _ _ rfl) rfl ?_
  refine ev_getI 17 mm_cl10 (j := 2) (Nat.le_of_ble_eq_true rfl) dX11_trace_14 lk113 (fun _ _ _ => rfl) (hV.1 1 _ rfl) rfl ?_
  refine ev_eqI (y := nI (b)) ((vzk hb (by omega))) ?_
  refine ev_icmp_ltN 20 29 dX11_trace_17 (by decide) (by omega) (by omega) rfl (fun hbr => ?_) (fun hx => absurd ((by omega)) hx)
  refine ev_aload_n 30 dX11_trace_29 rfl rfl ?_
  refine ev_getP 33 mm_cl11 (j := 0) (Nat.le_of_ble_eq_true rfl) dX11_trace_30 lk261 (fun _ _ _ => rfl) (hV.1 0 _ rfl) (a := (x + 1)) (hV.2.2 0 _ _ _ rfl) rfl ?_
  refine ev_getP 36 mm_cl10 (j := 1) (Nat.le_of_ble_eq_true rfl) dX11_trace_33 lk109 (fun _ _ _ => rfl) (hV.1 1 _ rfl) (a := (x + 3)) (hV.2.2 7 _ _ _ rfl) rfl ?_
  refine ev_iload_n 37 dX11_trace_36 rfl rfl ?_
  refine ev_iald 38 _ dX11_trace_37 (hV.1 3 _ rfl) rfl (by have hNN := hV.2.1 3 _ rfl; omega) rfl ?_
  refine ev_eqI (y := (v)) ((vzk hv (by omega))) ?_
  exact ev_iret dX11_trace_38 rfl (rfl)
theorem cl_trace_f {b : Nat} {i : Int32} (hV : lyV B P x) (hb : I (x + 1) 2 = nI b) (hi : ¬ (0 ≤ i ∧ i < nI b)) : Ct g mX11_trace [.ref x, .int i] B I J P (some (.int (-4)), B, vst I x (-4), J, P) := by
  refine ct_of (lv := [some (.ref x), some (.int (i))]) (by decide +kernel) (Nat.le_of_ble_eq_true rfl) rfl ?_
  refine ev_aload_n 1 dX11_trace_0 rfl rfl ?_
  refine ev_iconstN 2 0 dX11_trace_1 rfl ?_
  refine ev_putI 5 mm_cl11 (j := 9) (Nat.le_of_ble_eq_true rfl) dX11_trace_2 lk270 rfl (fun _ _ _ => rfl) rfl rfl (hV.1 0 _ rfl) rfl ?_
  refine ev_iload_n 6 dX11_trace_5 rfl rfl ?_
  refine ev_if_lt 9 20 dX11_trace_6 (by decide) rfl (fun h1 => ?_) (fun h1 => ?_)
  · refine ev_aload_n 21 dX11_trace_20 rfl rfl ?_
    refine ev_bipush 23 (v := -4) dX11_trace_21 (by decide +kernel) rfl ?_
    refine ev_invV 26 (Mc := mX11_refuse) ⟨lk303, lk75, hdX11_refuse, (Nat.le_of_ble_eq_true rfl), (Nat.le_of_ble_eq_true rfl)⟩ lk300 lk302 lk0 mm_cl11 rfl dX11_trace_23 (ct_refuse hV) rfl (hV.1 0 _ rfl) (Nat.le_of_ble_eq_true rfl) rfl rfl ?_
    refine ev_goto 38 dX11_trace_26 (by decide) ?_
    exact ev_iret dX11_trace_38 rfl (rfl)
  · refine ev_iload_n 10 dX11_trace_9 rfl rfl ?_
    refine ev_aload_n 11 dX11_trace_10 rfl rfl ?_
    refine ev_getP 14 mm_cl11 (j := 0) (Nat.le_of_ble_eq_true rfl) dX11_trace_11 lk261 (fun _ _ _ => rfl) (hV.1 0 _ rfl) (a := (x + 1)) (hV.2.2 0 _ _ _ rfl) rfl ?_
    refine ev_getI 17 mm_cl10 (j := 2) (Nat.le_of_ble_eq_true rfl) dX11_trace_14 lk113 (fun _ _ _ => rfl) (hV.1 1 _ rfl) rfl ?_
    refine ev_eqI (y := ((nI b))) ((vzk hb (by omega))) ?_
    refine ev_icmp_lt 20 29 dX11_trace_17 (by decide) rfl (fun hx => absurd hx ((fun h2 => hi ⟨Int32.not_lt.mp h1, h2⟩))) (fun hbr => ?_)
    refine ev_aload_n 21 dX11_trace_20 rfl rfl ?_
    refine ev_bipush 23 (v := -4) dX11_trace_21 (by decide +kernel) rfl ?_
    refine ev_invV 26 (Mc := mX11_refuse) ⟨lk303, lk75, hdX11_refuse, (Nat.le_of_ble_eq_true rfl), (Nat.le_of_ble_eq_true rfl)⟩ lk300 lk302 lk0 mm_cl11 rfl dX11_trace_23 (ct_refuse hV) rfl (hV.1 0 _ rfl) (Nat.le_of_ble_eq_true rfl) rfl rfl ?_
    refine ev_goto 38 dX11_trace_26 (by decide) ?_
    exact ev_iret dX11_trace_38 rfl (rfl)
theorem ml_trace_t {b i : Nat} {v : Int32} (hM : lyM B P m) (hb : I m 5 = nI b) (h1 : b ≤ 32) (hi : i < b) (hv : I (m + 2) i = v) : Ct g mX12_trace [.ref m, .int (nI i)] B I J P (some (.int v), B, mo_st I m (nI 0), J, P) := by
  refine ct_of (lv := [some (.ref m), some (.int (nI (i)))]) (by decide +kernel) (Nat.le_of_ble_eq_true rfl) rfl ?_
  refine ev_iload_n 1 dX12_trace_0 rfl rfl ?_
  refine ev_iconstN 2 0 dX12_trace_1 rfl ?_
  refine ev_aload_n 3 dX12_trace_2 rfl rfl ?_
  refine ev_getI 6 mm_cl12 (j := 5) (Nat.le_of_ble_eq_true rfl) dX12_trace_3 lk1290 (fun _ _ _ => rfl) (hM.1 0 _ rfl) rfl ?_
  refine ev_eqI (y := ((nI b))) (hb) ?_
  refine ev_iconstN 7 1 dX12_trace_6 rfl ?_
  refine ev_isub 8 dX12_trace_7 rfl ?_
  refine ev_invS 11 (Mc := mX12_in) ⟨lk1536, lk80, hdX12_in, (Nat.le_of_ble_eq_true rfl), (Nat.le_of_ble_eq_true rfl)⟩ lk1534 lk1535 dX12_trace_8 (ct_X12_in_t (nI_inr' (by omega) hi)) rfl (Nat.le_of_ble_eq_true rfl) rfl rfl ?_
  refine ev_if_eqN 14 27 dX12_trace_11 (by decide) (by omega) rfl (fun hx => absurd hx ((by omega))) (fun hbr => ?_)
  refine ev_aload_n 15 dX12_trace_14 rfl rfl ?_
  refine ev_aload_n 16 dX12_trace_15 rfl rfl ?_
  refine ev_getP 19 mm_cl12 (j := 4) (Nat.le_of_ble_eq_true rfl) dX12_trace_16 lk1289 (fun _ _ _ => rfl) (hM.1 0 _ rfl) (a := (m + 2)) (hM.2.2 1 _ _ _ rfl) rfl ?_
  refine ev_iload_n 20 dX12_trace_19 rfl rfl ?_
  refine ev_iald 21 _ dX12_trace_20 (hM.1 2 _ rfl) rfl (by have hNN := hM.2.1 2 _ rfl; omega) rfl ?_
  refine ev_eqI (y := (v)) (hv) ?_
  refine ev_invV 24 (Mc := mX12_done) ⟨lk1544, lk80, hdX12_done, (Nat.le_of_ble_eq_true rfl), (Nat.le_of_ble_eq_true rfl)⟩ lk1541 lk1543 lk39 mm_cl12 rfl dX12_trace_21 (ct_X12_done hM) rfl (hM.1 0 _ rfl) (Nat.le_of_ble_eq_true rfl) rfl rfl ?_
  refine ev_goto 33 dX12_trace_24 (by decide) ?_
  exact ev_iret dX12_trace_33 rfl (rfl)
theorem ml_trace_f {b : Nat} {i : Int32} (hM : lyM B P m) (hb : I m 5 = nI b) (h1 : b ≤ 32) (hi : ¬ (0 ≤ i ∧ i < nI b)) : Ct g mX12_trace [.ref m, .int i] B I J P (some (.int (-4)), B, mo_st I m (-4), J, P) := by
  refine ct_of (lv := [some (.ref m), some (.int (i))]) (by decide +kernel) (Nat.le_of_ble_eq_true rfl) rfl ?_
  refine ev_iload_n 1 dX12_trace_0 rfl rfl ?_
  refine ev_iconstN 2 0 dX12_trace_1 rfl ?_
  refine ev_aload_n 3 dX12_trace_2 rfl rfl ?_
  refine ev_getI 6 mm_cl12 (j := 5) (Nat.le_of_ble_eq_true rfl) dX12_trace_3 lk1290 (fun _ _ _ => rfl) (hM.1 0 _ rfl) rfl ?_
  refine ev_eqI (y := ((nI b))) (hb) ?_
  refine ev_iconstN 7 1 dX12_trace_6 rfl ?_
  refine ev_isub 8 dX12_trace_7 rfl ?_
  refine ev_invS 11 (Mc := mX12_in) ⟨lk1536, lk80, hdX12_in, (Nat.le_of_ble_eq_true rfl), (Nat.le_of_ble_eq_true rfl)⟩ lk1534 lk1535 dX12_trace_8 (ct_X12_in_f (nI_inr (by omega) hi)) rfl (Nat.le_of_ble_eq_true rfl) rfl rfl ?_
  refine ev_if_eqN 14 27 dX12_trace_11 (by decide) (by omega) rfl (fun hbr => ?_) (fun hx => absurd ((by omega)) hx)
  refine ev_aload_n 28 dX12_trace_27 rfl rfl ?_
  refine ev_bipush 30 (v := -4) dX12_trace_28 (by decide +kernel) rfl ?_
  refine ev_invV 33 (Mc := mX12_refused) ⟨lk1540, lk80, hdX12_refused, (Nat.le_of_ble_eq_true rfl), (Nat.le_of_ble_eq_true rfl)⟩ lk1537 lk1539 lk38 mm_cl12 rfl dX12_trace_30 (ct_X12_refused hM) rfl (hM.1 0 _ rfl) (Nat.le_of_ble_eq_true rfl) rfl rfl ?_
  exact ev_iret dX12_trace_33 rfl (rfl)
theorem cl_found_t {i : Nat} {v : Int32} (hV : lyV B P x) (h0 : 1 ≤ i) (hi : i ≤ 7) (hv : I (x + 2) i = v) : Ct g mX11_found [.ref x, .int (nI i)] B I J P (some (.int v), B, vst I x (nI 0), J, P) := by
  refine ct_of (lv := [some (.ref x), some (.int (nI (i)))]) (by decide +kernel) (Nat.le_of_ble_eq_true rfl) rfl ?_
  refine ev_aload_n 1 dX11_found_0 rfl rfl ?_
  refine ev_iconstN 2 0 dX11_found_1 rfl ?_
  refine ev_putI 5 mm_cl11 (j := 9) (Nat.le_of_ble_eq_true rfl) dX11_found_2 lk270 rfl (fun _ _ _ => rfl) rfl rfl (hV.1 0 _ rfl) rfl ?_
  refine ev_iload_n 6 dX11_found_5 rfl rfl ?_
  refine ev_iconstN 7 1 dX11_found_6 rfl ?_
  refine ev_icmp_ltN 10 16 dX11_found_7 (by decide) (by omega) (by omega) rfl (fun hx => absurd hx ((by omega))) (fun hbr => ?_)
  refine ev_iload_n 11 dX11_found_10 rfl rfl ?_
  refine ev_bipushN 13 7 dX11_found_11 (by decide +kernel) rfl ?_
  refine ev_icmp_leN 16 24 dX11_found_13 (by decide) (by omega) (by omega) rfl (fun hbr => ?_) (fun hx => absurd ((by omega)) hx)
  refine ev_aload_n 25 dX11_found_24 rfl rfl ?_
  refine ev_getP 28 mm_cl11 (j := 0) (Nat.le_of_ble_eq_true rfl) dX11_found_25 lk261 (fun _ _ _ => rfl) (hV.1 0 _ rfl) (a := (x + 1)) (hV.2.2 0 _ _ _ rfl) rfl ?_
  refine ev_getP 31 mm_cl10 (j := 0) (Nat.le_of_ble_eq_true rfl) dX11_found_28 lk107 (fun _ _ _ => rfl) (hV.1 1 _ rfl) (a := (x + 2)) (hV.2.2 6 _ _ _ rfl) rfl ?_
  refine ev_iload_n 32 dX11_found_31 rfl rfl ?_
  refine ev_iald 33 _ dX11_found_32 (hV.1 2 _ rfl) rfl (by have hNN := hV.2.1 2 _ rfl; omega) rfl ?_
  refine ev_eqI (y := (v)) ((vzk hv (by omega))) ?_
  exact ev_iret dX11_found_33 rfl (rfl)
theorem cl_found_f {i : Int32} (hV : lyV B P x) (hi : ¬ (nI 1 ≤ i ∧ i ≤ nI 7)) : Ct g mX11_found [.ref x, .int i] B I J P (some (.int (-1)), B, vst I x (-1), J, P) := by
  refine ct_of (lv := [some (.ref x), some (.int (i))]) (by decide +kernel) (Nat.le_of_ble_eq_true rfl) rfl ?_
  refine ev_aload_n 1 dX11_found_0 rfl rfl ?_
  refine ev_iconstN 2 0 dX11_found_1 rfl ?_
  refine ev_putI 5 mm_cl11 (j := 9) (Nat.le_of_ble_eq_true rfl) dX11_found_2 lk270 rfl (fun _ _ _ => rfl) rfl rfl (hV.1 0 _ rfl) rfl ?_
  refine ev_iload_n 6 dX11_found_5 rfl rfl ?_
  refine ev_iconstN 7 1 dX11_found_6 rfl ?_
  refine ev_icmp_lt 10 16 dX11_found_7 (by decide) rfl (fun h1 => ?_) (fun h1 => ?_)
  · refine ev_aload_n 17 dX11_found_16 rfl rfl ?_
    refine ev_iconst 18 (v := -1) dX11_found_17 (by decide +kernel) rfl ?_
    refine ev_invV 21 (Mc := mX11_refuse) ⟨lk303, lk75, hdX11_refuse, (Nat.le_of_ble_eq_true rfl), (Nat.le_of_ble_eq_true rfl)⟩ lk300 lk302 lk0 mm_cl11 rfl dX11_found_18 (ct_refuse hV) rfl (hV.1 0 _ rfl) (Nat.le_of_ble_eq_true rfl) rfl rfl ?_
    refine ev_goto 33 dX11_found_21 (by decide) ?_
    exact ev_iret dX11_found_33 rfl (rfl)
  · refine ev_iload_n 11 dX11_found_10 rfl rfl ?_
    refine ev_bipushN 13 7 dX11_found_11 (by decide +kernel) rfl ?_
    refine ev_icmp_le 16 24 dX11_found_13 (by decide) rfl (fun hx => absurd hx ((fun h2 => hi ⟨Int32.not_lt.mp h1, h2⟩))) (fun hbr => ?_)
    refine ev_aload_n 17 dX11_found_16 rfl rfl ?_
    refine ev_iconst 18 (v := -1) dX11_found_17 (by decide +kernel) rfl ?_
    refine ev_invV 21 (Mc := mX11_refuse) ⟨lk303, lk75, hdX11_refuse, (Nat.le_of_ble_eq_true rfl), (Nat.le_of_ble_eq_true rfl)⟩ lk300 lk302 lk0 mm_cl11 rfl dX11_found_18 (ct_refuse hV) rfl (hV.1 0 _ rfl) (Nat.le_of_ble_eq_true rfl) rfl rfl ?_
    refine ev_goto 33 dX11_found_21 (by decide) ?_
    exact ev_iret dX11_found_33 rfl (rfl)
theorem ml_found_t {i : Nat} {v : Int32} (hM : lyM B P m) (h0 : 1 ≤ i) (hi : i ≤ 7) (hv : I (m + 1) i = v) : Ct g mX12_found [.ref m, .int (nI i)] B I J P (some (.int v), B, mo_st I m (nI 0), J, P) := by
  refine ct_of (lv := [some (.ref m), some (.int (nI (i)))]) (by decide +kernel) (Nat.le_of_ble_eq_true rfl) rfl ?_
  refine ev_iload_n 1 dX12_found_0 rfl rfl ?_
  refine ev_iconstN 2 1 dX12_found_1 rfl ?_
  refine ev_bipushN 4 7 dX12_found_2 (by decide +kernel) rfl ?_
  refine ev_invS 7 (Mc := mX12_in) ⟨lk1536, lk80, hdX12_in, (Nat.le_of_ble_eq_true rfl), (Nat.le_of_ble_eq_true rfl)⟩ lk1534 lk1535 dX12_found_4 (ct_X12_in_t (in_t h0 hi (by omega))) rfl (Nat.le_of_ble_eq_true rfl) rfl rfl ?_
  refine ev_if_eqN 10 23 dX12_found_7 (by decide) (by omega) rfl (fun hx => absurd hx ((by omega))) (fun hbr => ?_)
  refine ev_aload_n 11 dX12_found_10 rfl rfl ?_
  refine ev_aload_n 12 dX12_found_11 rfl rfl ?_
  refine ev_getP 15 mm_cl12 (j := 3) (Nat.le_of_ble_eq_true rfl) dX12_found_12 lk1288 (fun _ _ _ => rfl) (hM.1 0 _ rfl) (a := (m + 1)) (hM.2.2 0 _ _ _ rfl) rfl ?_
  refine ev_iload_n 16 dX12_found_15 rfl rfl ?_
  refine ev_iald 17 _ dX12_found_16 (hM.1 1 _ rfl) rfl (by have hNN := hM.2.1 1 _ rfl; omega) rfl ?_
  refine ev_eqI (y := (v)) (hv) ?_
  refine ev_invV 20 (Mc := mX12_done) ⟨lk1544, lk80, hdX12_done, (Nat.le_of_ble_eq_true rfl), (Nat.le_of_ble_eq_true rfl)⟩ lk1541 lk1543 lk39 mm_cl12 rfl dX12_found_17 (ct_X12_done hM) rfl (hM.1 0 _ rfl) (Nat.le_of_ble_eq_true rfl) rfl rfl ?_
  refine ev_goto 28 dX12_found_20 (by decide) ?_
  exact ev_iret dX12_found_28 rfl (rfl)
theorem ml_found_f {i : Int32} (hM : lyM B P m) (hi : ¬ (nI 1 ≤ i ∧ i ≤ nI 7)) : Ct g mX12_found [.ref m, .int i] B I J P (some (.int (-1)), B, mo_st I m (-1), J, P) := by
  refine ct_of (lv := [some (.ref m), some (.int (i))]) (by decide +kernel) (Nat.le_of_ble_eq_true rfl) rfl ?_
  refine ev_iload_n 1 dX12_found_0 rfl rfl ?_
  refine ev_iconstN 2 1 dX12_found_1 rfl ?_
  refine ev_bipushN 4 7 dX12_found_2 (by decide +kernel) rfl ?_
  refine ev_invS 7 (Mc := mX12_in) ⟨lk1536, lk80, hdX12_in, (Nat.le_of_ble_eq_true rfl), (Nat.le_of_ble_eq_true rfl)⟩ lk1534 lk1535 dX12_found_4 (ct_X12_in_f hi) rfl (Nat.le_of_ble_eq_true rfl) rfl rfl ?_
  refine ev_if_eqN 10 23 dX12_found_7 (by decide) (by omega) rfl (fun hbr => ?_) (fun hx => absurd ((by omega)) hx)
  refine ev_aload_n 24 dX12_found_23 rfl rfl ?_
  refine ev_iconst 25 (v := -1) dX12_found_24 (by decide +kernel) rfl ?_
  refine ev_invV 28 (Mc := mX12_refused) ⟨lk1540, lk80, hdX12_refused, (Nat.le_of_ble_eq_true rfl), (Nat.le_of_ble_eq_true rfl)⟩ lk1537 lk1539 lk38 mm_cl12 rfl dX12_found_25 (ct_X12_refused hM) rfl (hM.1 0 _ rfl) (Nat.le_of_ble_eq_true rfl) rfl rfl ?_
  exact ev_iret dX12_found_28 rfl (rfl)
theorem cl_saturations {v : Int64} (hV : lyV B P x) (hv : J (x + 1) 3 = v) : Ct g mX11_saturations [.ref x] B I J P (some (.long v), B, vst I x (nI 0), J, P) := by
  refine ct_of (lv := [some (.ref x)]) (by decide +kernel) (Nat.le_of_ble_eq_true rfl) rfl ?_
  refine ev_aload_n 1 dX11_saturations_0 rfl rfl ?_
  refine ev_iconstN 2 0 dX11_saturations_1 rfl ?_
  refine ev_putI 5 mm_cl11 (j := 9) (Nat.le_of_ble_eq_true rfl) dX11_saturations_2 lk270 rfl (fun _ _ _ => rfl) rfl rfl (hV.1 0 _ rfl) rfl ?_
  refine ev_aload_n 6 dX11_saturations_5 rfl rfl ?_
  refine ev_getP 9 mm_cl11 (j := 0) (Nat.le_of_ble_eq_true rfl) dX11_saturations_6 lk261 (fun _ _ _ => rfl) (hV.1 0 _ rfl) (a := (x + 1)) (hV.2.2 0 _ _ _ rfl) rfl ?_
  refine ev_getJ 12 mm_cl10 (j := 3) (Nat.le_of_ble_eq_true rfl) dX11_saturations_9 lk115 (fun _ _ _ => rfl) (hV.1 1 _ rfl) rfl ?_
  refine ev_eqJ (y := (v)) (hv) ?_
  exact ev_lret dX11_saturations_12 rfl (rfl)
theorem ml_saturations {v : Int64} (hM : lyM B P m) (hv : J m 2 = v) : Ct g mX12_saturations [.ref m] B I J P (some (.long v), B, mo_st I m (nI 0), J, P) := by
  refine ct_of (lv := [some (.ref m)]) (by decide +kernel) (Nat.le_of_ble_eq_true rfl) rfl ?_
  refine ev_aload_n 1 dX12_saturations_0 rfl rfl ?_
  refine ev_iconstN 2 0 dX12_saturations_1 rfl ?_
  refine ev_putI 5 mm_cl12 (j := 1) (Nat.le_of_ble_eq_true rfl) dX12_saturations_2 lk1286 rfl (fun _ _ _ => rfl) rfl rfl (hM.1 0 _ rfl) rfl ?_
  refine ev_aload_n 6 dX12_saturations_5 rfl rfl ?_
  refine ev_getJ 9 mm_cl12 (j := 2) (Nat.le_of_ble_eq_true rfl) dX12_saturations_6 lk1287 (fun _ _ _ => rfl) (hM.1 0 _ rfl) rfl ?_
  refine ev_eqJ (y := (v)) (hv) ?_
  exact ev_lret dX12_saturations_9 rfl (rfl)
theorem cl_status {v : Int32} (hV : lyV B P x) (hv : I x 9 = v) : Ct g mX11_status [.ref x] B I J P (some (.int v), B, I, J, P) := by
  refine ct_of (lv := [some (.ref x)]) (by decide +kernel) (Nat.le_of_ble_eq_true rfl) rfl ?_
  refine ev_aload_n 1 dX11_status_0 rfl rfl ?_
  refine ev_getI 4 mm_cl11 (j := 9) (Nat.le_of_ble_eq_true rfl) dX11_status_1 lk270 (fun _ _ _ => rfl) (hV.1 0 _ rfl) rfl ?_
  refine ev_eqI (y := (v)) (hv) ?_
  exact ev_iret dX11_status_4 rfl (rfl)
theorem ml_status {v : Int32} (hM : lyM B P m) (hv : I m 1 = v) : Ct g mX12_status [.ref m] B I J P (some (.int v), B, I, J, P) := by
  refine ct_of (lv := [some (.ref m)]) (by decide +kernel) (Nat.le_of_ble_eq_true rfl) rfl ?_
  refine ev_aload_n 1 dX12_status_0 rfl rfl ?_
  refine ev_getI 4 mm_cl12 (j := 1) (Nat.le_of_ble_eq_true rfl) dX12_status_1 lk1286 (fun _ _ _ => rfl) (hM.1 0 _ rfl) rfl ?_
  refine ev_eqI (y := (v)) (hv) ?_
  exact ev_iret dX12_status_4 rfl (rfl)
end RD0
section RD1
variable {g : mm_G} {c : Int32}
theorem jo_finding : JO g mX11_finding mX12_finding [.int c] := by
  refine jo_rd fun K x m B I J P n R o fl φ ρ hK h => ?_
  obtain ⟨hV, hM, -⟩ := RG_ly h
  obtain ⟨h8, hx4, hm0⟩ := RG_n h
  have xm := (RC_xm h).1
  rcases cd_cases h8 c with ⟨k, hk, rfl⟩ | hc
  · obtain ⟨-, -, -, -, -, -, e, -⟩ := RC_d h hk
    exact ⟨_, _, cl_finding_t (CA_of h hk) e, fun I1 h1 => ml_finding_t (MA_of h hk (h1 _ (by omega))) (by rw [h1 _ (by omega)])⟩
  · exact ⟨_, _, cl_finding_f hV hx4 hc, fun I1 h1 => ml_finding_f hM (by rw [h1 _ (by omega)]; exact hm0) hc⟩
theorem jo_repair : JO g mX11_repair mX12_repair [.int c] := by
  refine jo_rd fun K x m B I J P n R o fl φ ρ hK h => ?_
  obtain ⟨hV, hM, -⟩ := RG_ly h
  obtain ⟨h8, hx4, hm0⟩ := RG_n h
  have xm := (RC_xm h).1
  rcases cd_cases h8 c with ⟨k, hk, rfl⟩ | hc
  · obtain ⟨-, -, -, -, -, -, -, ⟨de, d1, d2, d3, ⟨rfl, d4⟩ | ⟨d4, d5, d6⟩⟩, -⟩ := RC_d h hk
    · exact ⟨_, _, cl_repair_0 (CA_of h hk) d2, fun I1 h1 => ml_repair_0 (MA_of h hk (h1 _ (by omega))) (by rw [h1 _ (by omega)]; exact d4)⟩
    · exact ⟨_, _, cl_repair_t (CA_of h hk) d2 d4 (by omega) d5.symm, fun I1 h1 => ml_repair_t (MA_of h hk (h1 _ (by omega))) (by rw [h1 _ (by omega)]) d6⟩
  · exact ⟨_, _, cl_repair_f hV hx4 hc, fun I1 h1 => ml_repair_f hM (by rw [h1 _ (by omega)]; exact hm0) hc⟩
theorem nn_cases {b : Nat} (hb : b < 2 ^ 31) (c : Int32) : (∃ k, k < b ∧ c = nI k) ∨ ¬ (0 ≤ c ∧ c < nI b) := by
  by_cases h : 0 ≤ c ∧ c < nI b
  · left
    have h1 : (0 : Int) ≤ c.toInt := by have := Int32.le_iff_toInt_le.mp h.1; simpa using this
    have h2 : c.toInt < (b : Int) := by have := Int32.lt_iff_toInt_lt.mp h.2; rw [nI_toInt (by omega)] at this; exact this
    refine ⟨c.toInt.toNat, by omega, Int32.toInt_inj.mp ?_⟩
    rw [nI_toInt (by omega)]; omega
  · exact Or.inr h
theorem jo_work : JO g mX11_work mX12_work [.int c] := by
  refine jo_rd fun K x m B I J P n R o fl φ ρ hK h => ?_
  obtain ⟨hV, hM, -⟩ := RG_ly h
  have xm := (RC_xm h).1
  obtain ⟨b, b1, b2, b3, b4⟩ := RG_b h
  rcases nn_cases (b := b) (by omega) c with ⟨i, hi, rfl⟩ | hc
  · exact ⟨_, _, cl_work_t hV b2 b1 hi (b4 i hi), fun I1 h1 => ml_work_t hM (by rw [h1 _ (by omega)]; exact b3) b1 hi (by rw [h1 _ (by omega)])⟩
  · exact ⟨_, _, cl_work_f hV b2 hc, fun I1 h1 => ml_work_f hM (by rw [h1 _ (by omega)]; exact b3) b1 hc⟩
theorem jo_trace : JO g mX11_trace mX12_trace [.int c] := by
  refine jo_rd fun K x m B I J P n R o fl φ ρ hK h => ?_
  obtain ⟨hV, hM, -⟩ := RG_ly h
  have xm := (RC_xm h).1
  obtain ⟨b, b1, b2, b3, b4⟩ := RG_t h
  rcases nn_cases (b := b) (by omega) c with ⟨i, hi, rfl⟩ | hc
  · exact ⟨_, _, cl_trace_t hV b2 b1 hi (b4 i hi), fun I1 h1 => ml_trace_t hM (by rw [h1 _ (by omega)]; exact b3) b1 hi (by rw [h1 _ (by omega)])⟩
  · exact ⟨_, _, cl_trace_f hV b2 hc, fun I1 h1 => ml_trace_f hM (by rw [h1 _ (by omega)]; exact b3) b1 hc⟩
theorem jo_found : JO g mX11_found mX12_found [.int c] := by
  refine jo_rd fun K x m B I J P n R o fl φ ρ hK h => ?_
  obtain ⟨hV, hM, -⟩ := RG_ly h
  have xm := (RC_xm h).1
  rcases in_cases (lo := 1) (hi := 7) (by omega) (by omega) c with ⟨i, h1, h2, rfl⟩ | hc
  · exact ⟨_, _, cl_found_t hV h1 h2 ((RG_j h).2 i (by omega)), fun I1 h3 => ml_found_t hM h1 h2 (by rw [h3 _ (by omega)])⟩
  · exact ⟨_, _, cl_found_f hV hc, fun I1 h1 => ml_found_f hM hc⟩
theorem jo_saturations : JOL g mX11_saturations mX12_saturations [] := by
  refine jo_rd fun K x m B I J P n R o fl φ ρ hK h => ?_
  obtain ⟨hV, hM, -⟩ := RG_ly h
  exact ⟨_, _, cl_saturations hV (RG_j h).1, fun I1 h1 => ml_saturations hM rfl⟩
theorem jo_status : JO g mX11_status mX12_status [] := by
  intro K x m B I J P hK ⟨n, R, o, fl, φ, ρ, hR, h⟩
  obtain ⟨hV, hM, -⟩ := RG_ly h
  exact ⟨_, B, I, J, P, I, J, P, cl_status hV h.2.1, ml_status hM rfl, ⟨n, R, o, fl, φ, ρ, by omega, RC_mono h (by omega)⟩, Ext_rf B, by omega, by omega, fun _ _ => rfl⟩
end RD1
