/-! WAVES: the model's, and joint -/
theorem ab_m1 {a b : Nat} (h : a < b) (hb : b < 2 ^ 30) : -(nI a - nI b) = nI (ab_d a b) := by
  unfold ab_d
  rw [if_pos h, nI_subm (by omega) hb, Int32.sub_eq_add_neg, Int32.zero_add, Int32.neg_neg]
theorem ab_m2 {a b : Nat} (h : ¬ a < b) : nI a - nI b = nI (ab_d a b) := by
  unfold ab_d
  rw [if_neg h, nI_subn (by omega)]
theorem ab_lt {a b : Nat} (h : a < b) (hb : b < 2 ^ 30) : nI a - nI b < 0 := by
  rw [nI_subm (by omega) hb]
  apply Int32.lt_iff_toInt_lt.mpr
  rw [neg_t (by omega), show (0 : Int32).toInt = 0 from rfl]; omega
section WV1
variable {g : mm_G} {B : mm_B} {I : mm_TI} {J : mm_TJ} {P : mm_TP} {x m o n k : Nat}
theorem ml_wave_f {c kd p q n' : Int32} (hM : lyM B P m) (hn : I m 0 = nI n) (hc : ¬ (0 ≤ c ∧ c < nI n)) : Ct g mX12_wave [.ref m, .int c, .int kd, .int p, .int q, .int (n')] B I J P (some (.int (-1)), B, mo_st I m (-1), J, P) := by
  refine ct_of (lv := [some (.ref m), some (.int (c)), some (.int (kd)), some (.int (p)), some (.int (q)), some (.int (n')), none, none, none, none, none]) (by decide +kernel) (Nat.le_of_ble_eq_true rfl) rfl ?_
  refine ev_aload_n 1 dX12_wave_0 rfl rfl ?_
  refine ev_iload_n 2 dX12_wave_1 rfl rfl ?_
  refine ev_invV 5 (Mc := mX12_isCoder) ⟨lk1552, lk80, hdX12_isCoder, (Nat.le_of_ble_eq_true rfl), (Nat.le_of_ble_eq_true rfl)⟩ lk1549 lk1551 lk40 mm_cl12 rfl dX12_wave_2 (ct_X12_isCoder_f hM (by rw [hn]; exact hc)) rfl (hM.1 0 _ rfl) (Nat.le_of_ble_eq_true rfl) rfl rfl ?_
  refine ev_if_eqN 8 29 dX12_wave_5 (by decide) (by omega) rfl (fun hbr => ?_) (fun hx => absurd ((by omega)) hx)
  refine ev_aload_n 30 dX12_wave_29 rfl rfl ?_
  refine ev_iconst 31 (v := -1) dX12_wave_30 (by decide +kernel) rfl ?_
  refine ev_invV 34 (Mc := mX12_refused) ⟨lk1540, lk80, hdX12_refused, (Nat.le_of_ble_eq_true rfl), (Nat.le_of_ble_eq_true rfl)⟩ lk1537 lk1539 lk38 mm_cl12 rfl dX12_wave_31 (ct_X12_refused hM) rfl (hM.1 0 _ rfl) (Nat.le_of_ble_eq_true rfl) rfl rfl ?_
  exact ev_iret dX12_wave_34 rfl (rfl)
theorem ml_wave_b {kd p q n' : Int32} (h : MA B I P m n k) (hr : ¬ ((nI 1 ≤ n' ∧ n' ≤ nI 320) ∧ WG kd p q)) : Ct g mX12_wave [.ref m, .int (nI k), .int kd, .int p, .int q, .int (n')] B I J P (some (.int (-1)), B, mo_st I m (-1), J, P) := by
  obtain ⟨hM, hn, h8, hk⟩ := h
  by_cases h1 : nI 0 ≤ kd ∧ kd ≤ nI 4
  · by_cases h2 : nI 1 ≤ n' ∧ n' ≤ nI 320
    · have hw : ¬ WG kd p q := fun e => hr ⟨h2, e⟩
      by_cases h3 : kd = 0
      · have hs : ¬ (-32768 ≤ p ∧ p ≤ nI 32767) := fun e => hw (Or.inl ⟨h3, e⟩)
        refine ct_of (lv := [some (.ref m), some (.int (nI (k))), some (.int (kd)), some (.int (p)), some (.int (q)), some (.int (n')), none, none, none, none, none]) (by decide +kernel) (Nat.le_of_ble_eq_true rfl) rfl ?_
        refine ev_aload_n 1 dX12_wave_0 rfl rfl ?_
        refine ev_iload_n 2 dX12_wave_1 rfl rfl ?_
        refine ev_invV 5 (Mc := mX12_isCoder) ⟨lk1552, lk80, hdX12_isCoder, (Nat.le_of_ble_eq_true rfl), (Nat.le_of_ble_eq_true rfl)⟩ lk1549 lk1551 lk40 mm_cl12 rfl dX12_wave_2 (ct_X12_isCoder_t hM hn h8 hk) rfl (hM.1 0 _ rfl) (Nat.le_of_ble_eq_true rfl) rfl rfl ?_
        refine ev_if_eqN 8 29 dX12_wave_5 (by decide) (by omega) rfl (fun hx => absurd hx ((by omega))) (fun hbr => ?_)
        refine ev_iload_n 9 dX12_wave_8 rfl rfl ?_
        refine ev_iconstN 10 0 dX12_wave_9 rfl ?_
        refine ev_iconstN 11 4 dX12_wave_10 rfl ?_
        refine ev_invS 14 (Mc := mX12_in) ⟨lk1536, lk80, hdX12_in, (Nat.le_of_ble_eq_true rfl), (Nat.le_of_ble_eq_true rfl)⟩ lk1534 lk1535 dX12_wave_11 (ct_X12_in_t h1) rfl (Nat.le_of_ble_eq_true rfl) rfl rfl ?_
        refine ev_if_eqN 17 29 dX12_wave_14 (by decide) (by omega) rfl (fun hx => absurd hx ((by omega))) (fun hbr => ?_)
        refine ev_iload 19 dX12_wave_17 rfl rfl ?_
        refine ev_iconstN 20 1 dX12_wave_19 rfl ?_
        refine ev_sipushN 23 320 dX12_wave_20 (by decide +kernel) rfl ?_
        refine ev_invS 26 (Mc := mX12_in) ⟨lk1536, lk80, hdX12_in, (Nat.le_of_ble_eq_true rfl), (Nat.le_of_ble_eq_true rfl)⟩ lk1534 lk1535 dX12_wave_23 (ct_X12_in_t h2) rfl (Nat.le_of_ble_eq_true rfl) rfl rfl ?_
        refine ev_if_neN 29 35 dX12_wave_26 (by decide) (by omega) rfl (fun hbr => ?_) (fun hx => absurd hx ((by omega)))
        refine ev_iload_n 36 dX12_wave_35 rfl rfl ?_
        refine ev_if_ne 39 52 dX12_wave_36 (by decide) rfl (fun hx => absurd (h3) hx) (fun hbr => ?_)
        refine ev_iload_n 40 dX12_wave_39 rfl rfl ?_
        refine ev_sipush 43 (v := -32768) dX12_wave_40 (by decide +kernel) rfl ?_
        refine ev_sipushN 46 32767 dX12_wave_43 (by decide +kernel) rfl ?_
        refine ev_invS 49 (Mc := mX12_in) ⟨lk1536, lk80, hdX12_in, (Nat.le_of_ble_eq_true rfl), (Nat.le_of_ble_eq_true rfl)⟩ lk1534 lk1535 dX12_wave_46 (ct_X12_in_f hs) rfl (Nat.le_of_ble_eq_true rfl) rfl rfl ?_
        refine ev_goto 77 dX12_wave_49 (by decide) ?_
        refine ev_istore 79 (lv' := [_, _, _, _, _, some (.int _), _, _, _, _, _]) dX12_wave_77 (Nat.le_of_ble_eq_true rfl) rfl rfl ?_
        refine ev_iload 81 dX12_wave_79 rfl rfl ?_
        refine ev_if_eqN 84 100 dX12_wave_81 (by decide) (by omega) rfl (fun hbr => ?_) (fun hx => absurd ((by omega)) hx)
        refine ev_aload_n 101 dX12_wave_100 rfl rfl ?_
        refine ev_iconst 102 (v := -1) dX12_wave_101 (by decide +kernel) rfl ?_
        refine ev_invV 105 (Mc := mX12_refused) ⟨lk1540, lk80, hdX12_refused, (Nat.le_of_ble_eq_true rfl), (Nat.le_of_ble_eq_true rfl)⟩ lk1537 lk1539 lk38 mm_cl12 rfl dX12_wave_102 (ct_X12_refused hM) rfl (hM.1 0 _ rfl) (Nat.le_of_ble_eq_true rfl) rfl rfl ?_
        exact ev_iret dX12_wave_105 rfl (rfl)
      · by_cases h4 : kd = nI 2
        · by_cases h5 : p < 0
          · refine ct_of (lv := [some (.ref m), some (.int (nI (k))), some (.int (kd)), some (.int (p)), some (.int (q)), some (.int (n')), none, none, none, none, none]) (by decide +kernel) (Nat.le_of_ble_eq_true rfl) rfl ?_
            refine ev_aload_n 1 dX12_wave_0 rfl rfl ?_
            refine ev_iload_n 2 dX12_wave_1 rfl rfl ?_
            refine ev_invV 5 (Mc := mX12_isCoder) ⟨lk1552, lk80, hdX12_isCoder, (Nat.le_of_ble_eq_true rfl), (Nat.le_of_ble_eq_true rfl)⟩ lk1549 lk1551 lk40 mm_cl12 rfl dX12_wave_2 (ct_X12_isCoder_t hM hn h8 hk) rfl (hM.1 0 _ rfl) (Nat.le_of_ble_eq_true rfl) rfl rfl ?_
            refine ev_if_eqN 8 29 dX12_wave_5 (by decide) (by omega) rfl (fun hx => absurd hx ((by omega))) (fun hbr => ?_)
            refine ev_iload_n 9 dX12_wave_8 rfl rfl ?_
            refine ev_iconstN 10 0 dX12_wave_9 rfl ?_
            refine ev_iconstN 11 4 dX12_wave_10 rfl ?_
            refine ev_invS 14 (Mc := mX12_in) ⟨lk1536, lk80, hdX12_in, (Nat.le_of_ble_eq_true rfl), (Nat.le_of_ble_eq_true rfl)⟩ lk1534 lk1535 dX12_wave_11 (ct_X12_in_t h1) rfl (Nat.le_of_ble_eq_true rfl) rfl rfl ?_
            refine ev_if_eqN 17 29 dX12_wave_14 (by decide) (by omega) rfl (fun hx => absurd hx ((by omega))) (fun hbr => ?_)
            refine ev_iload 19 dX12_wave_17 rfl rfl ?_
            refine ev_iconstN 20 1 dX12_wave_19 rfl ?_
            refine ev_sipushN 23 320 dX12_wave_20 (by decide +kernel) rfl ?_
            refine ev_invS 26 (Mc := mX12_in) ⟨lk1536, lk80, hdX12_in, (Nat.le_of_ble_eq_true rfl), (Nat.le_of_ble_eq_true rfl)⟩ lk1534 lk1535 dX12_wave_23 (ct_X12_in_t h2) rfl (Nat.le_of_ble_eq_true rfl) rfl rfl ?_
            refine ev_if_neN 29 35 dX12_wave_26 (by decide) (by omega) rfl (fun hbr => ?_) (fun hx => absurd hx ((by omega)))
            refine ev_iload_n 36 dX12_wave_35 rfl rfl ?_
            refine ev_if_ne 39 52 dX12_wave_36 (by decide) rfl (fun hbr => ?_) (fun hx => absurd hx (h3))
            refine ev_iload_n 53 dX12_wave_52 rfl rfl ?_
            refine ev_iconstN 54 2 dX12_wave_53 rfl ?_
            refine ev_icmp_ne 57 69 dX12_wave_54 (by decide) rfl (fun hx => absurd (h4) hx) (fun hbr => ?_)
            refine ev_iload_n 58 dX12_wave_57 rfl rfl ?_
            refine ev_if_lt 61 65 dX12_wave_58 (by decide) rfl (fun hbr => ?_) (fun hx => absurd (h5) hx)
            refine ev_iconstN 66 0 dX12_wave_65 rfl ?_
            refine ev_goto 77 dX12_wave_66 (by decide) ?_
            refine ev_istore 79 (lv' := [_, _, _, _, _, some (.int _), _, _, _, _, _]) dX12_wave_77 (Nat.le_of_ble_eq_true rfl) rfl rfl ?_
            refine ev_iload 81 dX12_wave_79 rfl rfl ?_
            refine ev_if_eqN 84 100 dX12_wave_81 (by decide) (by omega) rfl (fun hbr => ?_) (fun hx => absurd ((by omega)) hx)
            refine ev_aload_n 101 dX12_wave_100 rfl rfl ?_
            refine ev_iconst 102 (v := -1) dX12_wave_101 (by decide +kernel) rfl ?_
            refine ev_invV 105 (Mc := mX12_refused) ⟨lk1540, lk80, hdX12_refused, (Nat.le_of_ble_eq_true rfl), (Nat.le_of_ble_eq_true rfl)⟩ lk1537 lk1539 lk38 mm_cl12 rfl dX12_wave_102 (ct_X12_refused hM) rfl (hM.1 0 _ rfl) (Nat.le_of_ble_eq_true rfl) rfl rfl ?_
            exact ev_iret dX12_wave_105 rfl (rfl)
          · have hq : ¬ (nI 0 ≤ q ∧ q ≤ nI 32767) := fun e => hw (Or.inr ⟨h3, h1, e, Or.inl ⟨h4, Int32.not_lt.mp h5⟩⟩)
            refine ct_of (lv := [some (.ref m), some (.int (nI (k))), some (.int (kd)), some (.int (p)), some (.int (q)), some (.int (n')), none, none, none, none, none]) (by decide +kernel) (Nat.le_of_ble_eq_true rfl) rfl ?_
            refine ev_aload_n 1 dX12_wave_0 rfl rfl ?_
            refine ev_iload_n 2 dX12_wave_1 rfl rfl ?_
            refine ev_invV 5 (Mc := mX12_isCoder) ⟨lk1552, lk80, hdX12_isCoder, (Nat.le_of_ble_eq_true rfl), (Nat.le_of_ble_eq_true rfl)⟩ lk1549 lk1551 lk40 mm_cl12 rfl dX12_wave_2 (ct_X12_isCoder_t hM hn h8 hk) rfl (hM.1 0 _ rfl) (Nat.le_of_ble_eq_true rfl) rfl rfl ?_
            refine ev_if_eqN 8 29 dX12_wave_5 (by decide) (by omega) rfl (fun hx => absurd hx ((by omega))) (fun hbr => ?_)
            refine ev_iload_n 9 dX12_wave_8 rfl rfl ?_
            refine ev_iconstN 10 0 dX12_wave_9 rfl ?_
            refine ev_iconstN 11 4 dX12_wave_10 rfl ?_
            refine ev_invS 14 (Mc := mX12_in) ⟨lk1536, lk80, hdX12_in, (Nat.le_of_ble_eq_true rfl), (Nat.le_of_ble_eq_true rfl)⟩ lk1534 lk1535 dX12_wave_11 (ct_X12_in_t h1) rfl (Nat.le_of_ble_eq_true rfl) rfl rfl ?_
            refine ev_if_eqN 17 29 dX12_wave_14 (by decide) (by omega) rfl (fun hx => absurd hx ((by omega))) (fun hbr => ?_)
            refine ev_iload 19 dX12_wave_17 rfl rfl ?_
            refine ev_iconstN 20 1 dX12_wave_19 rfl ?_
            refine ev_sipushN 23 320 dX12_wave_20 (by decide +kernel) rfl ?_
            refine ev_invS 26 (Mc := mX12_in) ⟨lk1536, lk80, hdX12_in, (Nat.le_of_ble_eq_true rfl), (Nat.le_of_ble_eq_true rfl)⟩ lk1534 lk1535 dX12_wave_23 (ct_X12_in_t h2) rfl (Nat.le_of_ble_eq_true rfl) rfl rfl ?_
            refine ev_if_neN 29 35 dX12_wave_26 (by decide) (by omega) rfl (fun hbr => ?_) (fun hx => absurd hx ((by omega)))
            refine ev_iload_n 36 dX12_wave_35 rfl rfl ?_
            refine ev_if_ne 39 52 dX12_wave_36 (by decide) rfl (fun hbr => ?_) (fun hx => absurd hx (h3))
            refine ev_iload_n 53 dX12_wave_52 rfl rfl ?_
            refine ev_iconstN 54 2 dX12_wave_53 rfl ?_
            refine ev_icmp_ne 57 69 dX12_wave_54 (by decide) rfl (fun hx => absurd (h4) hx) (fun hbr => ?_)
            refine ev_iload_n 58 dX12_wave_57 rfl rfl ?_
            refine ev_if_lt 61 65 dX12_wave_58 (by decide) rfl (fun hx => absurd hx (h5)) (fun hbr => ?_)
            refine ev_iconstN 62 1 dX12_wave_61 rfl ?_
            refine ev_goto 77 dX12_wave_62 (by decide) ?_
            refine ev_istore 79 (lv' := [_, _, _, _, _, some (.int _), _, _, _, _, _]) dX12_wave_77 (Nat.le_of_ble_eq_true rfl) rfl rfl ?_
            refine ev_iload 81 dX12_wave_79 rfl rfl ?_
            refine ev_if_eqN 84 100 dX12_wave_81 (by decide) (by omega) rfl (fun hx => absurd hx ((by omega))) (fun hbr => ?_)
            refine ev_iload_n 85 dX12_wave_84 rfl rfl ?_
            refine ev_if_eq 88 106 dX12_wave_85 (by decide) rfl (fun hx => absurd hx (h3)) (fun hbr => ?_)
            refine ev_iload 90 dX12_wave_88 rfl rfl ?_
            refine ev_iconstN 91 0 dX12_wave_90 rfl ?_
            refine ev_sipushN 94 32767 dX12_wave_91 (by decide +kernel) rfl ?_
            refine ev_invS 97 (Mc := mX12_in) ⟨lk1536, lk80, hdX12_in, (Nat.le_of_ble_eq_true rfl), (Nat.le_of_ble_eq_true rfl)⟩ lk1534 lk1535 dX12_wave_94 (ct_X12_in_f hq) rfl (Nat.le_of_ble_eq_true rfl) rfl rfl ?_
            refine ev_if_neN 100 106 dX12_wave_97 (by decide) (by omega) rfl (fun hx => absurd ((by omega)) hx) (fun hbr => ?_)
            refine ev_aload_n 101 dX12_wave_100 rfl rfl ?_
            refine ev_iconst 102 (v := -1) dX12_wave_101 (by decide +kernel) rfl ?_
            refine ev_invV 105 (Mc := mX12_refused) ⟨lk1540, lk80, hdX12_refused, (Nat.le_of_ble_eq_true rfl), (Nat.le_of_ble_eq_true rfl)⟩ lk1537 lk1539 lk38 mm_cl12 rfl dX12_wave_102 (ct_X12_refused hM) rfl (hM.1 0 _ rfl) (Nat.le_of_ble_eq_true rfl) rfl rfl ?_
            exact ev_iret dX12_wave_105 rfl (rfl)
        · by_cases h5 : nI 2 ≤ p ∧ p ≤ nI 640
          · have hq : ¬ (nI 0 ≤ q ∧ q ≤ nI 32767) := fun e => hw (Or.inr ⟨h3, h1, e, Or.inr ⟨h4, h5⟩⟩)
            refine ct_of (lv := [some (.ref m), some (.int (nI (k))), some (.int (kd)), some (.int (p)), some (.int (q)), some (.int (n')), none, none, none, none, none]) (by decide +kernel) (Nat.le_of_ble_eq_true rfl) rfl ?_
            refine ev_aload_n 1 dX12_wave_0 rfl rfl ?_
            refine ev_iload_n 2 dX12_wave_1 rfl rfl ?_
            refine ev_invV 5 (Mc := mX12_isCoder) ⟨lk1552, lk80, hdX12_isCoder, (Nat.le_of_ble_eq_true rfl), (Nat.le_of_ble_eq_true rfl)⟩ lk1549 lk1551 lk40 mm_cl12 rfl dX12_wave_2 (ct_X12_isCoder_t hM hn h8 hk) rfl (hM.1 0 _ rfl) (Nat.le_of_ble_eq_true rfl) rfl rfl ?_
            refine ev_if_eqN 8 29 dX12_wave_5 (by decide) (by omega) rfl (fun hx => absurd hx ((by omega))) (fun hbr => ?_)
            refine ev_iload_n 9 dX12_wave_8 rfl rfl ?_
            refine ev_iconstN 10 0 dX12_wave_9 rfl ?_
            refine ev_iconstN 11 4 dX12_wave_10 rfl ?_
            refine ev_invS 14 (Mc := mX12_in) ⟨lk1536, lk80, hdX12_in, (Nat.le_of_ble_eq_true rfl), (Nat.le_of_ble_eq_true rfl)⟩ lk1534 lk1535 dX12_wave_11 (ct_X12_in_t h1) rfl (Nat.le_of_ble_eq_true rfl) rfl rfl ?_
            refine ev_if_eqN 17 29 dX12_wave_14 (by decide) (by omega) rfl (fun hx => absurd hx ((by omega))) (fun hbr => ?_)
            refine ev_iload 19 dX12_wave_17 rfl rfl ?_
            refine ev_iconstN 20 1 dX12_wave_19 rfl ?_
            refine ev_sipushN 23 320 dX12_wave_20 (by decide +kernel) rfl ?_
            refine ev_invS 26 (Mc := mX12_in) ⟨lk1536, lk80, hdX12_in, (Nat.le_of_ble_eq_true rfl), (Nat.le_of_ble_eq_true rfl)⟩ lk1534 lk1535 dX12_wave_23 (ct_X12_in_t h2) rfl (Nat.le_of_ble_eq_true rfl) rfl rfl ?_
            refine ev_if_neN 29 35 dX12_wave_26 (by decide) (by omega) rfl (fun hbr => ?_) (fun hx => absurd hx ((by omega)))
            refine ev_iload_n 36 dX12_wave_35 rfl rfl ?_
            refine ev_if_ne 39 52 dX12_wave_36 (by decide) rfl (fun hbr => ?_) (fun hx => absurd hx (h3))
            refine ev_iload_n 53 dX12_wave_52 rfl rfl ?_
            refine ev_iconstN 54 2 dX12_wave_53 rfl ?_
            refine ev_icmp_ne 57 69 dX12_wave_54 (by decide) rfl (fun hbr => ?_) (fun hx => absurd hx (h4))
            refine ev_iload_n 70 dX12_wave_69 rfl rfl ?_
            refine ev_iconstN 71 2 dX12_wave_70 rfl ?_
            refine ev_sipushN 74 640 dX12_wave_71 (by decide +kernel) rfl ?_
            refine ev_invS 77 (Mc := mX12_in) ⟨lk1536, lk80, hdX12_in, (Nat.le_of_ble_eq_true rfl), (Nat.le_of_ble_eq_true rfl)⟩ lk1534 lk1535 dX12_wave_74 (ct_X12_in_t h5) rfl (Nat.le_of_ble_eq_true rfl) rfl rfl ?_
            refine ev_istore 79 (lv' := [_, _, _, _, _, some (.int _), _, _, _, _, _]) dX12_wave_77 (Nat.le_of_ble_eq_true rfl) rfl rfl ?_
            refine ev_iload 81 dX12_wave_79 rfl rfl ?_
            refine ev_if_eqN 84 100 dX12_wave_81 (by decide) (by omega) rfl (fun hx => absurd hx ((by omega))) (fun hbr => ?_)
            refine ev_iload_n 85 dX12_wave_84 rfl rfl ?_
            refine ev_if_eq 88 106 dX12_wave_85 (by decide) rfl (fun hx => absurd hx (h3)) (fun hbr => ?_)
            refine ev_iload 90 dX12_wave_88 rfl rfl ?_
            refine ev_iconstN 91 0 dX12_wave_90 rfl ?_
            refine ev_sipushN 94 32767 dX12_wave_91 (by decide +kernel) rfl ?_
            refine ev_invS 97 (Mc := mX12_in) ⟨lk1536, lk80, hdX12_in, (Nat.le_of_ble_eq_true rfl), (Nat.le_of_ble_eq_true rfl)⟩ lk1534 lk1535 dX12_wave_94 (ct_X12_in_f hq) rfl (Nat.le_of_ble_eq_true rfl) rfl rfl ?_
            refine ev_if_neN 100 106 dX12_wave_97 (by decide) (by omega) rfl (fun hx => absurd ((by omega)) hx) (fun hbr => ?_)
            refine ev_aload_n 101 dX12_wave_100 rfl rfl ?_
            refine ev_iconst 102 (v := -1) dX12_wave_101 (by decide +kernel) rfl ?_
            refine ev_invV 105 (Mc := mX12_refused) ⟨lk1540, lk80, hdX12_refused, (Nat.le_of_ble_eq_true rfl), (Nat.le_of_ble_eq_true rfl)⟩ lk1537 lk1539 lk38 mm_cl12 rfl dX12_wave_102 (ct_X12_refused hM) rfl (hM.1 0 _ rfl) (Nat.le_of_ble_eq_true rfl) rfl rfl ?_
            exact ev_iret dX12_wave_105 rfl (rfl)
          · refine ct_of (lv := [some (.ref m), some (.int (nI (k))), some (.int (kd)), some (.int (p)), some (.int (q)), some (.int (n')), none, none, none, none, none]) (by decide +kernel) (Nat.le_of_ble_eq_true rfl) rfl ?_
            refine ev_aload_n 1 dX12_wave_0 rfl rfl ?_
            refine ev_iload_n 2 dX12_wave_1 rfl rfl ?_
            refine ev_invV 5 (Mc := mX12_isCoder) ⟨lk1552, lk80, hdX12_isCoder, (Nat.le_of_ble_eq_true rfl), (Nat.le_of_ble_eq_true rfl)⟩ lk1549 lk1551 lk40 mm_cl12 rfl dX12_wave_2 (ct_X12_isCoder_t hM hn h8 hk) rfl (hM.1 0 _ rfl) (Nat.le_of_ble_eq_true rfl) rfl rfl ?_
            refine ev_if_eqN 8 29 dX12_wave_5 (by decide) (by omega) rfl (fun hx => absurd hx ((by omega))) (fun hbr => ?_)
            refine ev_iload_n 9 dX12_wave_8 rfl rfl ?_
            refine ev_iconstN 10 0 dX12_wave_9 rfl ?_
            refine ev_iconstN 11 4 dX12_wave_10 rfl ?_
            refine ev_invS 14 (Mc := mX12_in) ⟨lk1536, lk80, hdX12_in, (Nat.le_of_ble_eq_true rfl), (Nat.le_of_ble_eq_true rfl)⟩ lk1534 lk1535 dX12_wave_11 (ct_X12_in_t h1) rfl (Nat.le_of_ble_eq_true rfl) rfl rfl ?_
            refine ev_if_eqN 17 29 dX12_wave_14 (by decide) (by omega) rfl (fun hx => absurd hx ((by omega))) (fun hbr => ?_)
            refine ev_iload 19 dX12_wave_17 rfl rfl ?_
            refine ev_iconstN 20 1 dX12_wave_19 rfl ?_
            refine ev_sipushN 23 320 dX12_wave_20 (by decide +kernel) rfl ?_
            refine ev_invS 26 (Mc := mX12_in) ⟨lk1536, lk80, hdX12_in, (Nat.le_of_ble_eq_true rfl), (Nat.le_of_ble_eq_true rfl)⟩ lk1534 lk1535 dX12_wave_23 (ct_X12_in_t h2) rfl (Nat.le_of_ble_eq_true rfl) rfl rfl ?_
            refine ev_if_neN 29 35 dX12_wave_26 (by decide) (by omega) rfl (fun hbr => ?_) (fun hx => absurd hx ((by omega)))
            refine ev_iload_n 36 dX12_wave_35 rfl rfl ?_
            refine ev_if_ne 39 52 dX12_wave_36 (by decide) rfl (fun hbr => ?_) (fun hx => absurd hx (h3))
            refine ev_iload_n 53 dX12_wave_52 rfl rfl ?_
            refine ev_iconstN 54 2 dX12_wave_53 rfl ?_
            refine ev_icmp_ne 57 69 dX12_wave_54 (by decide) rfl (fun hbr => ?_) (fun hx => absurd hx (h4))
            refine ev_iload_n 70 dX12_wave_69 rfl rfl ?_
            refine ev_iconstN 71 2 dX12_wave_70 rfl ?_
            refine ev_sipushN 74 640 dX12_wave_71 (by decide +kernel) rfl ?_
            refine ev_invS 77 (Mc := mX12_in) ⟨lk1536, lk80, hdX12_in, (Nat.le_of_ble_eq_true rfl), (Nat.le_of_ble_eq_true rfl)⟩ lk1534 lk1535 dX12_wave_74 (ct_X12_in_f h5) rfl (Nat.le_of_ble_eq_true rfl) rfl rfl ?_
            refine ev_istore 79 (lv' := [_, _, _, _, _, some (.int _), _, _, _, _, _]) dX12_wave_77 (Nat.le_of_ble_eq_true rfl) rfl rfl ?_
            refine ev_iload 81 dX12_wave_79 rfl rfl ?_
            refine ev_if_eqN 84 100 dX12_wave_81 (by decide) (by omega) rfl (fun hbr => ?_) (fun hx => absurd ((by omega)) hx)
            refine ev_aload_n 101 dX12_wave_100 rfl rfl ?_
            refine ev_iconst 102 (v := -1) dX12_wave_101 (by decide +kernel) rfl ?_
            refine ev_invV 105 (Mc := mX12_refused) ⟨lk1540, lk80, hdX12_refused, (Nat.le_of_ble_eq_true rfl), (Nat.le_of_ble_eq_true rfl)⟩ lk1537 lk1539 lk38 mm_cl12 rfl dX12_wave_102 (ct_X12_refused hM) rfl (hM.1 0 _ rfl) (Nat.le_of_ble_eq_true rfl) rfl rfl ?_
            exact ev_iret dX12_wave_105 rfl (rfl)
    · refine ct_of (lv := [some (.ref m), some (.int (nI (k))), some (.int (kd)), some (.int (p)), some (.int (q)), some (.int (n')), none, none, none, none, none]) (by decide +kernel) (Nat.le_of_ble_eq_true rfl) rfl ?_
      refine ev_aload_n 1 dX12_wave_0 rfl rfl ?_
      refine ev_iload_n 2 dX12_wave_1 rfl rfl ?_
      refine ev_invV 5 (Mc := mX12_isCoder) ⟨lk1552, lk80, hdX12_isCoder, (Nat.le_of_ble_eq_true rfl), (Nat.le_of_ble_eq_true rfl)⟩ lk1549 lk1551 lk40 mm_cl12 rfl dX12_wave_2 (ct_X12_isCoder_t hM hn h8 hk) rfl (hM.1 0 _ rfl) (Nat.le_of_ble_eq_true rfl) rfl rfl ?_
      refine ev_if_eqN 8 29 dX12_wave_5 (by decide) (by omega) rfl (fun hx => absurd hx ((by omega))) (fun hbr => ?_)
      refine ev_iload_n 9 dX12_wave_8 rfl rfl ?_
      refine ev_iconstN 10 0 dX12_wave_9 rfl ?_
      refine ev_iconstN 11 4 dX12_wave_10 rfl ?_
      refine ev_invS 14 (Mc := mX12_in) ⟨lk1536, lk80, hdX12_in, (Nat.le_of_ble_eq_true rfl), (Nat.le_of_ble_eq_true rfl)⟩ lk1534 lk1535 dX12_wave_11 (ct_X12_in_t h1) rfl (Nat.le_of_ble_eq_true rfl) rfl rfl ?_
      refine ev_if_eqN 17 29 dX12_wave_14 (by decide) (by omega) rfl (fun hx => absurd hx ((by omega))) (fun hbr => ?_)
      refine ev_iload 19 dX12_wave_17 rfl rfl ?_
      refine ev_iconstN 20 1 dX12_wave_19 rfl ?_
      refine ev_sipushN 23 320 dX12_wave_20 (by decide +kernel) rfl ?_
      refine ev_invS 26 (Mc := mX12_in) ⟨lk1536, lk80, hdX12_in, (Nat.le_of_ble_eq_true rfl), (Nat.le_of_ble_eq_true rfl)⟩ lk1534 lk1535 dX12_wave_23 (ct_X12_in_f h2) rfl (Nat.le_of_ble_eq_true rfl) rfl rfl ?_
      refine ev_if_neN 29 35 dX12_wave_26 (by decide) (by omega) rfl (fun hx => absurd ((by omega)) hx) (fun hbr => ?_)
      refine ev_aload_n 30 dX12_wave_29 rfl rfl ?_
      refine ev_iconst 31 (v := -1) dX12_wave_30 (by decide +kernel) rfl ?_
      refine ev_invV 34 (Mc := mX12_refused) ⟨lk1540, lk80, hdX12_refused, (Nat.le_of_ble_eq_true rfl), (Nat.le_of_ble_eq_true rfl)⟩ lk1537 lk1539 lk38 mm_cl12 rfl dX12_wave_31 (ct_X12_refused hM) rfl (hM.1 0 _ rfl) (Nat.le_of_ble_eq_true rfl) rfl rfl ?_
      exact ev_iret dX12_wave_34 rfl (rfl)
  · refine ct_of (lv := [some (.ref m), some (.int (nI (k))), some (.int (kd)), some (.int (p)), some (.int (q)), some (.int (n')), none, none, none, none, none]) (by decide +kernel) (Nat.le_of_ble_eq_true rfl) rfl ?_
    refine ev_aload_n 1 dX12_wave_0 rfl rfl ?_
    refine ev_iload_n 2 dX12_wave_1 rfl rfl ?_
    refine ev_invV 5 (Mc := mX12_isCoder) ⟨lk1552, lk80, hdX12_isCoder, (Nat.le_of_ble_eq_true rfl), (Nat.le_of_ble_eq_true rfl)⟩ lk1549 lk1551 lk40 mm_cl12 rfl dX12_wave_2 (ct_X12_isCoder_t hM hn h8 hk) rfl (hM.1 0 _ rfl) (Nat.le_of_ble_eq_true rfl) rfl rfl ?_
    refine ev_if_eqN 8 29 dX12_wave_5 (by decide) (by omega) rfl (fun hx => absurd hx ((by omega))) (fun hbr => ?_)
    refine ev_iload_n 9 dX12_wave_8 rfl rfl ?_
    refine ev_iconstN 10 0 dX12_wave_9 rfl ?_
    refine ev_iconstN 11 4 dX12_wave_10 rfl ?_
    refine ev_invS 14 (Mc := mX12_in) ⟨lk1536, lk80, hdX12_in, (Nat.le_of_ble_eq_true rfl), (Nat.le_of_ble_eq_true rfl)⟩ lk1534 lk1535 dX12_wave_11 (ct_X12_in_f h1) rfl (Nat.le_of_ble_eq_true rfl) rfl rfl ?_
    refine ev_if_eqN 17 29 dX12_wave_14 (by decide) (by omega) rfl (fun hbr => ?_) (fun hx => absurd ((by omega)) hx)
    refine ev_aload_n 30 dX12_wave_29 rfl rfl ?_
    refine ev_iconst 31 (v := -1) dX12_wave_30 (by decide +kernel) rfl ?_
    refine ev_invV 34 (Mc := mX12_refused) ⟨lk1540, lk80, hdX12_refused, (Nat.le_of_ble_eq_true rfl), (Nat.le_of_ble_eq_true rfl)⟩ lk1537 lk1539 lk38 mm_cl12 rfl dX12_wave_31 (ct_X12_refused hM) rfl (hM.1 0 _ rfl) (Nat.le_of_ble_eq_true rfl) rfl rfl ?_
    exact ev_iret dX12_wave_34 rfl (rfl)
/-- up to where the room is looked at -/
theorem lx_wavM {kd p q : Int32} {nn : Nat} {Z : mm_Z} (h : MA B I P m n k) (g1 : 1 ≤ nn) (g2 : nn ≤ 320) (hw : WG kd p q) (K : Ev g mX12_wave 106 [some (.ref m), some (.int (nI k)), some (.int kd), some (.int p), some (.int q), some (.int (nI nn)), some (.int (nI 1)), none, none, none, none] [] B I J P Z) : Ct g mX12_wave [.ref m, .int (nI k), .int kd, .int p, .int q, .int (nI nn)] B I J P Z := by
  obtain ⟨hM, hn, h8, hk⟩ := h
  rcases hw with ⟨h1, h2⟩ | ⟨h1, h2, h3, ⟨h4, h5⟩ | ⟨h4, h5⟩⟩
  · refine ct_of (lv := [some (.ref m), some (.int (nI k)), some (.int kd), some (.int p), some (.int q), some (.int (nI nn)), none, none, none, none, none]) (by decide +kernel) (Nat.le_of_ble_eq_true rfl) rfl ?_
    refine ev_aload_n 1 dX12_wave_0 rfl rfl ?_
    refine ev_iload_n 2 dX12_wave_1 rfl rfl ?_
    refine ev_invV 5 (Mc := mX12_isCoder) ⟨lk1552, lk80, hdX12_isCoder, (Nat.le_of_ble_eq_true rfl), (Nat.le_of_ble_eq_true rfl)⟩ lk1549 lk1551 lk40 mm_cl12 rfl dX12_wave_2 (ct_X12_isCoder_t hM hn h8 hk) rfl (hM.1 0 _ rfl) (Nat.le_of_ble_eq_true rfl) rfl rfl ?_
    refine ev_if_eqN 8 29 dX12_wave_5 (by decide) (by omega) rfl (fun hx => absurd hx ((by omega))) (fun hbr => ?_)
    refine ev_iload_n 9 dX12_wave_8 rfl rfl ?_
    refine ev_iconstN 10 0 dX12_wave_9 rfl ?_
    refine ev_iconstN 11 4 dX12_wave_10 rfl ?_
    refine ev_invS 14 (Mc := mX12_in) ⟨lk1536, lk80, hdX12_in, (Nat.le_of_ble_eq_true rfl), (Nat.le_of_ble_eq_true rfl)⟩ lk1534 lk1535 dX12_wave_11 (ct_X12_in_t (by rw [h1]; decide)) rfl (Nat.le_of_ble_eq_true rfl) rfl rfl ?_
    refine ev_if_eqN 17 29 dX12_wave_14 (by decide) (by omega) rfl (fun hx => absurd hx ((by omega))) (fun hbr => ?_)
    refine ev_iload 19 dX12_wave_17 rfl rfl ?_
    refine ev_iconstN 20 1 dX12_wave_19 rfl ?_
    refine ev_sipushN 23 320 dX12_wave_20 (by decide +kernel) rfl ?_
    refine ev_invS 26 (Mc := mX12_in) ⟨lk1536, lk80, hdX12_in, (Nat.le_of_ble_eq_true rfl), (Nat.le_of_ble_eq_true rfl)⟩ lk1534 lk1535 dX12_wave_23 (ct_X12_in_t (in_t g1 g2 (by omega))) rfl (Nat.le_of_ble_eq_true rfl) rfl rfl ?_
    refine ev_if_neN 29 35 dX12_wave_26 (by decide) (by omega) rfl (fun hbr => ?_) (fun hx => absurd hx ((by omega)))
    refine ev_iload_n 36 dX12_wave_35 rfl rfl ?_
    refine ev_if_ne 39 52 dX12_wave_36 (by decide) rfl (fun hx => absurd (h1) hx) (fun hbr => ?_)
    refine ev_iload_n 40 dX12_wave_39 rfl rfl ?_
    refine ev_sipush 43 (v := -32768) dX12_wave_40 (by decide +kernel) rfl ?_
    refine ev_sipushN 46 32767 dX12_wave_43 (by decide +kernel) rfl ?_
    refine ev_invS 49 (Mc := mX12_in) ⟨lk1536, lk80, hdX12_in, (Nat.le_of_ble_eq_true rfl), (Nat.le_of_ble_eq_true rfl)⟩ lk1534 lk1535 dX12_wave_46 (ct_X12_in_t h2) rfl (Nat.le_of_ble_eq_true rfl) rfl rfl ?_
    refine ev_goto 77 dX12_wave_49 (by decide) ?_
    refine ev_istore 79 (lv' := [_, _, _, _, _, some (.int _), _, _, _, _, _]) dX12_wave_77 (Nat.le_of_ble_eq_true rfl) rfl rfl ?_
    refine ev_iload 81 dX12_wave_79 rfl rfl ?_
    refine ev_if_eqN 84 100 dX12_wave_81 (by decide) (by omega) rfl (fun hx => absurd hx ((by omega))) (fun hbr => ?_)
    refine ev_iload_n 85 dX12_wave_84 rfl rfl ?_
    refine ev_if_eq 88 106 dX12_wave_85 (by decide) rfl (fun hbr => ?_) (fun hx => absurd (h1) hx)
    exact K
  · refine ct_of (lv := [some (.ref m), some (.int (nI k)), some (.int kd), some (.int p), some (.int q), some (.int (nI nn)), none, none, none, none, none]) (by decide +kernel) (Nat.le_of_ble_eq_true rfl) rfl ?_
    refine ev_aload_n 1 dX12_wave_0 rfl rfl ?_
    refine ev_iload_n 2 dX12_wave_1 rfl rfl ?_
    refine ev_invV 5 (Mc := mX12_isCoder) ⟨lk1552, lk80, hdX12_isCoder, (Nat.le_of_ble_eq_true rfl), (Nat.le_of_ble_eq_true rfl)⟩ lk1549 lk1551 lk40 mm_cl12 rfl dX12_wave_2 (ct_X12_isCoder_t hM hn h8 hk) rfl (hM.1 0 _ rfl) (Nat.le_of_ble_eq_true rfl) rfl rfl ?_
    refine ev_if_eqN 8 29 dX12_wave_5 (by decide) (by omega) rfl (fun hx => absurd hx ((by omega))) (fun hbr => ?_)
    refine ev_iload_n 9 dX12_wave_8 rfl rfl ?_
    refine ev_iconstN 10 0 dX12_wave_9 rfl ?_
    refine ev_iconstN 11 4 dX12_wave_10 rfl ?_
    refine ev_invS 14 (Mc := mX12_in) ⟨lk1536, lk80, hdX12_in, (Nat.le_of_ble_eq_true rfl), (Nat.le_of_ble_eq_true rfl)⟩ lk1534 lk1535 dX12_wave_11 (ct_X12_in_t h2) rfl (Nat.le_of_ble_eq_true rfl) rfl rfl ?_
    refine ev_if_eqN 17 29 dX12_wave_14 (by decide) (by omega) rfl (fun hx => absurd hx ((by omega))) (fun hbr => ?_)
    refine ev_iload 19 dX12_wave_17 rfl rfl ?_
    refine ev_iconstN 20 1 dX12_wave_19 rfl ?_
    refine ev_sipushN 23 320 dX12_wave_20 (by decide +kernel) rfl ?_
    refine ev_invS 26 (Mc := mX12_in) ⟨lk1536, lk80, hdX12_in, (Nat.le_of_ble_eq_true rfl), (Nat.le_of_ble_eq_true rfl)⟩ lk1534 lk1535 dX12_wave_23 (ct_X12_in_t (in_t g1 g2 (by omega))) rfl (Nat.le_of_ble_eq_true rfl) rfl rfl ?_
    refine ev_if_neN 29 35 dX12_wave_26 (by decide) (by omega) rfl (fun hbr => ?_) (fun hx => absurd hx ((by omega)))
    refine ev_iload_n 36 dX12_wave_35 rfl rfl ?_
    refine ev_if_ne 39 52 dX12_wave_36 (by decide) rfl (fun hbr => ?_) (fun hx => absurd hx (h1))
    refine ev_iload_n 53 dX12_wave_52 rfl rfl ?_
    refine ev_iconstN 54 2 dX12_wave_53 rfl ?_
    refine ev_icmp_ne 57 69 dX12_wave_54 (by decide) rfl (fun hx => absurd (h4) hx) (fun hbr => ?_)
    refine ev_iload_n 58 dX12_wave_57 rfl rfl ?_
    refine ev_if_lt 61 65 dX12_wave_58 (by decide) rfl (fun hx => absurd hx ((Int32.not_lt.mpr h5))) (fun hbr => ?_)
    refine ev_iconstN 62 1 dX12_wave_61 rfl ?_
    refine ev_goto 77 dX12_wave_62 (by decide) ?_
    refine ev_istore 79 (lv' := [_, _, _, _, _, some (.int _), _, _, _, _, _]) dX12_wave_77 (Nat.le_of_ble_eq_true rfl) rfl rfl ?_
    refine ev_iload 81 dX12_wave_79 rfl rfl ?_
    refine ev_if_eqN 84 100 dX12_wave_81 (by decide) (by omega) rfl (fun hx => absurd hx ((by omega))) (fun hbr => ?_)
    refine ev_iload_n 85 dX12_wave_84 rfl rfl ?_
    refine ev_if_eq 88 106 dX12_wave_85 (by decide) rfl (fun hx => absurd hx (h1)) (fun hbr => ?_)
    refine ev_iload 90 dX12_wave_88 rfl rfl ?_
    refine ev_iconstN 91 0 dX12_wave_90 rfl ?_
    refine ev_sipushN 94 32767 dX12_wave_91 (by decide +kernel) rfl ?_
    refine ev_invS 97 (Mc := mX12_in) ⟨lk1536, lk80, hdX12_in, (Nat.le_of_ble_eq_true rfl), (Nat.le_of_ble_eq_true rfl)⟩ lk1534 lk1535 dX12_wave_94 (ct_X12_in_t h3) rfl (Nat.le_of_ble_eq_true rfl) rfl rfl ?_
    refine ev_if_neN 100 106 dX12_wave_97 (by decide) (by omega) rfl (fun hbr => ?_) (fun hx => absurd hx ((by omega)))
    exact K
  · refine ct_of (lv := [some (.ref m), some (.int (nI k)), some (.int kd), some (.int p), some (.int q), some (.int (nI nn)), none, none, none, none, none]) (by decide +kernel) (Nat.le_of_ble_eq_true rfl) rfl ?_
    refine ev_aload_n 1 dX12_wave_0 rfl rfl ?_
    refine ev_iload_n 2 dX12_wave_1 rfl rfl ?_
    refine ev_invV 5 (Mc := mX12_isCoder) ⟨lk1552, lk80, hdX12_isCoder, (Nat.le_of_ble_eq_true rfl), (Nat.le_of_ble_eq_true rfl)⟩ lk1549 lk1551 lk40 mm_cl12 rfl dX12_wave_2 (ct_X12_isCoder_t hM hn h8 hk) rfl (hM.1 0 _ rfl) (Nat.le_of_ble_eq_true rfl) rfl rfl ?_
    refine ev_if_eqN 8 29 dX12_wave_5 (by decide) (by omega) rfl (fun hx => absurd hx ((by omega))) (fun hbr => ?_)
    refine ev_iload_n 9 dX12_wave_8 rfl rfl ?_
    refine ev_iconstN 10 0 dX12_wave_9 rfl ?_
    refine ev_iconstN 11 4 dX12_wave_10 rfl ?_
    refine ev_invS 14 (Mc := mX12_in) ⟨lk1536, lk80, hdX12_in, (Nat.le_of_ble_eq_true rfl), (Nat.le_of_ble_eq_true rfl)⟩ lk1534 lk1535 dX12_wave_11 (ct_X12_in_t h2) rfl (Nat.le_of_ble_eq_true rfl) rfl rfl ?_
    refine ev_if_eqN 17 29 dX12_wave_14 (by decide) (by omega) rfl (fun hx => absurd hx ((by omega))) (fun hbr => ?_)
    refine ev_iload 19 dX12_wave_17 rfl rfl ?_
    refine ev_iconstN 20 1 dX12_wave_19 rfl ?_
    refine ev_sipushN 23 320 dX12_wave_20 (by decide +kernel) rfl ?_
    refine ev_invS 26 (Mc := mX12_in) ⟨lk1536, lk80, hdX12_in, (Nat.le_of_ble_eq_true rfl), (Nat.le_of_ble_eq_true rfl)⟩ lk1534 lk1535 dX12_wave_23 (ct_X12_in_t (in_t g1 g2 (by omega))) rfl (Nat.le_of_ble_eq_true rfl) rfl rfl ?_
    refine ev_if_neN 29 35 dX12_wave_26 (by decide) (by omega) rfl (fun hbr => ?_) (fun hx => absurd hx ((by omega)))
    refine ev_iload_n 36 dX12_wave_35 rfl rfl ?_
    refine ev_if_ne 39 52 dX12_wave_36 (by decide) rfl (fun hbr => ?_) (fun hx => absurd hx (h1))
    refine ev_iload_n 53 dX12_wave_52 rfl rfl ?_
    refine ev_iconstN 54 2 dX12_wave_53 rfl ?_
    refine ev_icmp_ne 57 69 dX12_wave_54 (by decide) rfl (fun hbr => ?_) (fun hx => absurd hx (h4))
    refine ev_iload_n 70 dX12_wave_69 rfl rfl ?_
    refine ev_iconstN 71 2 dX12_wave_70 rfl ?_
    refine ev_sipushN 74 640 dX12_wave_71 (by decide +kernel) rfl ?_
    refine ev_invS 77 (Mc := mX12_in) ⟨lk1536, lk80, hdX12_in, (Nat.le_of_ble_eq_true rfl), (Nat.le_of_ble_eq_true rfl)⟩ lk1534 lk1535 dX12_wave_74 (ct_X12_in_t h5) rfl (Nat.le_of_ble_eq_true rfl) rfl rfl ?_
    refine ev_istore 79 (lv' := [_, _, _, _, _, some (.int _), _, _, _, _, _]) dX12_wave_77 (Nat.le_of_ble_eq_true rfl) rfl rfl ?_
    refine ev_iload 81 dX12_wave_79 rfl rfl ?_
    refine ev_if_eqN 84 100 dX12_wave_81 (by decide) (by omega) rfl (fun hx => absurd hx ((by omega))) (fun hbr => ?_)
    refine ev_iload_n 85 dX12_wave_84 rfl rfl ?_
    refine ev_if_eq 88 106 dX12_wave_85 (by decide) rfl (fun hx => absurd hx (h1)) (fun hbr => ?_)
    refine ev_iload 90 dX12_wave_88 rfl rfl ?_
    refine ev_iconstN 91 0 dX12_wave_90 rfl ?_
    refine ev_sipushN 94 32767 dX12_wave_91 (by decide +kernel) rfl ?_
    refine ev_invS 97 (Mc := mX12_in) ⟨lk1536, lk80, hdX12_in, (Nat.le_of_ble_eq_true rfl), (Nat.le_of_ble_eq_true rfl)⟩ lk1534 lk1535 dX12_wave_94 (ct_X12_in_t h3) rfl (Nat.le_of_ble_eq_true rfl) rfl rfl ?_
    refine ev_if_neN 100 106 dX12_wave_97 (by decide) (by omega) rfl (fun hbr => ?_) (fun hx => absurd hx ((by omega)))
    exact K
theorem ml_wave_u {kd p q : Int32} {nn w : Nat} (h : MA B I P m n k) (h1 : 1 ≤ nn) (h2 : nn ≤ 320) (hw : WG kd p q) (hww : I (m + 11) k = nI w) (h6 : w ≤ 640) (hu : 640 < w + nn) : Ct g mX12_wave [.ref m, .int (nI k), .int kd, .int p, .int q, .int (nI nn)] B I J P (some (.int (-3)), B, mo_st I m (-3), J, P) := by
  have hM := h.1
  have h8 := h.2.2.1
  have hk := h.2.2.2
  refine lx_wavM h h1 h2 hw ?_
  refine ev_aload_n 107 dX12_wave_106 rfl rfl ?_
  refine ev_getP 110 mm_cl12 (j := 16) (Nat.le_of_ble_eq_true rfl) dX12_wave_107 lk1301 (fun _ _ _ => rfl) (hM.1 0 _ rfl) (a := (m + 11)) (hM.2.2 10 _ _ _ rfl) rfl ?_
  refine ev_iload_n 111 dX12_wave_110 rfl rfl ?_
  refine ev_iald 112 _ dX12_wave_111 (hM.1 11 _ rfl) rfl (by have hNN := hM.2.1 11 _ rfl; omega) rfl ?_
  refine ev_eqI (y := nI (w)) (hww) ?_
  refine ev_iload 114 dX12_wave_112 rfl rfl ?_
  refine ev_iaddN 115 dX12_wave_114 rfl ?_
  refine ev_sipushN 118 640 dX12_wave_115 (by decide +kernel) rfl ?_
  refine ev_icmp_leN 121 128 dX12_wave_118 (by decide) (by omega) (by omega) rfl (fun hx => absurd hx ((by omega))) (fun hbr => ?_)
  refine ev_aload_n 122 dX12_wave_121 rfl rfl ?_
  refine ev_bipush 124 (v := -3) dX12_wave_122 (by decide +kernel) rfl ?_
  refine ev_invV 127 (Mc := mX12_refused) ⟨lk1540, lk80, hdX12_refused, (Nat.le_of_ble_eq_true rfl), (Nat.le_of_ble_eq_true rfl)⟩ lk1537 lk1539 lk38 mm_cl12 rfl dX12_wave_124 (ct_X12_refused hM) rfl (hM.1 0 _ rfl) (Nat.le_of_ble_eq_true rfl) rfl rfl ?_
  exact ev_iret dX12_wave_127 rfl (rfl)
theorem lx_wavL {kd p q : Int32} {nn w : Nat} {val zz : Nat → Int32} {I0 : mm_TI} (hM : lyM B P m) (hk : k < 8) (hn : nn ≤ 320) (hw : w + nn ≤ 640) (st : ∀ (i : Nat) (I : mm_TI) (Z : mm_Z), i < nn → Ev g mX12_wave 263 [some (.ref m), some (.int (nI k)), some (.int kd), some (.int p), some (.int q), some (.int (nI nn)), some (.int (nI 1)), some (.int (zz (i + 1))), some (.int (nI i)), some (.int (val i)), none] [] B I J P Z → Ev g mX12_wave 141 [some (.ref m), some (.int (nI k)), some (.int kd), some (.int p), some (.int q), some (.int (nI nn)), some (.int (nI 1)), some (.int (zz i)), some (.int (nI i)), none, none] [] B I J P Z) :
    ∀ (d i : Nat), i + d = nn → Ev g mX12_wave 134 [some (.ref m), some (.int (nI k)), some (.int kd), some (.int p), some (.int q), some (.int (nI nn)), some (.int (nI 1)), some (.int (zz i)), some (.int (nI i)), none, none] [] B (va_up (va_up I0 (m + 12) (sgp (I0 (m + 12)) (640 * k + w) i val)) (m + 11) (va_up (I0 (m + 11)) k (nI (w + i)))) J P (some (.int (nI (w + nn))), B, mo_st (va_up (va_up I0 (m + 12) (sgp (I0 (m + 12)) (640 * k + w) nn val)) (m + 11) (va_up (I0 (m + 11)) k (nI (w + nn)))) m (nI 0), J, P) := by
  intro d
  induction d with
  | zero =>
    intro i hi
    obtain rfl : i = nn := by omega
    refine ev_iload 136 dX12_wave_134 rfl rfl ?_
    refine ev_iload 138 dX12_wave_136 rfl rfl ?_
    refine ev_icmp_geN 141 298 dX12_wave_138 (by decide) (by omega) (by omega) rfl (fun hbr => ?_) (fun hx => absurd ((by omega)) hx)
    refine ev_aload_n 299 dX12_wave_298 rfl rfl ?_
    refine ev_aload_n 300 dX12_wave_299 rfl rfl ?_
    refine ev_getP 303 mm_cl12 (j := 16) (Nat.le_of_ble_eq_true rfl) dX12_wave_300 lk1301 (fun _ _ _ => rfl) (hM.1 0 _ rfl) (a := (m + 11)) (hM.2.2 10 _ _ _ rfl) rfl ?_
    refine ev_iload_n 304 dX12_wave_303 rfl rfl ?_
    refine ev_iald 305 _ dX12_wave_304 (hM.1 11 _ rfl) rfl (by have hNN := hM.2.1 11 _ rfl; omega) rfl ?_
    refine ev_eqI (y := nI ((w+i))) ((by rw [va_up_s, va_up_s])) ?_
    refine ev_invV 308 (Mc := mX12_done) ⟨lk1544, lk80, hdX12_done, (Nat.le_of_ble_eq_true rfl), (Nat.le_of_ble_eq_true rfl)⟩ lk1541 lk1543 lk39 mm_cl12 rfl dX12_wave_305 (ct_X12_done hM) rfl (hM.1 0 _ rfl) (Nat.le_of_ble_eq_true rfl) rfl rfl ?_
    exact ev_iret dX12_wave_308 rfl (rfl)
  | succ d ih =>
    intro i hi
    have e := ih (i + 1) (by omega)
    refine ev_iload 136 dX12_wave_134 rfl rfl ?_
    refine ev_iload 138 dX12_wave_136 rfl rfl ?_
    refine ev_icmp_geN 141 298 dX12_wave_138 (by decide) (by omega) (by omega) rfl (fun hx => absurd hx ((by omega))) (fun hbr => ?_)
    refine st i _ _ (by omega) ?_
    generalize hIi : va_up (va_up I0 (m + 12) (sgp (I0 (m + 12)) (640 * k + w) i val)) (m + 11) (va_up (I0 (m + 11)) k (nI (w + i))) = Ii
    have f11 : Ii (m + 11) k = nI (w + i) := by rw [← hIi, va_up_s, va_up_s]
    have g11 : va_up Ii (m + 12) (va_up (Ii (m + 12)) (640 * k + (w + i)) (val i)) (m + 11) = Ii (m + 11) := va_up_n _ _ (by omega)
    refine ev_aload_n 264 dX12_wave_263 rfl rfl ?_
    refine ev_getP 267 mm_cl12 (j := 17) (Nat.le_of_ble_eq_true rfl) dX12_wave_264 lk1302 (fun _ _ _ => rfl) (hM.1 0 _ rfl) (a := (m + 12)) (hM.2.2 11 _ _ _ rfl) rfl ?_
    refine ev_sipushN 270 640 dX12_wave_267 (by decide +kernel) rfl ?_
    refine ev_iload_n 271 dX12_wave_270 rfl rfl ?_
    refine ev_imulN 272 dX12_wave_271 rfl ?_
    refine ev_aload_n 273 dX12_wave_272 rfl rfl ?_
    refine ev_getP 276 mm_cl12 (j := 16) (Nat.le_of_ble_eq_true rfl) dX12_wave_273 lk1301 (fun _ _ _ => rfl) (hM.1 0 _ rfl) (a := (m + 11)) (hM.2.2 10 _ _ _ rfl) rfl ?_
    refine ev_iload_n 277 dX12_wave_276 rfl rfl ?_
    refine ev_iald 278 _ dX12_wave_277 (hM.1 11 _ rfl) rfl (by have hNN := hM.2.1 11 _ rfl; omega) rfl ?_
    refine ev_eqI (y := nI ((w+i))) (f11) ?_
    refine ev_iaddN 279 dX12_wave_278 rfl ?_
    refine ev_iload 281 dX12_wave_279 rfl rfl ?_
    refine ev_iast 282 _ dX12_wave_281 (hM.1 12 _ rfl) rfl (by have hNN := hM.2.1 12 _ rfl; omega) rfl ?_
    refine ev_aload_n 283 dX12_wave_282 rfl rfl ?_
    refine ev_getP 286 mm_cl12 (j := 16) (Nat.le_of_ble_eq_true rfl) dX12_wave_283 lk1301 (fun _ _ _ => rfl) (hM.1 0 _ rfl) (a := (m + 11)) (hM.2.2 10 _ _ _ rfl) rfl ?_
    refine ev_iload_n 287 dX12_wave_286 rfl rfl ?_
    refine ev_dup2_11 288 dX12_wave_287 rfl rfl rfl ?_
    refine ev_iald 289 _ dX12_wave_288 (hM.1 11 _ rfl) rfl (by have hNN := hM.2.1 11 _ rfl; omega) rfl ?_
    refine ev_eqI (y := nI ((w+i))) ((by rw [g11]; exact f11)) ?_
    refine ev_iconstN 290 1 dX12_wave_289 rfl ?_
    refine ev_iaddN 291 dX12_wave_290 rfl ?_
    refine ev_iast 292 _ dX12_wave_291 (hM.1 11 _ rfl) rfl (by have hNN := hM.2.1 11 _ rfl; omega) rfl ?_
    refine ev_iincN 295 (lv' := [_, _, _, _, _, _, _, some (.int _), _, _, _]) 1 dX12_wave_292 rfl (Nat.le_of_ble_eq_true rfl) rfl rfl ?_
    refine ev_goto 134 dX12_wave_295 (by decide) ?_
    refine ev_le (mle_s (mle_s (mle_s (mle_s (mle_s (mle_s (mle_s (mle_s (mle_s (mle_n (mle_n (mle_0)))))))))))) ?_
    rw [g11, ← hIi, va_up_n _ _ (show m + 12 ≠ m + 11 by omega), va_up_s, va_up_s, bx_uu, show 640 * k + (w + i) = 640 * k + w + i by omega, sgp_grow rfl, va_3 _ _ _ _ (by omega), va_3 _ _ _ _ (by omega)]
    exact e
theorem ml_wave_t {kd p q : Int32} {nn w : Nat} {val zz : Nat → Int32} (h : MA B I P m n k) (h1 : 1 ≤ nn) (h2 : nn ≤ 320) (hw : WG kd p q) (hww : I (m + 11) k = nI w) (h6 : w + nn ≤ 640) (hz : zz 0 = p) (st : ∀ (i : Nat) (I : mm_TI) (Z : mm_Z), i < nn → Ev g mX12_wave 263 [some (.ref m), some (.int (nI k)), some (.int kd), some (.int p), some (.int q), some (.int (nI nn)), some (.int (nI 1)), some (.int (zz (i + 1))), some (.int (nI i)), some (.int (val i)), none] [] B I J P Z → Ev g mX12_wave 141 [some (.ref m), some (.int (nI k)), some (.int kd), some (.int p), some (.int q), some (.int (nI nn)), some (.int (nI 1)), some (.int (zz i)), some (.int (nI i)), none, none] [] B I J P Z) :
    Ct g mX12_wave [.ref m, .int (nI k), .int kd, .int p, .int q, .int (nI nn)] B I J P (some (.int (nI (w + nn))), B, mo_st (va_up (va_up I (m + 12) (sgp (I (m + 12)) (640 * k + w) nn val)) (m + 11) (va_up (I (m + 11)) k (nI (w + nn)))) m (nI 0), J, P) := by
  have hM := h.1
  have h8 := h.2.2.1
  have hk := h.2.2.2
  have e := lx_wavL (g := g) (B := B) (I0 := I) (J := J) (P := P) hM (show k < 8 by omega) h2 h6 st nn 0 (by omega)
  rw [sgp_0, va_up_id, show va_up I (m + 11) (va_up (I (m + 11)) k (nI (w + 0))) = I by rw [show nI (w + 0) = I (m + 11) k from hww.symm, va_up_id, va_up_id], hz] at e
  refine lx_wavM h h1 h2 hw ?_
  refine ev_aload_n 107 dX12_wave_106 rfl rfl ?_
  refine ev_getP 110 mm_cl12 (j := 16) (Nat.le_of_ble_eq_true rfl) dX12_wave_107 lk1301 (fun _ _ _ => rfl) (hM.1 0 _ rfl) (a := (m + 11)) (hM.2.2 10 _ _ _ rfl) rfl ?_
  refine ev_iload_n 111 dX12_wave_110 rfl rfl ?_
  refine ev_iald 112 _ dX12_wave_111 (hM.1 11 _ rfl) rfl (by have hNN := hM.2.1 11 _ rfl; omega) rfl ?_
  refine ev_eqI (y := nI (w)) (hww) ?_
  refine ev_iload 114 dX12_wave_112 rfl rfl ?_
  refine ev_iaddN 115 dX12_wave_114 rfl ?_
  refine ev_sipushN 118 640 dX12_wave_115 (by decide +kernel) rfl ?_
  refine ev_icmp_leN 121 128 dX12_wave_118 (by decide) (by omega) (by omega) rfl (fun hbr => ?_) (fun hx => absurd ((by omega)) hx)
  refine ev_iload_n 129 dX12_wave_128 rfl rfl ?_
  refine ev_istore 131 (lv' := [_, _, _, _, _, _, some (.int _), _, _, _, _]) dX12_wave_129 (Nat.le_of_ble_eq_true rfl) rfl rfl ?_
  refine ev_iconstN 132 0 dX12_wave_131 rfl ?_
  refine ev_istore 134 (lv' := [_, _, _, _, _, _, _, some (.int _), _, _, _]) dX12_wave_132 (Nat.le_of_ble_eq_true rfl) rfl rfl ?_
  exact e
/-! one sample's walk, by its kind -/
theorem ws_m0 {pz : Int32} {p q nn : Nat} (hM : lyM B P m) (hn : nn ≤ 320) : ∀ (i : Nat) (I : mm_TI) (Z : mm_Z), i < nn → Ev g mX12_wave 263 [some (.ref m), some (.int (nI k)), some (.int (nI 0)), some (.int pz), some (.int (nI q)), some (.int (nI nn)), some (.int (nI 1)), some (.int pz), some (.int (nI i)), some (.int (wvv 0 pz p q i)), none] [] B I J P Z → Ev g mX12_wave 141 [some (.ref m), some (.int (nI k)), some (.int (nI 0)), some (.int pz), some (.int (nI q)), some (.int (nI nn)), some (.int (nI 1)), some (.int pz), some (.int (nI i)), none, none] [] B I J P Z := by
  intro i I Z hi K
  refine ev_iload_n 142 dX12_wave_141 rfl rfl ?_
  refine ev_istore 144 (lv' := [_, _, _, _, _, _, _, _, some (.int _), _, _]) dX12_wave_142 (Nat.le_of_ble_eq_true rfl) rfl rfl ?_
  refine ev_iload_n 145 dX12_wave_144 rfl rfl ?_
  refine ev_iconstN 146 1 dX12_wave_145 rfl ?_
  refine ev_icmp_neN 149 168 dX12_wave_146 (by decide) (by omega) (by omega) rfl (fun hbr => ?_) (fun hx => absurd hx ((by omega)))
  refine ev_iload_n 169 dX12_wave_168 rfl rfl ?_
  refine ev_iconstN 170 2 dX12_wave_169 rfl ?_
  refine ev_icmp_neN 173 196 dX12_wave_170 (by decide) (by omega) (by omega) rfl (fun hbr => ?_) (fun hx => absurd hx ((by omega)))
  refine ev_iload_n 197 dX12_wave_196 rfl rfl ?_
  refine ev_iconstN 198 3 dX12_wave_197 rfl ?_
  refine ev_icmp_neN 201 243 dX12_wave_198 (by decide) (by omega) (by omega) rfl (fun hbr => ?_) (fun hx => absurd hx ((by omega)))
  refine ev_iload_n 244 dX12_wave_243 rfl rfl ?_
  refine ev_iconstN 245 4 dX12_wave_244 rfl ?_
  refine ev_icmp_neN 248 263 dX12_wave_245 (by decide) (by omega) (by omega) rfl (fun hbr => ?_) (fun hx => absurd hx ((by omega)))
  exact K
theorem ws_m1 {p q nn : Nat} (hM : lyM B P m) (hn : nn ≤ 320) (hp : 2 ≤ p) (hp2 : p ≤ 640) (hq : q ≤ 32767) : ∀ (i : Nat) (I : mm_TI) (Z : mm_Z), i < nn → Ev g mX12_wave 263 [some (.ref m), some (.int (nI k)), some (.int (nI 1)), some (.int (nI p)), some (.int (nI q)), some (.int (nI nn)), some (.int (nI 1)), some (.int (nI p)), some (.int (nI i)), some (.int (wvv 1 (nI p) p q i)), none] [] B I J P Z → Ev g mX12_wave 141 [some (.ref m), some (.int (nI k)), some (.int (nI 1)), some (.int (nI p)), some (.int (nI q)), some (.int (nI nn)), some (.int (nI 1)), some (.int (nI p)), some (.int (nI i)), none, none] [] B I J P Z := by
  intro i I Z hi K
  have hm : i % p < p := Nat.mod_lt _ (by omega)
  have hb : 2 * q * (i % p) < 2 ^ 31 := Nat.lt_of_le_of_lt (Nat.mul_le_mul (show 2 * q ≤ 65534 by omega) (show i % p ≤ 640 by omega)) (by decide)
  refine ev_iload_n 142 dX12_wave_141 rfl rfl ?_
  refine ev_istore 144 (lv' := [_, _, _, _, _, _, _, _, some (.int _), _, _]) dX12_wave_142 (Nat.le_of_ble_eq_true rfl) rfl rfl ?_
  refine ev_iload_n 145 dX12_wave_144 rfl rfl ?_
  refine ev_iconstN 146 1 dX12_wave_145 rfl ?_
  refine ev_icmp_neN 149 168 dX12_wave_146 (by decide) (by omega) (by omega) rfl (fun hx => absurd ((by omega)) hx) (fun hbr => ?_)
  refine ev_iconstN 150 2 dX12_wave_149 rfl ?_
  refine ev_iload 152 dX12_wave_150 rfl rfl ?_
  refine ev_imulN 153 dX12_wave_152 rfl ?_
  refine ev_iload 155 dX12_wave_153 rfl rfl ?_
  refine ev_iload_n 156 dX12_wave_155 rfl rfl ?_
  refine ev_iremN 157 dX12_wave_156 (by omega) (by omega) (by omega) rfl ?_
  refine ev_imulN 158 dX12_wave_157 rfl ?_
  refine ev_iload_n 159 dX12_wave_158 rfl rfl ?_
  refine ev_idivN 160 dX12_wave_159 (by omega) (by omega) (by omega) rfl ?_
  refine ev_eqI (y := ((nI (2 * q * (i % p) / p)))) (rfl) ?_
  refine ev_iload 162 dX12_wave_160 rfl rfl ?_
  refine ev_isub 163 dX12_wave_162 rfl ?_
  refine ev_istore 165 (lv' := [_, _, _, _, _, _, _, _, some (.int _), _, _]) dX12_wave_163 (Nat.le_of_ble_eq_true rfl) rfl rfl ?_
  refine ev_goto 263 dX12_wave_165 (by decide) ?_
  exact K
theorem ws_m2 {p q nn : Nat} (hM : lyM B P m) (hp : p < 2 ^ 31) (hn : nn ≤ 320) : ∀ (i : Nat) (I : mm_TI) (Z : mm_Z), i < nn → Ev g mX12_wave 263 [some (.ref m), some (.int (nI k)), some (.int (nI 2)), some (.int (nI p)), some (.int (nI q)), some (.int (nI nn)), some (.int (nI 1)), some (.int (nI (sp_dz p (i + 1)))), some (.int (nI i)), some (.int (wvv 2 (nI p) p q i)), none] [] B I J P Z → Ev g mX12_wave 141 [some (.ref m), some (.int (nI k)), some (.int (nI 2)), some (.int (nI p)), some (.int (nI q)), some (.int (nI nn)), some (.int (nI 1)), some (.int (nI (sp_dz p i))), some (.int (nI i)), none, none] [] B I J P Z := by
  intro i I Z hi K
  refine ev_iload_n 142 dX12_wave_141 rfl rfl ?_
  refine ev_istore 144 (lv' := [_, _, _, _, _, _, _, _, some (.int _), _, _]) dX12_wave_142 (Nat.le_of_ble_eq_true rfl) rfl rfl ?_
  refine ev_iload_n 145 dX12_wave_144 rfl rfl ?_
  refine ev_iconstN 146 1 dX12_wave_145 rfl ?_
  refine ev_icmp_neN 149 168 dX12_wave_146 (by decide) (by omega) (by omega) rfl (fun hbr => ?_) (fun hx => absurd hx ((by omega)))
  refine ev_iload_n 169 dX12_wave_168 rfl rfl ?_
  refine ev_iconstN 170 2 dX12_wave_169 rfl ?_
  refine ev_icmp_neN 173 196 dX12_wave_170 (by decide) (by omega) (by omega) rfl (fun hx => absurd ((by omega)) hx) (fun hbr => ?_)
  refine ev_iload 175 dX12_wave_173 rfl rfl ?_
  refine ev_invS 178 (Mc := mX12_drawn) ⟨lk1585, lk80, hdX12_drawn, (Nat.le_of_ble_eq_true rfl), (Nat.le_of_ble_eq_true rfl)⟩ lk1583 lk1584 dX12_wave_175 (ct_X12_drawn (sp_dz_lt hp i)) rfl (Nat.le_of_ble_eq_true rfl) rfl rfl ?_
  refine ev_istore 180 (lv' := [_, _, _, _, _, _, some (.int _), _, _, _, _]) dX12_wave_178 (Nat.le_of_ble_eq_true rfl) rfl rfl ?_
  refine ev_iload 182 dX12_wave_180 rfl rfl ?_
  refine ev_invS 185 (Mc := mX12_told8) ⟨lk1591, lk80, hdX12_told8, (Nat.le_of_ble_eq_true rfl), (Nat.le_of_ble_eq_true rfl)⟩ lk1589 lk1590 dX12_wave_182 (ct_X12_told8 (sp_dz_lt hp (i + 1))) rfl (Nat.le_of_ble_eq_true rfl) rfl rfl ?_
  refine ev_iload 187 dX12_wave_185 rfl rfl ?_
  refine ev_imul 188 dX12_wave_187 rfl ?_
  refine ev_bipushN 190 7 dX12_wave_188 (by decide +kernel) rfl ?_
  refine ev_ishr 191 dX12_wave_190 rfl ?_
  refine ev_istore 193 (lv' := [_, _, _, _, _, _, _, _, some (.int _), _, _]) dX12_wave_191 (Nat.le_of_ble_eq_true rfl) rfl rfl ?_
  refine ev_goto 263 dX12_wave_193 (by decide) ?_
  exact K
theorem ws_m3 {p q nn : Nat} (hM : lyM B P m) (hn : nn ≤ 320) (hp : 2 ≤ p) (hp2 : p ≤ 640) (hq : q ≤ 32767) : ∀ (i : Nat) (I : mm_TI) (Z : mm_Z), i < nn → Ev g mX12_wave 263 [some (.ref m), some (.int (nI k)), some (.int (nI 3)), some (.int (nI p)), some (.int (nI q)), some (.int (nI nn)), some (.int (nI 1)), some (.int (nI p)), some (.int (nI i)), some (.int (wvv 3 (nI p) p q i)), none] [] B I J P Z → Ev g mX12_wave 141 [some (.ref m), some (.int (nI k)), some (.int (nI 3)), some (.int (nI p)), some (.int (nI q)), some (.int (nI nn)), some (.int (nI 1)), some (.int (nI p)), some (.int (nI i)), none, none] [] B I J P Z := by
  intro i I Z hi K
  have hm : i % p < p := Nat.mod_lt _ (by omega)
  have ha : ab_d (2 * (i % p)) p ≤ 640 := by unfold ab_d; split <;> omega
  have hb : 2 * q * ab_d (2 * (i % p)) p < 2 ^ 31 := Nat.lt_of_le_of_lt (Nat.mul_le_mul (show 2 * q ≤ 65534 by omega) ha) (by decide)
  by_cases hc : 2 * (i % p) < p
  · refine ev_iload_n 142 dX12_wave_141 rfl rfl ?_
    refine ev_istore 144 (lv' := [_, _, _, _, _, _, _, _, some (.int _), _, _]) dX12_wave_142 (Nat.le_of_ble_eq_true rfl) rfl rfl ?_
    refine ev_iload_n 145 dX12_wave_144 rfl rfl ?_
    refine ev_iconstN 146 1 dX12_wave_145 rfl ?_
    refine ev_icmp_neN 149 168 dX12_wave_146 (by decide) (by omega) (by omega) rfl (fun hbr => ?_) (fun hx => absurd hx ((by omega)))
    refine ev_iload_n 169 dX12_wave_168 rfl rfl ?_
    refine ev_iconstN 170 2 dX12_wave_169 rfl ?_
    refine ev_icmp_neN 173 196 dX12_wave_170 (by decide) (by omega) (by omega) rfl (fun hbr => ?_) (fun hx => absurd hx ((by omega)))
    refine ev_iload_n 197 dX12_wave_196 rfl rfl ?_
    refine ev_iconstN 198 3 dX12_wave_197 rfl ?_
    refine ev_icmp_neN 201 243 dX12_wave_198 (by decide) (by omega) (by omega) rfl (fun hx => absurd ((by omega)) hx) (fun hbr => ?_)
    refine ev_iconstN 202 2 dX12_wave_201 rfl ?_
    refine ev_iload 204 dX12_wave_202 rfl rfl ?_
    refine ev_iload_n 205 dX12_wave_204 rfl rfl ?_
    refine ev_iremN 206 dX12_wave_205 (by omega) (by omega) (by omega) rfl ?_
    refine ev_imulN 207 dX12_wave_206 rfl ?_
    refine ev_eqI (y := ((nI (2 * (i % p))))) (rfl) ?_
    refine ev_iload_n 208 dX12_wave_207 rfl rfl ?_
    refine ev_isub 209 dX12_wave_208 rfl ?_
    refine ev_istore 211 (lv' := [_, _, _, _, _, _, _, _, _, some (.int _), _]) dX12_wave_209 (Nat.le_of_ble_eq_true rfl) rfl rfl ?_
    refine ev_iload 213 dX12_wave_211 rfl rfl ?_
    refine ev_if_ge 216 222 dX12_wave_213 (by decide) rfl (fun hx => absurd hx ((Int32.not_le.mpr (ab_lt hc (by omega))))) (fun hbr => ?_)
    refine ev_iload 218 dX12_wave_216 rfl rfl ?_
    refine ev_ineg 219 dX12_wave_218 rfl ?_
    refine ev_goto 224 dX12_wave_219 (by decide) ?_
    refine ev_eqI (y := nI ((ab_d (2 * (i % p)) p))) ((ab_m1 hc (by omega))) ?_
    refine ev_istore 226 (lv' := [_, _, _, _, _, _, _, _, _, some (.int _), _]) dX12_wave_224 (Nat.le_of_ble_eq_true rfl) rfl rfl ?_
    refine ev_iconstN 227 2 dX12_wave_226 rfl ?_
    refine ev_iload 229 dX12_wave_227 rfl rfl ?_
    refine ev_imulN 230 dX12_wave_229 rfl ?_
    refine ev_iload 232 dX12_wave_230 rfl rfl ?_
    refine ev_imulN 233 dX12_wave_232 rfl ?_
    refine ev_iload_n 234 dX12_wave_233 rfl rfl ?_
    refine ev_idivN 235 dX12_wave_234 (by omega) (by omega) (by omega) rfl ?_
    refine ev_eqI (y := ((nI (2 * q * ab_d (2 * (i % p)) p / p)))) (rfl) ?_
    refine ev_iload 237 dX12_wave_235 rfl rfl ?_
    refine ev_isub 238 dX12_wave_237 rfl ?_
    refine ev_istore 240 (lv' := [_, _, _, _, _, _, _, _, some (.int _), _, _]) dX12_wave_238 (Nat.le_of_ble_eq_true rfl) rfl rfl ?_
    refine ev_goto 263 dX12_wave_240 (by decide) ?_
    refine ev_le (mle_s (mle_s (mle_s (mle_s (mle_s (mle_s (mle_s (mle_s (mle_s (mle_s (mle_n (mle_0)))))))))))) ?_
    exact K
  · refine ev_iload_n 142 dX12_wave_141 rfl rfl ?_
    refine ev_istore 144 (lv' := [_, _, _, _, _, _, _, _, some (.int _), _, _]) dX12_wave_142 (Nat.le_of_ble_eq_true rfl) rfl rfl ?_
    refine ev_iload_n 145 dX12_wave_144 rfl rfl ?_
    refine ev_iconstN 146 1 dX12_wave_145 rfl ?_
    refine ev_icmp_neN 149 168 dX12_wave_146 (by decide) (by omega) (by omega) rfl (fun hbr => ?_) (fun hx => absurd hx ((by omega)))
    refine ev_iload_n 169 dX12_wave_168 rfl rfl ?_
    refine ev_iconstN 170 2 dX12_wave_169 rfl ?_
    refine ev_icmp_neN 173 196 dX12_wave_170 (by decide) (by omega) (by omega) rfl (fun hbr => ?_) (fun hx => absurd hx ((by omega)))
    refine ev_iload_n 197 dX12_wave_196 rfl rfl ?_
    refine ev_iconstN 198 3 dX12_wave_197 rfl ?_
    refine ev_icmp_neN 201 243 dX12_wave_198 (by decide) (by omega) (by omega) rfl (fun hx => absurd ((by omega)) hx) (fun hbr => ?_)
    refine ev_iconstN 202 2 dX12_wave_201 rfl ?_
    refine ev_iload 204 dX12_wave_202 rfl rfl ?_
    refine ev_iload_n 205 dX12_wave_204 rfl rfl ?_
    refine ev_iremN 206 dX12_wave_205 (by omega) (by omega) (by omega) rfl ?_
    refine ev_imulN 207 dX12_wave_206 rfl ?_
    refine ev_eqI (y := ((nI (2 * (i % p))))) (rfl) ?_
    refine ev_iload_n 208 dX12_wave_207 rfl rfl ?_
    refine ev_isub 209 dX12_wave_208 rfl ?_
    refine ev_istore 211 (lv' := [_, _, _, _, _, _, _, _, _, some (.int _), _]) dX12_wave_209 (Nat.le_of_ble_eq_true rfl) rfl rfl ?_
    refine ev_iload 213 dX12_wave_211 rfl rfl ?_
    refine ev_if_ge 216 222 dX12_wave_213 (by decide) rfl (fun hbr => ?_) (fun hx => absurd ((by rw [ab_m2 hc]; exact nI_pos' (by omega))) hx)
    refine ev_iload 224 dX12_wave_222 rfl rfl ?_
    refine ev_eqI (y := nI ((ab_d (2 * (i % p)) p))) ((ab_m2 hc)) ?_
    refine ev_istore 226 (lv' := [_, _, _, _, _, _, _, _, _, some (.int _), _]) dX12_wave_224 (Nat.le_of_ble_eq_true rfl) rfl rfl ?_
    refine ev_iconstN 227 2 dX12_wave_226 rfl ?_
    refine ev_iload 229 dX12_wave_227 rfl rfl ?_
    refine ev_imulN 230 dX12_wave_229 rfl ?_
    refine ev_iload 232 dX12_wave_230 rfl rfl ?_
    refine ev_imulN 233 dX12_wave_232 rfl ?_
    refine ev_iload_n 234 dX12_wave_233 rfl rfl ?_
    refine ev_idivN 235 dX12_wave_234 (by omega) (by omega) (by omega) rfl ?_
    refine ev_eqI (y := ((nI (2 * q * ab_d (2 * (i % p)) p / p)))) (rfl) ?_
    refine ev_iload 237 dX12_wave_235 rfl rfl ?_
    refine ev_isub 238 dX12_wave_237 rfl ?_
    refine ev_istore 240 (lv' := [_, _, _, _, _, _, _, _, some (.int _), _, _]) dX12_wave_238 (Nat.le_of_ble_eq_true rfl) rfl rfl ?_
    refine ev_goto 263 dX12_wave_240 (by decide) ?_
    refine ev_le (mle_s (mle_s (mle_s (mle_s (mle_s (mle_s (mle_s (mle_s (mle_s (mle_s (mle_n (mle_0)))))))))))) ?_
    exact K
theorem ws_m4 {p q nn : Nat} (hM : lyM B P m) (hn : nn ≤ 320) (hp : 2 ≤ p) (hp2 : p ≤ 640) (hq : q ≤ 32767) : ∀ (i : Nat) (I : mm_TI) (Z : mm_Z), i < nn → Ev g mX12_wave 263 [some (.ref m), some (.int (nI k)), some (.int (nI 4)), some (.int (nI p)), some (.int (nI q)), some (.int (nI nn)), some (.int (nI 1)), some (.int (nI p)), some (.int (nI i)), some (.int (wvv 4 (nI p) p q i)), none] [] B I J P Z → Ev g mX12_wave 141 [some (.ref m), some (.int (nI k)), some (.int (nI 4)), some (.int (nI p)), some (.int (nI q)), some (.int (nI nn)), some (.int (nI 1)), some (.int (nI p)), some (.int (nI i)), none, none] [] B I J P Z := by
  intro i I Z hi K
  have hm : i % p < p := Nat.mod_lt _ (by omega)
  rw [show wvv 4 (nI p) p q i = nI (if i % p = 0 then q else 0) from rfl] at K
  by_cases hc : i % p = 0
  · rw [if_pos hc] at K
    refine ev_iload_n 142 dX12_wave_141 rfl rfl ?_
    refine ev_istore 144 (lv' := [_, _, _, _, _, _, _, _, some (.int _), _, _]) dX12_wave_142 (Nat.le_of_ble_eq_true rfl) rfl rfl ?_
    refine ev_iload_n 145 dX12_wave_144 rfl rfl ?_
    refine ev_iconstN 146 1 dX12_wave_145 rfl ?_
    refine ev_icmp_neN 149 168 dX12_wave_146 (by decide) (by omega) (by omega) rfl (fun hbr => ?_) (fun hx => absurd hx ((by omega)))
    refine ev_iload_n 169 dX12_wave_168 rfl rfl ?_
    refine ev_iconstN 170 2 dX12_wave_169 rfl ?_
    refine ev_icmp_neN 173 196 dX12_wave_170 (by decide) (by omega) (by omega) rfl (fun hbr => ?_) (fun hx => absurd hx ((by omega)))
    refine ev_iload_n 197 dX12_wave_196 rfl rfl ?_
    refine ev_iconstN 198 3 dX12_wave_197 rfl ?_
    refine ev_icmp_neN 201 243 dX12_wave_198 (by decide) (by omega) (by omega) rfl (fun hbr => ?_) (fun hx => absurd hx ((by omega)))
    refine ev_iload_n 244 dX12_wave_243 rfl rfl ?_
    refine ev_iconstN 245 4 dX12_wave_244 rfl ?_
    refine ev_icmp_neN 248 263 dX12_wave_245 (by decide) (by omega) (by omega) rfl (fun hx => absurd ((by omega)) hx) (fun hbr => ?_)
    refine ev_iload 250 dX12_wave_248 rfl rfl ?_
    refine ev_iload_n 251 dX12_wave_250 rfl rfl ?_
    refine ev_iremN 252 dX12_wave_251 (by omega) (by omega) (by omega) rfl ?_
    refine ev_if_neN 255 260 dX12_wave_252 (by decide) (by omega) rfl (fun hx => absurd ((by omega)) hx) (fun hbr => ?_)
    refine ev_iload 257 dX12_wave_255 rfl rfl ?_
    refine ev_goto 261 dX12_wave_257 (by decide) ?_
    refine ev_istore 263 (lv' := [_, _, _, _, _, _, _, _, some (.int _), _, _]) dX12_wave_261 (Nat.le_of_ble_eq_true rfl) rfl rfl ?_
    exact K
  · rw [if_neg hc] at K
    refine ev_iload_n 142 dX12_wave_141 rfl rfl ?_
    refine ev_istore 144 (lv' := [_, _, _, _, _, _, _, _, some (.int _), _, _]) dX12_wave_142 (Nat.le_of_ble_eq_true rfl) rfl rfl ?_
    refine ev_iload_n 145 dX12_wave_144 rfl rfl ?_
    refine ev_iconstN 146 1 dX12_wave_145 rfl ?_
    refine ev_icmp_neN 149 168 dX12_wave_146 (by decide) (by omega) (by omega) rfl (fun hbr => ?_) (fun hx => absurd hx ((by omega)))
    refine ev_iload_n 169 dX12_wave_168 rfl rfl ?_
    refine ev_iconstN 170 2 dX12_wave_169 rfl ?_
    refine ev_icmp_neN 173 196 dX12_wave_170 (by decide) (by omega) (by omega) rfl (fun hbr => ?_) (fun hx => absurd hx ((by omega)))
    refine ev_iload_n 197 dX12_wave_196 rfl rfl ?_
    refine ev_iconstN 198 3 dX12_wave_197 rfl ?_
    refine ev_icmp_neN 201 243 dX12_wave_198 (by decide) (by omega) (by omega) rfl (fun hbr => ?_) (fun hx => absurd hx ((by omega)))
    refine ev_iload_n 244 dX12_wave_243 rfl rfl ?_
    refine ev_iconstN 245 4 dX12_wave_244 rfl ?_
    refine ev_icmp_neN 248 263 dX12_wave_245 (by decide) (by omega) (by omega) rfl (fun hx => absurd ((by omega)) hx) (fun hbr => ?_)
    refine ev_iload 250 dX12_wave_248 rfl rfl ?_
    refine ev_iload_n 251 dX12_wave_250 rfl rfl ?_
    refine ev_iremN 252 dX12_wave_251 (by omega) (by omega) (by omega) rfl ?_
    refine ev_if_neN 255 260 dX12_wave_252 (by decide) (by omega) rfl (fun hbr => ?_) (fun hx => absurd hx ((by omega)))
    refine ev_iconstN 261 0 dX12_wave_260 rfl ?_
    refine ev_istore 263 (lv' := [_, _, _, _, _, _, _, _, some (.int _), _, _]) dX12_wave_261 (Nat.le_of_ble_eq_true rfl) rfl rfl ?_
    exact K
end WV1
section WV2
variable {g : mm_G}
/-- samples were added to coder k -/
theorem RC_wait {B : mm_B} {I I1 I2 : mm_TI} {J : mm_TJ} {P : mm_TP} {x m n R K k w nn : Nat} {o : Nat → Nat} {fl φ : Nat → Nat → Nat} {ρ : Nat → Nat} {val : Nat → Int32} (h : RC g B I J P x m n R K o fl φ ρ) (hk : k < n) (hw : I (o k) 1 = nI w) (hw2 : I (m + 11) k = nI w) (h6 : w + nn ≤ 640) (e1 : I1 = va_up (va_up (vz I x) (o k + 1) (sgp (I (o k + 1)) w nn val)) (o k) (va_up (I (o k)) 1 (nI (w + nn))))
    (e2 : I2 = mo_st (va_up (va_up I1 (m + 12) (sgp (I1 (m + 12)) (640 * k + w) nn val)) (m + 11) (va_up (I1 (m + 11)) k (nI (w + nn)))) m (nI 0)) : RC g B I2 J P x m n R K o fl φ ρ ∧ ∀ q, q < x → I2 q = I q := by
  obtain ⟨xm, mn⟩ := RC_xm h
  have mo := (RC_v h hk).1.2.1
  have g1 : ∀ q, q ≠ x → q ≠ o k → q ≠ o k + 1 → I1 q = I q := fun q q1 q2 q3 => by rw [e1, va_up_n _ _ q2, va_up_n _ _ q3]; exact va_up_n _ _ q1
  have g2 : ∀ q, q ≠ m → q ≠ m + 11 → q ≠ m + 12 → I2 q = I1 q := fun q q1 q2 q3 => by rw [e2]; exact (va_up_n _ _ q1).trans ((va_up_n _ _ q2).trans (va_up_n _ _ q3))
  have f : ∀ q, q ≠ x → q ≠ m → q ≠ o k → q ≠ o k + 1 → q ≠ m + 11 → q ≠ m + 12 → I2 q = I q := fun q a1 a2 a3 a4 a5 a6 => by rw [g2 q a2 a5 a6, g1 q a1 a3 a4]
  have go : I2 (o k) = va_up (I (o k)) 1 (nI (w + nn)) := by rw [g2 _ (by omega) (by omega) (by omega), e1, va_up_s]
  have go1 : I2 (o k + 1) = sgp (I (o k + 1)) w nn val := by rw [g2 _ (by omega) (by omega) (by omega), e1, va_up_n _ _ (by omega), va_up_s]
  have g11 : I2 (m + 11) = va_up (I (m + 11)) k (nI (w + nn)) := by
    rw [e2]; refine (va_up_n _ _ (by omega)).trans ?_; rw [va_up_s, g1 _ (by omega) (by omega) (by omega)]
  have g12 : I2 (m + 12) = sgp (I (m + 12)) (640 * k + w) nn val := by
    rw [e2]; refine (va_up_n _ _ (by omega)).trans ?_; rw [va_up_n _ _ (by omega), va_up_s, g1 _ (by omega) (by omega) (by omega)]
  have gx : I2 x = va_up (I x) 9 (nI 0) := by
    rw [g2 _ (by omega) (by omega) (by omega), e1, va_up_n _ _ (by omega), va_up_n _ _ (by omega)]; exact va_up_s _ _ _
  have gm : I2 m = va_up (I m) 1 (nI 0) := by
    rw [e2]; refine (va_up_s _ _ _).trans ?_
    rw [va_up_n _ _ (by omega), va_up_n _ _ (by omega), g1 _ (by omega) (by omega) (by omega)]
  refine ⟨RC_set h hk (by rw [gx, gm, va_up_s, va_up_s]) (fun i hi => by rw [gx, va_up_n _ _ (by omega)]) (fun i hi => by rw [gm, va_up_n _ _ (by omega)]) (fun q q1 q2 q3 q4 => f q q1 q2 (by omega) (by omega) (by omega) (by omega)) (fun a i a1 a2 a3 => ?_) ?_ (VCe_cg (RC_e h hk) (f _ (by omega) (by omega) (by omega) (by omega) (by omega) (by omega)) (f _ (by omega) (by omega) (by omega) (by omega) (by omega) (by omega)) (fun i hi => f _ (by omega) (by omega) (by omega) (by omega) (by omega) (by omega)))
    (VCs_cg (RC_s h hk) (by rw [f (o k + 4) (by omega) (by omega) (by omega) (by omega) (by omega) (by omega)]) (by rw [f (o k + 4) (by omega) (by omega) (by omega) (by omega) (by omega) (by omega)]) (fun i hi => f _ (by omega) (by omega) (by omega) (by omega) (by omega) (by omega)) (fun i i1 i2 => f _ (by omega) (by omega) (by omega) (by omega) (by omega) (by omega)) (fun _ _ _ => rfl) rfl rfl) (VCm_cw (RC_m1 h hk) (fun i hi => f _ (by omega) (by omega) (by omega) (by omega) (by omega) (by omega)) (fun i i1 i2 => f _ (by omega) (by omega) (by omega) (by omega) (by omega) (by omega))) (VCd_cg (RC_d h hk) (f _ (by omega) (by omega) (by omega) (by omega) (by omega) (by omega)) (f _ (by omega) (by omega) (by omega) (by omega) (by omega) (by omega)) (fun i i1 i2 => f _ (by omega) (by omega) (by omega) (by omega) (by omega) (by omega))) (VCm_cw (RC_m2 h hk) (fun i hi => f _ (by omega) (by omega) (by omega) (by omega) (by omega) (by omega)) (fun i i1 i2 => f _ (by omega) (by omega) (by omega) (by omega) (by omega) (by omega))), fun q hq => f q (by omega) (by omega) (by omega) (by omega) (by omega) (by omega)⟩
  · by_cases e : a = 11
    · subst e
      have a3' : i < 1 * k ∨ 1 * k + 1 ≤ i := a3
      rw [g11, va_up_n _ _ (by omega)]
    · by_cases e : a = 12
      · subst e
        have a3' : i < 640 * k ∨ 640 * k + 640 ≤ i := a3
        rw [g12, sgp_out (by omega)]
      · rw [f (m + a) (by omega) (by omega) (by omega) (by omega) (by omega) (by omega)]
  · obtain ⟨w', w1, w2, w3, w4⟩ := RC_w h hk
    have ew : w' = w := (nI_eq (by omega) (by omega)).mp (w2.symm.trans hw)
    subst ew
    refine ⟨w' + nn, h6, by rw [go, va_up_s], by rw [g11, va_up_s], fun j hj => ?_⟩
    rw [go1, g12]
    by_cases e : j < w'
    · rw [sgp_out (by omega), sgp_out (by omega)]; exact w4 j e
    · rw [show j = w' + (j - w') by omega, sgp_in (by omega), show 640 * k + (w' + (j - w')) = 640 * k + w' + (j - w') by omega, sgp_in (by omega)]
theorem sgp_1 {f : Nat → Int32} {a : Nat} {v : Int32} : sgp f a 1 (fun _ => v) = va_up f a v := by
  have e := sgp_grow (f := f) (v := fun _ => v) (off := a) (n := 0) (x := v) rfl
  rw [sgp_0] at e; exact e.symm
theorem jo_sample {c r : Int32} : JO g mX11_sample mX12_sample [.int c, .int r] := by
  refine jo_mk fun K x m B I J P n R o fl φ ρ hK hR h => ?_
  obtain ⟨hV, hM, -⟩ := RG_ly h
  obtain ⟨h8, hx4, hm0⟩ := RG_n h
  have xm := (RC_xm h).1
  rcases cd_cases h8 c with ⟨k, hk, rfl⟩ | hc
  · have mo := (RC_v h hk).1.2.1
    by_cases hr : -32768 ≤ r ∧ r ≤ nI 32767
    · obtain ⟨w, w1, w2, w3, w4⟩ := RC_w h hk
      by_cases hu : w = 640
      · subst hu
        exact Or.inl ⟨_, _, cl_sample_u (CA_of h hk) hr w2, fun I1 h1 => ml_sample_u (MA_of h hk (h1 _ (by omega))) hr (by rw [h1 _ (by omega)]; exact w3)⟩
      · have rc := RC_wait (val := fun _ => r) (nn := 1) h hk w2 w3 (by omega) rfl rfl
        rw [sgp_1, sgp_1] at rc
        exact Or.inr ⟨_, _, J, _, J, cl_sample_t (CA_of h hk) hr w2 (by omega), ml_sample_t (n := n) (MA_of h hk ((va_up_n _ _ (by omega)).trans ((va_up_n _ _ (by omega)).trans (va_up_n _ _ (by omega))))) hr (by rw [va_up_n _ _ (by omega), va_up_n _ _ (by omega)]; exact vzk w3 (by omega)) (by omega), rc.1, rc.2⟩
    · exact Or.inl ⟨_, _, cl_sample_b (CA_of h hk) hr, fun I1 h1 => ml_sample_b (MA_of h hk (h1 _ (by omega))) hr⟩
  · exact Or.inl ⟨_, _, cl_sample_f hV hx4 hc, fun I1 h1 => ml_sample_f hM (by rw [h1 _ (by omega)]; exact hm0) hc⟩
/-- all draws from any number -/
theorem dr_seq (z : Int64) : ∃ zz : Nat → Int64, zz 0 = z ∧ ∀ i, ∀ (B : mm_B) (I : mm_TI) (J : mm_TJ) (P : mm_TP), Ct g mX11_drawnFrom [.long (zz i)] B I J P (some (.long (zz (i + 1))), B, I, J, P) := by
  refine ⟨fun i => Nat.rec z (fun _ y => (ct_drawnAny (g := g) (z := y)).choose) i, rfl, fun i => ?_⟩
  exact (ct_drawnAny (g := g) (z := _)).choose_spec
end WV2
