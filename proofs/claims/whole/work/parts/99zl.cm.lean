/-! CODER, both calls -/
section CM0
variable {g : mm_G} {B : mm_B} {I : mm_TI} {J : mm_TJ} {P : mm_TP} {x m n : Nat}
theorem cl_coder_b {r : Int32} (hV : lyV B P x) (hr : ¬ (nI 0 ≤ r ∧ r ≤ nI 1)) : Ct g mX11_coder [.ref x, .int r] B I J P (some (.int (-1)), B, vst I x (-1), J, P) := by
  refine ct_of (lv := [some (.ref x), some (.int (r))]) (by decide +kernel) (Nat.le_of_ble_eq_true rfl) rfl ?_
  refine ev_aload_n 1 dX11_coder_0 rfl rfl ?_
  refine ev_iconstN 2 0 dX11_coder_1 rfl ?_
  refine ev_putI 5 mm_cl11 (j := 9) (Nat.le_of_ble_eq_true rfl) dX11_coder_2 lk270 rfl (fun _ _ _ => rfl) rfl rfl (hV.1 0 _ rfl) rfl ?_
  refine ev_iload_n 6 dX11_coder_5 rfl rfl ?_
  refine ev_invS 9 (Mc := mX11_isBit) ⟨lk299, lk75, hdX11_isBit, (Nat.le_of_ble_eq_true rfl), (Nat.le_of_ble_eq_true rfl)⟩ lk297 lk298 dX11_coder_6 (ct_isBit_f hr) rfl (Nat.le_of_ble_eq_true rfl) rfl rfl ?_
  refine ev_if_neN 12 18 dX11_coder_9 (by decide) (by omega) rfl (fun hx => absurd ((by omega)) hx) (fun hbr => ?_)
  refine ev_aload_n 13 dX11_coder_12 rfl rfl ?_
  refine ev_iconst 14 (v := -1) dX11_coder_13 (by decide +kernel) rfl ?_
  refine ev_invV 17 (Mc := mX11_refuse) ⟨lk303, lk75, hdX11_refuse, (Nat.le_of_ble_eq_true rfl), (Nat.le_of_ble_eq_true rfl)⟩ lk300 lk302 lk0 mm_cl11 rfl dX11_coder_14 (ct_refuse hV) rfl (hV.1 0 _ rfl) (Nat.le_of_ble_eq_true rfl) rfl rfl ?_
  exact ev_iret dX11_coder_17 rfl (rfl)
theorem cl_coder_u {r : Nat} (hV : lyV B P x) (hr : r ≤ 1) (hx : I x 4 = nI 8) : Ct g mX11_coder [.ref x, .int (nI r)] B I J P (some (.int (-3)), B, vst I x (-3), J, P) := by
  refine ct_of (lv := [some (.ref x), some (.int (nI (r)))]) (by decide +kernel) (Nat.le_of_ble_eq_true rfl) rfl ?_
  refine ev_aload_n 1 dX11_coder_0 rfl rfl ?_
  refine ev_iconstN 2 0 dX11_coder_1 rfl ?_
  refine ev_putI 5 mm_cl11 (j := 9) (Nat.le_of_ble_eq_true rfl) dX11_coder_2 lk270 rfl (fun _ _ _ => rfl) rfl rfl (hV.1 0 _ rfl) rfl ?_
  refine ev_iload_n 6 dX11_coder_5 rfl rfl ?_
  refine ev_invS 9 (Mc := mX11_isBit) ⟨lk299, lk75, hdX11_isBit, (Nat.le_of_ble_eq_true rfl), (Nat.le_of_ble_eq_true rfl)⟩ lk297 lk298 dX11_coder_6 (ct_isBit_t hr) rfl (Nat.le_of_ble_eq_true rfl) rfl rfl ?_
  refine ev_if_neN 12 18 dX11_coder_9 (by decide) (by omega) rfl (fun hbr => ?_) (fun hx => absurd hx ((by omega)))
  refine ev_aload_n 19 dX11_coder_18 rfl rfl ?_
  refine ev_getI 22 mm_cl11 (j := 4) (Nat.le_of_ble_eq_true rfl) dX11_coder_19 lk265 (fun _ _ _ => rfl) (hV.1 0 _ rfl) rfl ?_
  refine ev_eqI (y := nI (8)) ((vzx hx (by omega))) ?_
  refine ev_bipushN 24 8 dX11_coder_22 (by decide +kernel) rfl ?_
  refine ev_icmp_ltN 27 34 dX11_coder_24 (by decide) (by omega) (by omega) rfl (fun hx => absurd hx ((by omega))) (fun hbr => ?_)
  refine ev_aload_n 28 dX11_coder_27 rfl rfl ?_
  refine ev_bipush 30 (v := -3) dX11_coder_28 (by decide +kernel) rfl ?_
  refine ev_invV 33 (Mc := mX11_refuse) ⟨lk303, lk75, hdX11_refuse, (Nat.le_of_ble_eq_true rfl), (Nat.le_of_ble_eq_true rfl)⟩ lk300 lk302 lk0 mm_cl11 rfl dX11_coder_30 (ct_refuse hV) rfl (hV.1 0 _ rfl) (Nat.le_of_ble_eq_true rfl) rfl rfl ?_
  exact ev_iret dX11_coder_33 rfl (rfl)
theorem cx_coder {r : Nat} (hV : lyV B P x) (hr : r ≤ 1) (hx : I x 4 = nI n) (hn : n < 8) (hxn : x + 22 ≤ mm_nx B) (hz0 : ∀ q, mm_nx B ≤ q → mm_T B q = 0) :
    ∃ (I1 : mm_TI) (J1 : mm_TJ) (P1 : mm_TP), Ct g mX11_coder [.ref x, .int (nI r)] B I J P (some (.int (nI n)), als B lX0, I1, J1, P1) ∧ NewC (mm_nx B) (x + 1) (x + 4) (x + 17) (nI r) I1 P1 ∧ I1 x = va_up (va_up (I x) 9 (nI 0)) 4 (nI (n + 1)) ∧ P1 (x + 19) = va_up (P (x + 19)) n (some (mm_nx B)) ∧ (∀ q, q < mm_nx B → q ≠ x → I1 q = I q) ∧ (∀ q, q < mm_nx B → J1 q = J q) ∧ (∀ q, q < mm_nx B → q ≠ x + 19 → P1 q = P q) := by
  obtain ⟨I', J', P', ini, nc, old⟩ := cx_X0_init (g := g) (B := B) (I := va_up (vz I x) (mm_nx B) (fun _ => 0)) (J := va_up J (mm_nx B) (fun _ => 0)) (P := va_up P (mm_nx B) (fun _ => none)) (tl := x + 1) (rw := x + 4) (sk := x + 17) (rt := nI r) (va_up_s _ _ _)
  have hV1 : lyV (als B (lX0.take 1)) (va_up P (mm_nx B) (fun _ => none)) x := lyV_ext hV (als_Ext _ B hz0).1 (fun q q1 q2 => va_up_n _ _ (by omega))
  have hV2 : lyV (als B lX0) P' x := lyV_ext hV1 ⟨fun q hq => by
      have l : q < mm_nx (als B (lX0.take 1)) := by
        rcases Nat.lt_or_ge q (mm_nx (als B (lX0.take 1))) with e | e
        · exact e
        · exact absurd ((als_Ext (lX0.take 1) B hz0).2 q e) hq
      have := als_lo (lX0.drop 1) (als B (lX0.take 1)) q l
      rw [als_app, show lX0.take 1 ++ lX0.drop 1 = lX0 from rfl] at this
      exact this, by rw [als_x, als_x]; show mm_nx B + 1 ≤ mm_nx B + 33; omega, by rw [als_sl, als_sl]; exact Nat.add_le_add_left (by decide) _⟩ (fun q q1 q2 => (old q (by omega)).2.2)
  generalize hz : mm_nx B = z at *
  have T1 : mm_T (als B (lX0.take 1)) z = 100 := als_t (i := 0) hz rfl rfl rfl
  have T2 : mm_T (als B lX0) z = 100 := als_t (i := 0) hz rfl rfl rfl
  have ix : I' x = va_up (I x) 9 (nI 0) := by rw [(old x (by omega)).1, va_up_n _ _ (by omega)]; exact va_up_s _ _ _
  have ix4 : I' x 4 = nI n := by rw [ix, va_up_n _ _ (by omega)]; exact hx
  have px : P' (x + 19) = P (x + 19) := by rw [(old _ (by omega)).2.2, va_up_n _ _ (by omega)]
  refine ⟨va_up I' x (va_up (I' x) 4 (nI (n + 1))), J', va_up P' (x + 19) (va_up (P' (x + 19)) n (some z)), ?_, ?_, ?_, ?_, fun q q1 q2 => ?_, fun q hq => ?_, fun q q1 q2 => ?_⟩
  · refine ct_of (lv := [some (.ref x), some (.int (nI r))]) (by decide +kernel) (Nat.le_of_ble_eq_true rfl) rfl ?_
    refine ev_aload_n 1 dX11_coder_0 rfl rfl ?_
    refine ev_iconstN 2 0 dX11_coder_1 rfl ?_
    refine ev_putI 5 mm_cl11 (j := 9) (Nat.le_of_ble_eq_true rfl) dX11_coder_2 lk270 rfl (fun _ _ _ => rfl) rfl rfl (hV.1 0 _ rfl) rfl ?_
    refine ev_iload_n 6 dX11_coder_5 rfl rfl ?_
    refine ev_invS 9 (Mc := mX11_isBit) ⟨lk299, lk75, hdX11_isBit, (Nat.le_of_ble_eq_true rfl), (Nat.le_of_ble_eq_true rfl)⟩ lk297 lk298 dX11_coder_6 (ct_isBit_t hr) rfl (Nat.le_of_ble_eq_true rfl) rfl rfl ?_
    refine ev_if_neN 12 18 dX11_coder_9 (by decide) (by omega) rfl (fun hbr => ?_) (fun hx => absurd hx ((by omega)))
    refine ev_aload_n 19 dX11_coder_18 rfl rfl ?_
    refine ev_getI 22 mm_cl11 (j := 4) (Nat.le_of_ble_eq_true rfl) dX11_coder_19 lk265 (fun _ _ _ => rfl) (hV.1 0 _ rfl) rfl ?_
    refine ev_eqI (y := nI (n)) ((vzx hx (by omega))) ?_
    refine ev_bipushN 24 8 dX11_coder_22 (by decide +kernel) rfl ?_
    refine ev_icmp_ltN 27 34 dX11_coder_24 (by decide) (by omega) (by omega) rfl (fun hbr => ?_) (fun hx => absurd ((by omega)) hx)
    refine ev_aload_n 35 dX11_coder_34 rfl rfl ?_
    refine ev_getP 38 mm_cl11 (j := 3) (Nat.le_of_ble_eq_true rfl) dX11_coder_35 lk264 (fun _ _ _ => rfl) (hV.1 0 _ rfl) (a := (x + 19)) (hV.2.2 3 _ _ _ rfl) rfl ?_
    refine ev_aload_n 39 dX11_coder_38 rfl rfl ?_
    refine ev_getI 42 mm_cl11 (j := 4) (Nat.le_of_ble_eq_true rfl) dX11_coder_39 lk265 (fun _ _ _ => rfl) (hV.1 0 _ rfl) rfl ?_
    refine ev_eqI (y := nI (n)) ((vzx hx (by omega))) ?_
    refine ev_new 45 mm_cl0 dX11_coder_42 lk259 lk304 lk81 rfl ?_
    rw [hz]
    show Ev g _ 45 _ _ (als B (lX0.take 1)) _ _ _ _
    have hV := hV1
    refine ev_dup 46 dX11_coder_45 rfl rfl ?_
    refine ev_iload_n 47 dX11_coder_46 rfl rfl ?_
    refine ev_aload_n 48 dX11_coder_47 rfl rfl ?_
    refine ev_getP 51 mm_cl11 (j := 0) (Nat.le_of_ble_eq_true rfl) dX11_coder_48 lk261 (fun _ _ _ => rfl) (hV.1 0 _ rfl) (a := (x + 1)) (hV.2.2 0 _ _ _ rfl) rfl ?_
    refine ev_aload_n 52 dX11_coder_51 rfl rfl ?_
    refine ev_getP 55 mm_cl11 (j := 1) (Nat.le_of_ble_eq_true rfl) dX11_coder_52 lk262 (fun _ _ _ => rfl) (hV.1 0 _ rfl) (a := (x + 4)) (hV.2.2 1 _ _ _ rfl) rfl ?_
    refine ev_aload_n 56 dX11_coder_55 rfl rfl ?_
    refine ev_getP 59 mm_cl11 (j := 2) (Nat.le_of_ble_eq_true rfl) dX11_coder_56 lk263 (fun _ _ _ => rfl) (hV.1 0 _ rfl) (a := (x + 17)) (hV.2.2 2 _ _ _ rfl) rfl ?_
    refine ev_invIv 62 (Mc := mX0_init) ⟨lk307, lk81, hdX0_init, (Nat.le_of_ble_eq_true rfl), (Nat.le_of_ble_eq_true rfl)⟩ lk305 lk306 rfl rfl dX11_coder_59 (ini) rfl (Nat.le_of_ble_eq_true rfl) rfl rfl ?_
    have hV := hV2
    refine ev_aast 63 _ 0 dX11_coder_62 (hV.1 19 _ rfl) rfl (by have hNN := hV.2.1 19 _ rfl; omega) (by decide) rfl T2 rfl ?_
    refine ev_aload_n 64 dX11_coder_63 rfl rfl ?_
    refine ev_dup 65 dX11_coder_64 rfl rfl ?_
    refine ev_getI 68 mm_cl11 (j := 4) (Nat.le_of_ble_eq_true rfl) dX11_coder_65 lk265 (fun _ _ _ => rfl) (hV.1 0 _ rfl) rfl ?_
    refine ev_eqI (y := nI (n)) (ix4) ?_
    refine ev_iconstN 69 1 dX11_coder_68 rfl ?_
    refine ev_iaddN 70 dX11_coder_69 rfl ?_
    refine ev_putI 73 mm_cl11 (j := 4) (Nat.le_of_ble_eq_true rfl) dX11_coder_70 lk265 rfl (fun _ _ _ => rfl) rfl rfl (hV.1 0 _ rfl) rfl ?_
    refine ev_aload_n 74 dX11_coder_73 rfl rfl ?_
    refine ev_getI 77 mm_cl11 (j := 4) (Nat.le_of_ble_eq_true rfl) dX11_coder_74 lk265 (fun _ _ _ => rfl) (hV.1 0 _ rfl) rfl ?_
    refine ev_eqI (y := nI ((n+1))) ((by rw [va_up_s, va_up_s])) ?_
    refine ev_iconstN 78 1 dX11_coder_77 rfl ?_
    refine ev_isubN 79 dX11_coder_78 (by omega) rfl ?_
    exact ev_iret dX11_coder_79 rfl (rfl)
  · unfold NewC at nc ⊢
    obtain ⟨c1, c2, c3, c4, c5, c6, c7, c8, c9, c10, c11, c12, c13, c14, c15, c16, c17, c18, c19, c20, c21, c22, c23⟩ := nc
    have vI : ∀ q, z ≤ q → va_up I' x (va_up (I' x) 4 (nI (n + 1))) q = I' q := fun q hq => va_up_n _ _ (by omega)
    have vP : ∀ q, z ≤ q → va_up P' (x + 19) (va_up (P' (x + 19)) n (some z)) q = P' q := fun q hq => va_up_n _ _ (by omega)
    exact ⟨by rw [vI _ (by omega)]; exact c1, by rw [vI _ (by omega)]; exact c2, by rw [vI _ (by omega)]; exact c3, by rw [vI _ (by omega)]; exact c4, by rw [vI _ (by omega)]; exact c5, fun i a b => by rw [vI _ (by omega)]; exact c6 i a b, by rw [vI _ (by omega)]; exact c7, fun i a => by rw [vI _ (by omega)]; exact c8 i a, by rw [vI _ (by omega)]; exact c9, fun i a b => by rw [vI _ (by omega)]; exact c10 i a b, fun i k j t e => by rw [vP _ (by omega)]; exact c11 i k j t e, by rw [vP _ (by omega)]; exact c12, by rw [vP _ (by omega)]; exact c13, by rw [vP _ (by omega)]; exact c14, by rw [vP _ (by omega)]; exact c15, by rw [vP _ (by omega)]; exact c16, by rw [vP _ (by omega)]; exact c17, by rw [vP _ (by omega)]; exact c18, by rw [vP _ (by omega)]; exact c19, by rw [vP _ (by omega)]; exact c20, fun i a => by rw [vP _ (by omega)]; exact c21 i a, fun i a => by rw [vP _ (by omega)]; exact c22 i a, fun i a => by rw [vP _ (by omega)]; exact c23 i a⟩
  · rw [va_up_s, ix]
  · rw [va_up_s, px]
  · rw [va_up_n _ _ q2, (old q q1).1, va_up_n _ _ (by omega)]; exact va_up_n _ _ q2
  · rw [(old q hq).2.1, va_up_n _ _ (by omega)]
  · rw [va_up_n _ _ q2, (old q q1).2.2, va_up_n _ _ (by omega)]
theorem ml_coder_b {r : Int32} (hM : lyM B P m) (hr : ¬ (nI 0 ≤ r ∧ r ≤ nI 1)) : Ct g mX12_coder [.ref m, .int r] B I J P (some (.int (-1)), B, mo_st I m (-1), J, P) := by
  refine ct_of (lv := [some (.ref m), some (.int (r)), none, none, none]) (by decide +kernel) (Nat.le_of_ble_eq_true rfl) rfl ?_
  refine ev_iload_n 1 dX12_coder_0 rfl rfl ?_
  refine ev_iconstN 2 0 dX12_coder_1 rfl ?_
  refine ev_iconstN 3 1 dX12_coder_2 rfl ?_
  refine ev_invS 6 (Mc := mX12_in) ⟨lk1536, lk80, hdX12_in, (Nat.le_of_ble_eq_true rfl), (Nat.le_of_ble_eq_true rfl)⟩ lk1534 lk1535 dX12_coder_3 (ct_X12_in_f hr) rfl (Nat.le_of_ble_eq_true rfl) rfl rfl ?_
  refine ev_if_neN 9 15 dX12_coder_6 (by decide) (by omega) rfl (fun hx => absurd ((by omega)) hx) (fun hbr => ?_)
  refine ev_aload_n 10 dX12_coder_9 rfl rfl ?_
  refine ev_iconst 11 (v := -1) dX12_coder_10 (by decide +kernel) rfl ?_
  refine ev_invV 14 (Mc := mX12_refused) ⟨lk1540, lk80, hdX12_refused, (Nat.le_of_ble_eq_true rfl), (Nat.le_of_ble_eq_true rfl)⟩ lk1537 lk1539 lk38 mm_cl12 rfl dX12_coder_11 (ct_X12_refused hM) rfl (hM.1 0 _ rfl) (Nat.le_of_ble_eq_true rfl) rfl rfl ?_
  exact ev_iret dX12_coder_14 rfl (rfl)
theorem ml_coder_u {r : Nat} (hM : lyM B P m) (hr : r ≤ 1) (hx : I m 0 = nI 8) : Ct g mX12_coder [.ref m, .int (nI r)] B I J P (some (.int (-3)), B, mo_st I m (-3), J, P) := by
  refine ct_of (lv := [some (.ref m), some (.int (nI (r))), none, none, none]) (by decide +kernel) (Nat.le_of_ble_eq_true rfl) rfl ?_
  refine ev_iload_n 1 dX12_coder_0 rfl rfl ?_
  refine ev_iconstN 2 0 dX12_coder_1 rfl ?_
  refine ev_iconstN 3 1 dX12_coder_2 rfl ?_
  refine ev_invS 6 (Mc := mX12_in) ⟨lk1536, lk80, hdX12_in, (Nat.le_of_ble_eq_true rfl), (Nat.le_of_ble_eq_true rfl)⟩ lk1534 lk1535 dX12_coder_3 (ct_X12_in_t (in_t (by omega) hr (by omega))) rfl (Nat.le_of_ble_eq_true rfl) rfl rfl ?_
  refine ev_if_neN 9 15 dX12_coder_6 (by decide) (by omega) rfl (fun hbr => ?_) (fun hx => absurd hx ((by omega)))
  refine ev_aload_n 16 dX12_coder_15 rfl rfl ?_
  refine ev_getI 19 mm_cl12 (j := 0) (Nat.le_of_ble_eq_true rfl) dX12_coder_16 lk1285 (fun _ _ _ => rfl) (hM.1 0 _ rfl) rfl ?_
  refine ev_eqI (y := nI (8)) (hx) ?_
  refine ev_bipushN 21 8 dX12_coder_19 (by decide +kernel) rfl ?_
  refine ev_icmp_neN 24 31 dX12_coder_21 (by decide) (by omega) (by omega) rfl (fun hx => absurd ((by omega)) hx) (fun hbr => ?_)
  refine ev_aload_n 25 dX12_coder_24 rfl rfl ?_
  refine ev_bipush 27 (v := -3) dX12_coder_25 (by decide +kernel) rfl ?_
  refine ev_invV 30 (Mc := mX12_refused) ⟨lk1540, lk80, hdX12_refused, (Nat.le_of_ble_eq_true rfl), (Nat.le_of_ble_eq_true rfl)⟩ lk1537 lk1539 lk38 mm_cl12 rfl dX12_coder_27 (ct_X12_refused hM) rfl (hM.1 0 _ rfl) (Nat.le_of_ble_eq_true rfl) rfl rfl ?_
  exact ev_iret dX12_coder_30 rfl (rfl)
theorem lx_mc138 {r s : Nat} {I0 : mm_TI} {Z : mm_Z} (hM : lyM B P m) (hs : s < 16) (K : Ev g mX12_coder 166 [some (.ref m), some (.int (nI r)), some (.int (nI n)), some (.int (nI s)), none] [] B (va_up I0 (m + 15) (sgp (I0 (m + 15)) (160 * s) 160 (fun _ => nI 0))) J P Z) : ∀ (d i : Nat), i + d = 160 → Ev g mX12_coder 138 [some (.ref m), some (.int (nI r)), some (.int (nI n)), some (.int (nI s)), some (.int (nI i))] [] B (va_up I0 (m + 15) (sgp (I0 (m + 15)) (160 * s) i (fun _ => nI 0))) J P Z := by
  intro d
  induction d with
  | zero =>
    intro i hi
    obtain rfl : i = 160 := by omega
    refine ev_iload 140 dX12_coder_138 rfl rfl ?_
    refine ev_sipushN 143 160 dX12_coder_140 (by decide +kernel) rfl ?_
    refine ev_icmp_geN 146 166 dX12_coder_143 (by decide) (by omega) (by omega) rfl (fun hbr => ?_) (fun hx => absurd ((by omega)) hx)
    refine ev_le (mle_s (mle_s (mle_s (mle_s (mle_n (mle_0)))))) ?_
    exact K
  | succ d ih =>
    intro i hi
    have e := ih (i + 1) (by omega)
    refine ev_iload 140 dX12_coder_138 rfl rfl ?_
    refine ev_sipushN 143 160 dX12_coder_140 (by decide +kernel) rfl ?_
    refine ev_icmp_geN 146 166 dX12_coder_143 (by decide) (by omega) (by omega) rfl (fun hx => absurd hx ((by omega))) (fun hbr => ?_)
    refine ev_aload_n 147 dX12_coder_146 rfl rfl ?_
    refine ev_getP 150 mm_cl12 (j := 20) (Nat.le_of_ble_eq_true rfl) dX12_coder_147 lk1305 (fun _ _ _ => rfl) (hM.1 0 _ rfl) (a := (m + 15)) (hM.2.2 14 _ _ _ rfl) rfl ?_
    refine ev_sipushN 153 160 dX12_coder_150 (by decide +kernel) rfl ?_
    refine ev_iload_n 154 dX12_coder_153 rfl rfl ?_
    refine ev_imulN 155 dX12_coder_154 rfl ?_
    refine ev_iload 157 dX12_coder_155 rfl rfl ?_
    refine ev_iaddN 158 dX12_coder_157 rfl ?_
    refine ev_iconstN 159 0 dX12_coder_158 rfl ?_
    refine ev_iast 160 _ dX12_coder_159 (hM.1 15 _ rfl) rfl (by have hNN := hM.2.1 15 _ rfl; omega) rfl ?_
    rw [va_up_s, bx_uu, sgp_grow rfl]
    refine ev_iincN 163 (lv' := [_, _, _, some (.int _), _]) 1 dX12_coder_160 rfl (Nat.le_of_ble_eq_true rfl) rfl rfl ?_
    refine ev_goto 138 dX12_coder_163 (by decide) ?_
    exact e
theorem lx_mc169 {r s : Nat} {I0 : mm_TI} {Z : mm_Z} (hM : lyM B P m) (hs : s < 16) (K : Ev g mX12_coder 208 [some (.ref m), some (.int (nI r)), some (.int (nI n)), some (.int (nI s)), none] [] B (va_up (va_up I0 (m + 16) (sgp (I0 (m + 16)) (8 * s) 8 (fun _ => nI 0))) (m + 17) (sgp (I0 (m + 17)) (8 * s) 8 (fun _ => nI 0))) J P Z) : ∀ (d i : Nat), i + d = 8 → Ev g mX12_coder 169 [some (.ref m), some (.int (nI r)), some (.int (nI n)), some (.int (nI s)), some (.int (nI i))] [] B (va_up (va_up I0 (m + 16) (sgp (I0 (m + 16)) (8 * s) i (fun _ => nI 0))) (m + 17) (sgp (I0 (m + 17)) (8 * s) i (fun _ => nI 0))) J P Z := by
  intro d
  induction d with
  | zero =>
    intro i hi
    obtain rfl : i = 8 := by omega
    refine ev_iload 171 dX12_coder_169 rfl rfl ?_
    refine ev_bipushN 173 8 dX12_coder_171 (by decide +kernel) rfl ?_
    refine ev_icmp_geN 176 208 dX12_coder_173 (by decide) (by omega) (by omega) rfl (fun hbr => ?_) (fun hx => absurd ((by omega)) hx)
    refine ev_le (mle_s (mle_s (mle_s (mle_s (mle_n (mle_0)))))) ?_
    exact K
  | succ d ih =>
    intro i hi
    have e := ih (i + 1) (by omega)
    refine ev_iload 171 dX12_coder_169 rfl rfl ?_
    refine ev_bipushN 173 8 dX12_coder_171 (by decide +kernel) rfl ?_
    refine ev_icmp_geN 176 208 dX12_coder_173 (by decide) (by omega) (by omega) rfl (fun hx => absurd hx ((by omega))) (fun hbr => ?_)
    refine ev_aload_n 177 dX12_coder_176 rfl rfl ?_
    refine ev_getP 180 mm_cl12 (j := 21) (Nat.le_of_ble_eq_true rfl) dX12_coder_177 lk1306 (fun _ _ _ => rfl) (hM.1 0 _ rfl) (a := (m + 16)) (hM.2.2 15 _ _ _ rfl) rfl ?_
    refine ev_bipushN 182 8 dX12_coder_180 (by decide +kernel) rfl ?_
    refine ev_iload_n 183 dX12_coder_182 rfl rfl ?_
    refine ev_imulN 184 dX12_coder_183 rfl ?_
    refine ev_iload 186 dX12_coder_184 rfl rfl ?_
    refine ev_iaddN 187 dX12_coder_186 rfl ?_
    refine ev_iconstN 188 0 dX12_coder_187 rfl ?_
    refine ev_iast 189 _ dX12_coder_188 (hM.1 16 _ rfl) rfl (by have hNN := hM.2.1 16 _ rfl; omega) rfl ?_
    rw [va_up_n _ _ (show m + 16 ≠ m + 17 by omega), va_up_s, va_3 _ _ _ _ (by omega), sgp_grow rfl]
    refine ev_aload_n 190 dX12_coder_189 rfl rfl ?_
    refine ev_getP 193 mm_cl12 (j := 22) (Nat.le_of_ble_eq_true rfl) dX12_coder_190 lk1307 (fun _ _ _ => rfl) (hM.1 0 _ rfl) (a := (m + 17)) (hM.2.2 16 _ _ _ rfl) rfl ?_
    refine ev_bipushN 195 8 dX12_coder_193 (by decide +kernel) rfl ?_
    refine ev_iload_n 196 dX12_coder_195 rfl rfl ?_
    refine ev_imulN 197 dX12_coder_196 rfl ?_
    refine ev_iload 199 dX12_coder_197 rfl rfl ?_
    refine ev_iaddN 200 dX12_coder_199 rfl ?_
    refine ev_iconstN 201 0 dX12_coder_200 rfl ?_
    refine ev_iast 202 _ dX12_coder_201 (hM.1 17 _ rfl) rfl (by have hNN := hM.2.1 17 _ rfl; omega) rfl ?_
    rw [va_up_s, bx_uu, sgp_grow rfl]
    refine ev_iincN 205 (lv' := [_, _, _, some (.int _), _]) 1 dX12_coder_202 rfl (Nat.le_of_ble_eq_true rfl) rfl rfl ?_
    refine ev_goto 169 dX12_coder_205 (by decide) ?_
    exact e
theorem lx_mc126 {r s : Nat} {Z : mm_Z} (hM : lyM B P m) (hn : n < 8) (hs : s < 2 * n + 2) (K : Ev g mX12_coder 126 [some (.ref m), some (.int (nI r)), some (.int (nI n)), some (.int (nI (s + 1))), none] [] B (va_up (va_up (va_up (va_up I (m + 15) (sgp (I (m + 15)) (160 * s) 160 (fun _ => nI 0))) (m + 16) (sgp (I (m + 16)) (8 * s) 8 (fun _ => nI 0))) (m + 17) (sgp (I (m + 17)) (8 * s) 8 (fun _ => nI 0))) (m + 18) (va_up (I (m + 18)) s (nI 40))) J P Z) : Ev g mX12_coder 126 [some (.ref m), some (.int (nI r)), some (.int (nI n)), some (.int (nI s)), none] [] B I J P Z := by
  have e2 := lx_mc169 (g := g) (J := J) (n := n) (r := r) (I0 := va_up I (m + 15) (sgp (I (m + 15)) (160 * s) 160 (fun _ => nI 0))) (Z := Z) hM (show s < 16 by omega) (by
    rw [va_up_n _ _ (show m + 16 ≠ m + 15 by omega), va_up_n _ _ (show m + 17 ≠ m + 15 by omega)]
    refine ev_aload_n 209 dX12_coder_208 rfl rfl ?_
    refine ev_getP 212 mm_cl12 (j := 23) (Nat.le_of_ble_eq_true rfl) dX12_coder_209 lk1308 (fun _ _ _ => rfl) (hM.1 0 _ rfl) (a := (m + 18)) (hM.2.2 17 _ _ _ rfl) rfl ?_
    refine ev_iload_n 213 dX12_coder_212 rfl rfl ?_
    refine ev_bipushN 215 40 dX12_coder_213 (by decide +kernel) rfl ?_
    refine ev_iast 216 _ dX12_coder_215 (hM.1 18 _ rfl) rfl (by have hNN := hM.2.1 18 _ rfl; omega) rfl ?_
    rw [va_up_n _ _ (show m + 18 ≠ m + 17 by omega), va_up_n _ _ (show m + 18 ≠ m + 16 by omega), va_up_n _ _ (show m + 18 ≠ m + 15 by omega)]
    refine ev_iincN 219 (lv' := [_, _, some (.int _), _, _]) 1 dX12_coder_216 rfl (Nat.le_of_ble_eq_true rfl) rfl rfl ?_
    refine ev_goto 126 dX12_coder_219 (by decide) ?_
    exact K) 8 0 (by omega)
  rw [sgp_0, va_up_id, sgp_0, va_up_id] at e2
  have e1 := lx_mc138 (g := g) (J := J) (n := n) (r := r) (I0 := I) (Z := Z) hM (show s < 16 by omega) (by
    refine ev_iconstN 167 0 dX12_coder_166 rfl ?_
    refine ev_istore 169 (lv' := [_, _, _, some (.int _), _]) dX12_coder_167 (Nat.le_of_ble_eq_true rfl) rfl rfl ?_
    exact e2) 160 0 (by omega)
  rw [sgp_0, va_up_id] at e1
  refine ev_iload_n 127 dX12_coder_126 rfl rfl ?_
  refine ev_iconstN 128 2 dX12_coder_127 rfl ?_
  refine ev_iload_n 129 dX12_coder_128 rfl rfl ?_
  refine ev_imulN 130 dX12_coder_129 rfl ?_
  refine ev_iconstN 131 2 dX12_coder_130 rfl ?_
  refine ev_iaddN 132 dX12_coder_131 rfl ?_
  refine ev_icmp_geN 135 222 dX12_coder_132 (by decide) (by omega) (by omega) rfl (fun hx => absurd hx ((by omega))) (fun hbr => ?_)
  refine ev_iconstN 136 0 dX12_coder_135 rfl ?_
  refine ev_istore 138 (lv' := [_, _, _, some (.int _), _]) dX12_coder_136 (Nat.le_of_ble_eq_true rfl) rfl rfl ?_
  exact e1
theorem lx_mc224 {r : Nat} {I0 : mm_TI} {Z : mm_Z} (hM : lyM B P m) (hn : n < 8) (K : Ev g mX12_coder 260 [some (.ref m), some (.int (nI r)), some (.int (nI n)), none, none] [] B (va_up (va_up I0 (m + 19) (sgp (I0 (m + 19)) (8 * n) 8 (fun _ => nI 0))) (m + 21) (sgp (I0 (m + 21)) (8 * n) 8 (fun _ => nI 0))) J P Z) : ∀ (d i : Nat), i + d = 8 → Ev g mX12_coder 224 [some (.ref m), some (.int (nI r)), some (.int (nI n)), some (.int (nI i)), none] [] B (va_up (va_up I0 (m + 19) (sgp (I0 (m + 19)) (8 * n) i (fun _ => nI 0))) (m + 21) (sgp (I0 (m + 21)) (8 * n) i (fun _ => nI 0))) J P Z := by
  intro d
  induction d with
  | zero =>
    intro i hi
    obtain rfl : i = 8 := by omega
    refine ev_iload_n 225 dX12_coder_224 rfl rfl ?_
    refine ev_bipushN 227 8 dX12_coder_225 (by decide +kernel) rfl ?_
    refine ev_icmp_geN 230 260 dX12_coder_227 (by decide) (by omega) (by omega) rfl (fun hbr => ?_) (fun hx => absurd ((by omega)) hx)
    refine ev_le (mle_s (mle_s (mle_s (mle_n (mle_n (mle_0)))))) ?_
    exact K
  | succ d ih =>
    intro i hi
    have e := ih (i + 1) (by omega)
    refine ev_iload_n 225 dX12_coder_224 rfl rfl ?_
    refine ev_bipushN 227 8 dX12_coder_225 (by decide +kernel) rfl ?_
    refine ev_icmp_geN 230 260 dX12_coder_227 (by decide) (by omega) (by omega) rfl (fun hx => absurd hx ((by omega))) (fun hbr => ?_)
    refine ev_aload_n 231 dX12_coder_230 rfl rfl ?_
    refine ev_getP 234 mm_cl12 (j := 24) (Nat.le_of_ble_eq_true rfl) dX12_coder_231 lk1309 (fun _ _ _ => rfl) (hM.1 0 _ rfl) (a := (m + 19)) (hM.2.2 18 _ _ _ rfl) rfl ?_
    refine ev_bipushN 236 8 dX12_coder_234 (by decide +kernel) rfl ?_
    refine ev_iload_n 237 dX12_coder_236 rfl rfl ?_
    refine ev_imulN 238 dX12_coder_237 rfl ?_
    refine ev_iload_n 239 dX12_coder_238 rfl rfl ?_
    refine ev_iaddN 240 dX12_coder_239 rfl ?_
    refine ev_iconstN 241 0 dX12_coder_240 rfl ?_
    refine ev_iast 242 _ dX12_coder_241 (hM.1 19 _ rfl) rfl (by have hNN := hM.2.1 19 _ rfl; omega) rfl ?_
    rw [va_up_n _ _ (show m + 19 ≠ m + 21 by omega), va_up_s, va_3 _ _ _ _ (by omega), sgp_grow rfl]
    refine ev_aload_n 243 dX12_coder_242 rfl rfl ?_
    refine ev_getP 246 mm_cl12 (j := 26) (Nat.le_of_ble_eq_true rfl) dX12_coder_243 lk1311 (fun _ _ _ => rfl) (hM.1 0 _ rfl) (a := (m + 21)) (hM.2.2 20 _ _ _ rfl) rfl ?_
    refine ev_bipushN 248 8 dX12_coder_246 (by decide +kernel) rfl ?_
    refine ev_iload_n 249 dX12_coder_248 rfl rfl ?_
    refine ev_imulN 250 dX12_coder_249 rfl ?_
    refine ev_iload_n 251 dX12_coder_250 rfl rfl ?_
    refine ev_iaddN 252 dX12_coder_251 rfl ?_
    refine ev_iconstN 253 0 dX12_coder_252 rfl ?_
    refine ev_iast 254 _ dX12_coder_253 (hM.1 21 _ rfl) rfl (by have hNN := hM.2.1 21 _ rfl; omega) rfl ?_
    rw [va_up_s, bx_uu, sgp_grow rfl]
    refine ev_iincN 257 (lv' := [_, _, some (.int _), _, _]) 1 dX12_coder_254 rfl (Nat.le_of_ble_eq_true rfl) rfl rfl ?_
    refine ev_goto 224 dX12_coder_257 (by decide) ?_
    exact e
theorem lx_mc370 {r : Nat} {I0 : mm_TI} (hM : lyM B P m) (hn : n < 8) : ∀ (d i : Nat), i + d = 4 → Ev g mX12_coder 370 [some (.ref m), some (.int (nI r)), some (.int (nI n)), some (.int (nI i)), none] [] B (va_up I0 (m + 48) (sgp (I0 (m + 48)) (4 * n) i (fun _ => nI 0))) J P (some (.int (nI n)), B, mo_st (va_up I0 (m + 48) (sgp (I0 (m + 48)) (4 * n) 4 (fun _ => nI 0))) m (nI 0), J, P) := by
  intro d
  induction d with
  | zero =>
    intro i hi
    obtain rfl : i = 4 := by omega
    refine ev_iload_n 371 dX12_coder_370 rfl rfl ?_
    refine ev_iconstN 372 4 dX12_coder_371 rfl ?_
    refine ev_icmp_geN 375 392 dX12_coder_372 (by decide) (by omega) (by omega) rfl (fun hbr => ?_) (fun hx => absurd ((by omega)) hx)
    refine ev_aload_n 393 dX12_coder_392 rfl rfl ?_
    refine ev_iload_n 394 dX12_coder_393 rfl rfl ?_
    refine ev_invV 397 (Mc := mX12_done) ⟨lk1544, lk80, hdX12_done, (Nat.le_of_ble_eq_true rfl), (Nat.le_of_ble_eq_true rfl)⟩ lk1541 lk1543 lk39 mm_cl12 rfl dX12_coder_394 (ct_X12_done hM) rfl (hM.1 0 _ rfl) (Nat.le_of_ble_eq_true rfl) rfl rfl ?_
    exact ev_iret dX12_coder_397 rfl (rfl)
  | succ d ih =>
    intro i hi
    have e := ih (i + 1) (by omega)
    refine ev_iload_n 371 dX12_coder_370 rfl rfl ?_
    refine ev_iconstN 372 4 dX12_coder_371 rfl ?_
    refine ev_icmp_geN 375 392 dX12_coder_372 (by decide) (by omega) (by omega) rfl (fun hx => absurd hx ((by omega))) (fun hbr => ?_)
    refine ev_aload_n 376 dX12_coder_375 rfl rfl ?_
    refine ev_getP 379 mm_cl12 (j := 54) (Nat.le_of_ble_eq_true rfl) dX12_coder_376 lk1339 (fun _ _ _ => rfl) (hM.1 0 _ rfl) (a := (m + 48)) (hM.2.2 47 _ _ _ rfl) rfl ?_
    refine ev_iconstN 380 4 dX12_coder_379 rfl ?_
    refine ev_iload_n 381 dX12_coder_380 rfl rfl ?_
    refine ev_imulN 382 dX12_coder_381 rfl ?_
    refine ev_iload_n 383 dX12_coder_382 rfl rfl ?_
    refine ev_iaddN 384 dX12_coder_383 rfl ?_
    refine ev_iconstN 385 0 dX12_coder_384 rfl ?_
    refine ev_iast 386 _ dX12_coder_385 (hM.1 48 _ rfl) rfl (by have hNN := hM.2.1 48 _ rfl; omega) rfl ?_
    rw [va_up_s, bx_uu, sgp_grow rfl]
    refine ev_iincN 389 (lv' := [_, _, some (.int _), _, _]) 1 dX12_coder_386 rfl (Nat.le_of_ble_eq_true rfl) rfl rfl ?_
    refine ev_goto 370 dX12_coder_389 (by decide) ?_
    exact e
/-- the model's coder n as it is made -/
def NewM (m n : Nat) (rt : Int32) (I I' : mm_TI) : Prop :=
  (∀ k, k = 5 ∨ k = 34 → I' (m + k) = va_up (I (m + k)) n rt) ∧ (∀ k, k = 6 ∨ (8 ≤ k ∧ k ≤ 11) ∨ k = 13 ∨ k = 14 ∨ k = 20 ∨ k = 28 ∨ (35 ≤ k ∧ k ≤ 42) ∨ k = 44 ∨ k = 47 → I' (m + k) = va_up (I (m + k)) n (nI 0)) ∧ I' (m + 43) = va_up (I (m + 43)) n (-4) ∧ I' (m + 46) = va_up (I (m + 46)) n (nI 2000) ∧ I' (m + 7) = va_up (va_up (I (m + 7)) (2 * n) (nI 0)) (2 * n + 1) (nI 0) ∧
  I' (m + 15) = sgp (sgp (I (m + 15)) (160 * (2 * n)) 160 (fun _ => nI 0)) (160 * (2 * n + 1)) 160 (fun _ => nI 0) ∧ (∀ k, k = 16 ∨ k = 17 → I' (m + k) = sgp (sgp (I (m + k)) (8 * (2 * n)) 8 (fun _ => nI 0)) (8 * (2 * n + 1)) 8 (fun _ => nI 0)) ∧ I' (m + 18) = va_up (va_up (I (m + 18)) (2 * n) (nI 40)) (2 * n + 1) (nI 40) ∧ (∀ k, k = 19 ∨ k = 21 → I' (m + k) = sgp (I (m + k)) (8 * n) 8 (fun _ => nI 0)) ∧ I' (m + 48) = sgp (I (m + 48)) (4 * n) 4 (fun _ => nI 0) ∧ I' m = va_up (va_up (I m) 0 (nI (n + 1))) 1 (nI 0) ∧
  (∀ q, q < m ∨ (m + 1 ≤ q ∧ q ≤ m + 4) ∨ q = m + 12 ∨ (m + 22 ≤ q ∧ q ≤ m + 27) ∨ (m + 29 ≤ q ∧ q ≤ m + 33) ∨ q = m + 45 ∨ m + 48 < q → I' q = I q)
theorem cx_mcoder {r : Nat} (hM : lyM B P m) (hr : r ≤ 1) (hx : I m 0 = nI n) (hn : n < 8) : ∃ I' : mm_TI, NewM m n (nI r) I I' ∧ Ct g mX12_coder [.ref m, .int (nI r)] B I J P (some (.int (nI n)), B, I', J, P) := by
  have hz : narrow .boolean (.int (nI 0)) = .int (nI 0) := bo_1 (by omega)
  obtain ⟨Ia, ba, a1, a2, a3, a4⟩ : ∃ Ia : mm_TI, (∀ Z : mm_Z, Ev g mX12_coder 126 [some (.ref m), some (.int (nI r)), some (.int (nI n)), some (.int (nI (2 * n))), none] [] B Ia J P Z → Ct g mX12_coder [.ref m, .int (nI r)] B I J P Z) ∧ Ia (m + 5) = va_up (I (m + 5)) n (nI r) ∧ (∀ k, k = 6 ∨ (8 ≤ k ∧ k ≤ 11) ∨ k = 13 ∨ k = 14 → Ia (m + k) = va_up (I (m + k)) n (nI 0)) ∧ (Ia (m + 7) = va_up (va_up (I (m + 7)) (2 * n) (nI 0)) (2 * n + 1) (nI 0) ∧ Ia m = va_up (I m) 0 (nI (n + 1))) ∧ (∀ q, q < m ∨ (m + 1 ≤ q ∧ q ≤ m + 4) ∨ q = m + 12 ∨ m + 14 < q → Ia q = I q) := ⟨_, by
    intro Z K
    refine ct_of (lv := [some (.ref m), some (.int (nI r)), none, none, none]) (by decide +kernel) (Nat.le_of_ble_eq_true rfl) rfl ?_
    refine ev_iload_n 1 dX12_coder_0 rfl rfl ?_
    refine ev_iconstN 2 0 dX12_coder_1 rfl ?_
    refine ev_iconstN 3 1 dX12_coder_2 rfl ?_
    refine ev_invS 6 (Mc := mX12_in) ⟨lk1536, lk80, hdX12_in, (Nat.le_of_ble_eq_true rfl), (Nat.le_of_ble_eq_true rfl)⟩ lk1534 lk1535 dX12_coder_3 (ct_X12_in_t (in_t (by omega) hr (by omega))) rfl (Nat.le_of_ble_eq_true rfl) rfl rfl ?_
    refine ev_if_neN 9 15 dX12_coder_6 (by decide) (by omega) rfl (fun hbr => ?_) (fun hx => absurd hx ((by omega)))
    refine ev_aload_n 16 dX12_coder_15 rfl rfl ?_
    refine ev_getI 19 mm_cl12 (j := 0) (Nat.le_of_ble_eq_true rfl) dX12_coder_16 lk1285 (fun _ _ _ => rfl) (hM.1 0 _ rfl) rfl ?_
    refine ev_eqI (y := nI (n)) (hx) ?_
    refine ev_bipushN 21 8 dX12_coder_19 (by decide +kernel) rfl ?_
    refine ev_icmp_neN 24 31 dX12_coder_21 (by decide) (by omega) (by omega) rfl (fun hbr => ?_) (fun hx => absurd hx ((by omega)))
    refine ev_aload_n 32 dX12_coder_31 rfl rfl ?_
    refine ev_getI 35 mm_cl12 (j := 0) (Nat.le_of_ble_eq_true rfl) dX12_coder_32 lk1285 (fun _ _ _ => rfl) (hM.1 0 _ rfl) rfl ?_
    refine ev_eqI (y := nI (n)) (hx) ?_
    refine ev_istore_n 36 (lv' := [_, some (.int _), _, _, _]) dX12_coder_35 (Nat.le_of_ble_eq_true rfl) rfl rfl ?_
    refine ev_aload_n 37 dX12_coder_36 rfl rfl ?_
    refine ev_dup 38 dX12_coder_37 rfl rfl ?_
    refine ev_getI 41 mm_cl12 (j := 0) (Nat.le_of_ble_eq_true rfl) dX12_coder_38 lk1285 (fun _ _ _ => rfl) (hM.1 0 _ rfl) rfl ?_
    refine ev_eqI (y := nI (n)) (hx) ?_
    refine ev_iconstN 42 1 dX12_coder_41 rfl ?_
    refine ev_iaddN 43 dX12_coder_42 rfl ?_
    refine ev_putI 46 mm_cl12 (j := 0) (Nat.le_of_ble_eq_true rfl) dX12_coder_43 lk1285 rfl (fun _ _ _ => rfl) rfl rfl (hM.1 0 _ rfl) rfl ?_
    refine ev_aload_n 47 dX12_coder_46 rfl rfl ?_
    refine ev_getP 50 mm_cl12 (j := 10) (Nat.le_of_ble_eq_true rfl) dX12_coder_47 lk1295 (fun _ _ _ => rfl) (hM.1 0 _ rfl) (a := (m + 5)) (hM.2.2 4 _ _ _ rfl) rfl ?_
    refine ev_iload_n 51 dX12_coder_50 rfl rfl ?_
    refine ev_iload_n 52 dX12_coder_51 rfl rfl ?_
    refine ev_iast 53 _ dX12_coder_52 (hM.1 5 _ rfl) rfl (by have hNN := hM.2.1 5 _ rfl; omega) rfl ?_
    refine ev_aload_n 54 dX12_coder_53 rfl rfl ?_
    refine ev_getP 57 mm_cl12 (j := 11) (Nat.le_of_ble_eq_true rfl) dX12_coder_54 lk1296 (fun _ _ _ => rfl) (hM.1 0 _ rfl) (a := (m + 6)) (hM.2.2 5 _ _ _ rfl) rfl ?_
    refine ev_iload_n 58 dX12_coder_57 rfl rfl ?_
    refine ev_iconstN 59 0 dX12_coder_58 rfl ?_
    refine ev_zast 60 _ dX12_coder_59 (hM.1 6 _ rfl) rfl (by have hNN := hM.2.1 6 _ rfl; omega) (by assumption) rfl ?_
    refine ev_aload_n 61 dX12_coder_60 rfl rfl ?_
    refine ev_getP 64 mm_cl12 (j := 12) (Nat.le_of_ble_eq_true rfl) dX12_coder_61 lk1297 (fun _ _ _ => rfl) (hM.1 0 _ rfl) (a := (m + 7)) (hM.2.2 6 _ _ _ rfl) rfl ?_
    refine ev_iconstN 65 2 dX12_coder_64 rfl ?_
    refine ev_iload_n 66 dX12_coder_65 rfl rfl ?_
    refine ev_imulN 67 dX12_coder_66 rfl ?_
    refine ev_iconstN 68 0 dX12_coder_67 rfl ?_
    refine ev_iast 69 _ dX12_coder_68 (hM.1 7 _ rfl) rfl (by have hNN := hM.2.1 7 _ rfl; omega) rfl ?_
    refine ev_aload_n 70 dX12_coder_69 rfl rfl ?_
    refine ev_getP 73 mm_cl12 (j := 12) (Nat.le_of_ble_eq_true rfl) dX12_coder_70 lk1297 (fun _ _ _ => rfl) (hM.1 0 _ rfl) (a := (m + 7)) (hM.2.2 6 _ _ _ rfl) rfl ?_
    refine ev_iconstN 74 2 dX12_coder_73 rfl ?_
    refine ev_iload_n 75 dX12_coder_74 rfl rfl ?_
    refine ev_imulN 76 dX12_coder_75 rfl ?_
    refine ev_iconstN 77 1 dX12_coder_76 rfl ?_
    refine ev_iaddN 78 dX12_coder_77 rfl ?_
    refine ev_iconstN 79 0 dX12_coder_78 rfl ?_
    refine ev_iast 80 _ dX12_coder_79 (hM.1 7 _ rfl) rfl (by have hNN := hM.2.1 7 _ rfl; omega) rfl ?_
    refine ev_aload_n 81 dX12_coder_80 rfl rfl ?_
    refine ev_getP 84 mm_cl12 (j := 13) (Nat.le_of_ble_eq_true rfl) dX12_coder_81 lk1298 (fun _ _ _ => rfl) (hM.1 0 _ rfl) (a := (m + 8)) (hM.2.2 7 _ _ _ rfl) rfl ?_
    refine ev_iload_n 85 dX12_coder_84 rfl rfl ?_
    refine ev_iconstN 86 0 dX12_coder_85 rfl ?_
    refine ev_iast 87 _ dX12_coder_86 (hM.1 8 _ rfl) rfl (by have hNN := hM.2.1 8 _ rfl; omega) rfl ?_
    refine ev_aload_n 88 dX12_coder_87 rfl rfl ?_
    refine ev_getP 91 mm_cl12 (j := 14) (Nat.le_of_ble_eq_true rfl) dX12_coder_88 lk1299 (fun _ _ _ => rfl) (hM.1 0 _ rfl) (a := (m + 9)) (hM.2.2 8 _ _ _ rfl) rfl ?_
    refine ev_iload_n 92 dX12_coder_91 rfl rfl ?_
    refine ev_iconstN 93 0 dX12_coder_92 rfl ?_
    refine ev_zast 94 _ dX12_coder_93 (hM.1 9 _ rfl) rfl (by have hNN := hM.2.1 9 _ rfl; omega) (by assumption) rfl ?_
    refine ev_aload_n 95 dX12_coder_94 rfl rfl ?_
    refine ev_getP 98 mm_cl12 (j := 15) (Nat.le_of_ble_eq_true rfl) dX12_coder_95 lk1300 (fun _ _ _ => rfl) (hM.1 0 _ rfl) (a := (m + 10)) (hM.2.2 9 _ _ _ rfl) rfl ?_
    refine ev_iload_n 99 dX12_coder_98 rfl rfl ?_
    refine ev_iconstN 100 0 dX12_coder_99 rfl ?_
    refine ev_iast 101 _ dX12_coder_100 (hM.1 10 _ rfl) rfl (by have hNN := hM.2.1 10 _ rfl; omega) rfl ?_
    refine ev_aload_n 102 dX12_coder_101 rfl rfl ?_
    refine ev_getP 105 mm_cl12 (j := 16) (Nat.le_of_ble_eq_true rfl) dX12_coder_102 lk1301 (fun _ _ _ => rfl) (hM.1 0 _ rfl) (a := (m + 11)) (hM.2.2 10 _ _ _ rfl) rfl ?_
    refine ev_iload_n 106 dX12_coder_105 rfl rfl ?_
    refine ev_iconstN 107 0 dX12_coder_106 rfl ?_
    refine ev_iast 108 _ dX12_coder_107 (hM.1 11 _ rfl) rfl (by have hNN := hM.2.1 11 _ rfl; omega) rfl ?_
    refine ev_aload_n 109 dX12_coder_108 rfl rfl ?_
    refine ev_getP 112 mm_cl12 (j := 18) (Nat.le_of_ble_eq_true rfl) dX12_coder_109 lk1303 (fun _ _ _ => rfl) (hM.1 0 _ rfl) (a := (m + 13)) (hM.2.2 12 _ _ _ rfl) rfl ?_
    refine ev_iload_n 113 dX12_coder_112 rfl rfl ?_
    refine ev_iconstN 114 0 dX12_coder_113 rfl ?_
    refine ev_iast 115 _ dX12_coder_114 (hM.1 13 _ rfl) rfl (by have hNN := hM.2.1 13 _ rfl; omega) rfl ?_
    refine ev_aload_n 116 dX12_coder_115 rfl rfl ?_
    refine ev_getP 119 mm_cl12 (j := 19) (Nat.le_of_ble_eq_true rfl) dX12_coder_116 lk1304 (fun _ _ _ => rfl) (hM.1 0 _ rfl) (a := (m + 14)) (hM.2.2 13 _ _ _ rfl) rfl ?_
    refine ev_iload_n 120 dX12_coder_119 rfl rfl ?_
    refine ev_iconstN 121 0 dX12_coder_120 rfl ?_
    refine ev_iast 122 _ dX12_coder_121 (hM.1 14 _ rfl) rfl (by have hNN := hM.2.1 14 _ rfl; omega) rfl ?_
    refine ev_iconstN 123 2 dX12_coder_122 rfl ?_
    refine ev_iload_n 124 dX12_coder_123 rfl rfl ?_
    refine ev_imulN 125 dX12_coder_124 rfl ?_
    refine ev_istore_n 126 (lv' := [_, _, some (.int _), _, _]) dX12_coder_125 (Nat.le_of_ble_eq_true rfl) rfl rfl ?_
    exact K
    , by
    refine ⟨?_, fun k hk => ?_, ⟨?_, ?_⟩, fun q hq => ?_⟩
    · simp (disch := omega) only [va_up_s, va_up_n]
    · have : k = 6 ∨ k = 8 ∨ k = 9 ∨ k = 10 ∨ k = 11 ∨ k = 13 ∨ k = 14 := by omega
      rcases this with rfl | rfl | rfl | rfl | rfl | rfl | rfl <;> simp (disch := omega) only [va_up_s, va_up_n]
    · simp (disch := omega) only [va_up_s, va_up_n]
    · simp (disch := omega) only [va_up_s, va_up_n]
    · simp (disch := omega) only [va_up_s, va_up_n]⟩
  generalize hIb : va_up (va_up (va_up (va_up Ia (m + 15) (sgp (Ia (m + 15)) (160 * (2 * n)) 160 (fun _ => nI 0))) (m + 16) (sgp (Ia (m + 16)) (8 * (2 * n)) 8 (fun _ => nI 0))) (m + 17) (sgp (Ia (m + 17)) (8 * (2 * n)) 8 (fun _ => nI 0))) (m + 18) (va_up (Ia (m + 18)) (2 * n) (nI 40)) = Ib
  have bb := fun Z K => lx_mc126 (g := g) (J := J) (r := r) (I := Ia) (s := 2 * n) (Z := Z) hM hn (by omega) K
  rw [hIb] at bb
  generalize hIc : va_up (va_up (va_up (va_up Ib (m + 15) (sgp (Ib (m + 15)) (160 * (2 * n + 1)) 160 (fun _ => nI 0))) (m + 16) (sgp (Ib (m + 16)) (8 * (2 * n + 1)) 8 (fun _ => nI 0))) (m + 17) (sgp (Ib (m + 17)) (8 * (2 * n + 1)) 8 (fun _ => nI 0))) (m + 18) (va_up (Ib (m + 18)) (2 * n + 1) (nI 40)) = Ic
  have bc := fun Z K => lx_mc126 (g := g) (J := J) (r := r) (I := Ib) (s := 2 * n + 1) (Z := Z) hM hn (by omega) K
  rw [hIc] at bc
  have gb : ∀ q, q < m + 15 ∨ m + 18 < q → Ib q = Ia q := fun q hq => by rw [← hIb]; simp (disch := omega) only [va_up_n]
  have gc : ∀ q, q < m + 15 ∨ m + 18 < q → Ic q = Ia q := fun q hq => by rw [← gb q hq, ← hIc]; simp (disch := omega) only [va_up_n]
  have c15 : Ic (m + 15) = sgp (sgp (I (m + 15)) (160 * (2 * n)) 160 (fun _ => nI 0)) (160 * (2 * n + 1)) 160 (fun _ => nI 0) := by
    rw [← hIc]; simp (disch := omega) only [va_up_s, va_up_n]; rw [← hIb]; simp (disch := omega) only [va_up_s, va_up_n]; rw [a4 _ (by omega)]
  have c16 : Ic (m + 16) = sgp (sgp (I (m + 16)) (8 * (2 * n)) 8 (fun _ => nI 0)) (8 * (2 * n + 1)) 8 (fun _ => nI 0) := by
    rw [← hIc]; simp (disch := omega) only [va_up_s, va_up_n]; rw [← hIb]; simp (disch := omega) only [va_up_s, va_up_n]; rw [a4 _ (by omega)]
  have c17 : Ic (m + 17) = sgp (sgp (I (m + 17)) (8 * (2 * n)) 8 (fun _ => nI 0)) (8 * (2 * n + 1)) 8 (fun _ => nI 0) := by
    rw [← hIc]; simp (disch := omega) only [va_up_s, va_up_n]; rw [← hIb]; simp (disch := omega) only [va_up_s, va_up_n]; rw [a4 _ (by omega)]
  have c18 : Ic (m + 18) = va_up (va_up (I (m + 18)) (2 * n) (nI 40)) (2 * n + 1) (nI 40) := by
    rw [← hIc]; simp (disch := omega) only [va_up_s, va_up_n]; rw [← hIb]; simp (disch := omega) only [va_up_s, va_up_n]; rw [a4 _ (by omega)]
  generalize hId : va_up (va_up Ic (m + 19) (sgp (Ic (m + 19)) (8 * n) 8 (fun _ => nI 0))) (m + 21) (sgp (Ic (m + 21)) (8 * n) 8 (fun _ => nI 0)) = Id
  have bd := fun Z K => lx_mc224 (g := g) (J := J) (r := r) (I0 := Ic) (Z := Z) hM hn (by rw [hId]; exact K) 8 0 (by omega)
  rw [sgp_0, va_up_id, sgp_0, va_up_id] at bd
  have gd : ∀ q, q ≠ m + 19 → q ≠ m + 21 → Id q = Ic q := fun q q1 q2 => by rw [← hId, va_up_n _ _ q2, va_up_n _ _ q1]
  have d19 : Id (m + 19) = sgp (I (m + 19)) (8 * n) 8 (fun _ => nI 0) := by rw [← hId, va_up_n _ _ (by omega), va_up_s, gc _ (by omega), a4 _ (by omega)]
  have d21 : Id (m + 21) = sgp (I (m + 21)) (8 * n) 8 (fun _ => nI 0) := by rw [← hId, va_up_s, gc _ (by omega), a4 _ (by omega)]
  have gdI : ∀ q, (m + 18 < q ∧ q ≠ m + 19 ∧ q ≠ m + 21) ∨ q < m ∨ (m + 1 ≤ q ∧ q ≤ m + 4) ∨ q = m + 12 → Id q = I q := fun q hq => by rw [gd q (by omega) (by omega), gc q (by omega), a4 q (by omega)]
  obtain ⟨Ie, be, e1, e2, e3, e4⟩ : ∃ Ie : mm_TI, (∀ Z : mm_Z, Ev g mX12_coder 370 [some (.ref m), some (.int (nI r)), some (.int (nI n)), some (.int (nI 0)), none] [] B Ie J P Z → Ev g mX12_coder 260 [some (.ref m), some (.int (nI r)), some (.int (nI n)), none, none] [] B Id J P Z) ∧ Ie (m + 34) = va_up (Id (m + 34)) n (nI r) ∧ (∀ k, k = 20 ∨ k = 28 ∨ (35 ≤ k ∧ k ≤ 42) ∨ k = 44 ∨ k = 47 → Ie (m + k) = va_up (Id (m + k)) n (nI 0)) ∧ (Ie (m + 43) = va_up (Id (m + 43)) n (-4) ∧ Ie (m + 46) = va_up (Id (m + 46)) n (nI 2000)) ∧ (∀ q, q < m + 20 ∨ (m + 20 < q ∧ q < m + 28) ∨ (m + 28 < q ∧ q < m + 34) ∨ q = m + 45 ∨ m + 47 < q → Ie q = Id q) := ⟨_, by
    intro Z K
    refine ev_aload_n 261 dX12_coder_260 rfl rfl ?_
    refine ev_getP 264 mm_cl12 (j := 25) (Nat.le_of_ble_eq_true rfl) dX12_coder_261 lk1310 (fun _ _ _ => rfl) (hM.1 0 _ rfl) (a := (m + 20)) (hM.2.2 19 _ _ _ rfl) rfl ?_
    refine ev_iload_n 265 dX12_coder_264 rfl rfl ?_
    refine ev_iconstN 266 0 dX12_coder_265 rfl ?_
    refine ev_iast 267 _ dX12_coder_266 (hM.1 20 _ rfl) rfl (by have hNN := hM.2.1 20 _ rfl; omega) rfl ?_
    refine ev_aload_n 268 dX12_coder_267 rfl rfl ?_
    refine ev_getP 271 mm_cl12 (j := 33) (Nat.le_of_ble_eq_true rfl) dX12_coder_268 lk1318 (fun _ _ _ => rfl) (hM.1 0 _ rfl) (a := (m + 28)) (hM.2.2 27 _ _ _ rfl) rfl ?_
    refine ev_iload_n 272 dX12_coder_271 rfl rfl ?_
    refine ev_iconstN 273 0 dX12_coder_272 rfl ?_
    refine ev_iast 274 _ dX12_coder_273 (hM.1 28 _ rfl) rfl (by have hNN := hM.2.1 28 _ rfl; omega) rfl ?_
    refine ev_aload_n 275 dX12_coder_274 rfl rfl ?_
    refine ev_getP 278 mm_cl12 (j := 40) (Nat.le_of_ble_eq_true rfl) dX12_coder_275 lk1325 (fun _ _ _ => rfl) (hM.1 0 _ rfl) (a := (m + 34)) (hM.2.2 33 _ _ _ rfl) rfl ?_
    refine ev_iload_n 279 dX12_coder_278 rfl rfl ?_
    refine ev_iload_n 280 dX12_coder_279 rfl rfl ?_
    refine ev_iast 281 _ dX12_coder_280 (hM.1 34 _ rfl) rfl (by have hNN := hM.2.1 34 _ rfl; omega) rfl ?_
    refine ev_aload_n 282 dX12_coder_281 rfl rfl ?_
    refine ev_getP 285 mm_cl12 (j := 41) (Nat.le_of_ble_eq_true rfl) dX12_coder_282 lk1326 (fun _ _ _ => rfl) (hM.1 0 _ rfl) (a := (m + 35)) (hM.2.2 34 _ _ _ rfl) rfl ?_
    refine ev_iload_n 286 dX12_coder_285 rfl rfl ?_
    refine ev_iconstN 287 0 dX12_coder_286 rfl ?_
    refine ev_iast 288 _ dX12_coder_287 (hM.1 35 _ rfl) rfl (by have hNN := hM.2.1 35 _ rfl; omega) rfl ?_
    refine ev_aload_n 289 dX12_coder_288 rfl rfl ?_
    refine ev_getP 292 mm_cl12 (j := 42) (Nat.le_of_ble_eq_true rfl) dX12_coder_289 lk1327 (fun _ _ _ => rfl) (hM.1 0 _ rfl) (a := (m + 36)) (hM.2.2 35 _ _ _ rfl) rfl ?_
    refine ev_iload_n 293 dX12_coder_292 rfl rfl ?_
    refine ev_iconstN 294 0 dX12_coder_293 rfl ?_
    refine ev_iast 295 _ dX12_coder_294 (hM.1 36 _ rfl) rfl (by have hNN := hM.2.1 36 _ rfl; omega) rfl ?_
    refine ev_aload_n 296 dX12_coder_295 rfl rfl ?_
    refine ev_getP 299 mm_cl12 (j := 43) (Nat.le_of_ble_eq_true rfl) dX12_coder_296 lk1328 (fun _ _ _ => rfl) (hM.1 0 _ rfl) (a := (m + 37)) (hM.2.2 36 _ _ _ rfl) rfl ?_
    refine ev_iload_n 300 dX12_coder_299 rfl rfl ?_
    refine ev_iconstN 301 0 dX12_coder_300 rfl ?_
    refine ev_iast 302 _ dX12_coder_301 (hM.1 37 _ rfl) rfl (by have hNN := hM.2.1 37 _ rfl; omega) rfl ?_
    refine ev_aload_n 303 dX12_coder_302 rfl rfl ?_
    refine ev_getP 306 mm_cl12 (j := 44) (Nat.le_of_ble_eq_true rfl) dX12_coder_303 lk1329 (fun _ _ _ => rfl) (hM.1 0 _ rfl) (a := (m + 38)) (hM.2.2 37 _ _ _ rfl) rfl ?_
    refine ev_iload_n 307 dX12_coder_306 rfl rfl ?_
    refine ev_iconstN 308 0 dX12_coder_307 rfl ?_
    refine ev_iast 309 _ dX12_coder_308 (hM.1 38 _ rfl) rfl (by have hNN := hM.2.1 38 _ rfl; omega) rfl ?_
    refine ev_aload_n 310 dX12_coder_309 rfl rfl ?_
    refine ev_getP 313 mm_cl12 (j := 45) (Nat.le_of_ble_eq_true rfl) dX12_coder_310 lk1330 (fun _ _ _ => rfl) (hM.1 0 _ rfl) (a := (m + 39)) (hM.2.2 38 _ _ _ rfl) rfl ?_
    refine ev_iload_n 314 dX12_coder_313 rfl rfl ?_
    refine ev_iconstN 315 0 dX12_coder_314 rfl ?_
    refine ev_iast 316 _ dX12_coder_315 (hM.1 39 _ rfl) rfl (by have hNN := hM.2.1 39 _ rfl; omega) rfl ?_
    refine ev_aload_n 317 dX12_coder_316 rfl rfl ?_
    refine ev_getP 320 mm_cl12 (j := 46) (Nat.le_of_ble_eq_true rfl) dX12_coder_317 lk1331 (fun _ _ _ => rfl) (hM.1 0 _ rfl) (a := (m + 40)) (hM.2.2 39 _ _ _ rfl) rfl ?_
    refine ev_iload_n 321 dX12_coder_320 rfl rfl ?_
    refine ev_iconstN 322 0 dX12_coder_321 rfl ?_
    refine ev_iast 323 _ dX12_coder_322 (hM.1 40 _ rfl) rfl (by have hNN := hM.2.1 40 _ rfl; omega) rfl ?_
    refine ev_aload_n 324 dX12_coder_323 rfl rfl ?_
    refine ev_getP 327 mm_cl12 (j := 47) (Nat.le_of_ble_eq_true rfl) dX12_coder_324 lk1332 (fun _ _ _ => rfl) (hM.1 0 _ rfl) (a := (m + 41)) (hM.2.2 40 _ _ _ rfl) rfl ?_
    refine ev_iload_n 328 dX12_coder_327 rfl rfl ?_
    refine ev_iconstN 329 0 dX12_coder_328 rfl ?_
    refine ev_iast 330 _ dX12_coder_329 (hM.1 41 _ rfl) rfl (by have hNN := hM.2.1 41 _ rfl; omega) rfl ?_
    refine ev_aload_n 331 dX12_coder_330 rfl rfl ?_
    refine ev_getP 334 mm_cl12 (j := 48) (Nat.le_of_ble_eq_true rfl) dX12_coder_331 lk1333 (fun _ _ _ => rfl) (hM.1 0 _ rfl) (a := (m + 42)) (hM.2.2 41 _ _ _ rfl) rfl ?_
    refine ev_iload_n 335 dX12_coder_334 rfl rfl ?_
    refine ev_iconstN 336 0 dX12_coder_335 rfl ?_
    refine ev_iast 337 _ dX12_coder_336 (hM.1 42 _ rfl) rfl (by have hNN := hM.2.1 42 _ rfl; omega) rfl ?_
    refine ev_aload_n 338 dX12_coder_337 rfl rfl ?_
    refine ev_getP 341 mm_cl12 (j := 49) (Nat.le_of_ble_eq_true rfl) dX12_coder_338 lk1334 (fun _ _ _ => rfl) (hM.1 0 _ rfl) (a := (m + 43)) (hM.2.2 42 _ _ _ rfl) rfl ?_
    refine ev_iload_n 342 dX12_coder_341 rfl rfl ?_
    refine ev_bipush 344 (v := -4) dX12_coder_342 (by decide +kernel) rfl ?_
    refine ev_iast 345 _ dX12_coder_344 (hM.1 43 _ rfl) rfl (by have hNN := hM.2.1 43 _ rfl; omega) rfl ?_
    refine ev_aload_n 346 dX12_coder_345 rfl rfl ?_
    refine ev_getP 349 mm_cl12 (j := 50) (Nat.le_of_ble_eq_true rfl) dX12_coder_346 lk1335 (fun _ _ _ => rfl) (hM.1 0 _ rfl) (a := (m + 44)) (hM.2.2 43 _ _ _ rfl) rfl ?_
    refine ev_iload_n 350 dX12_coder_349 rfl rfl ?_
    refine ev_iconstN 351 0 dX12_coder_350 rfl ?_
    refine ev_iast 352 _ dX12_coder_351 (hM.1 44 _ rfl) rfl (by have hNN := hM.2.1 44 _ rfl; omega) rfl ?_
    refine ev_aload_n 353 dX12_coder_352 rfl rfl ?_
    refine ev_getP 356 mm_cl12 (j := 52) (Nat.le_of_ble_eq_true rfl) dX12_coder_353 lk1337 (fun _ _ _ => rfl) (hM.1 0 _ rfl) (a := (m + 46)) (hM.2.2 45 _ _ _ rfl) rfl ?_
    refine ev_iload_n 357 dX12_coder_356 rfl rfl ?_
    refine ev_sipushN 360 2000 dX12_coder_357 (by decide +kernel) rfl ?_
    refine ev_iast 361 _ dX12_coder_360 (hM.1 46 _ rfl) rfl (by have hNN := hM.2.1 46 _ rfl; omega) rfl ?_
    refine ev_aload_n 362 dX12_coder_361 rfl rfl ?_
    refine ev_getP 365 mm_cl12 (j := 53) (Nat.le_of_ble_eq_true rfl) dX12_coder_362 lk1338 (fun _ _ _ => rfl) (hM.1 0 _ rfl) (a := (m + 47)) (hM.2.2 46 _ _ _ rfl) rfl ?_
    refine ev_iload_n 366 dX12_coder_365 rfl rfl ?_
    refine ev_iconstN 367 0 dX12_coder_366 rfl ?_
    refine ev_iast 368 _ dX12_coder_367 (hM.1 47 _ rfl) rfl (by have hNN := hM.2.1 47 _ rfl; omega) rfl ?_
    refine ev_iconstN 369 0 dX12_coder_368 rfl ?_
    refine ev_istore_n 370 (lv' := [_, _, some (.int _), _, _]) dX12_coder_369 (Nat.le_of_ble_eq_true rfl) rfl rfl ?_
    exact K
    , by
    refine ⟨?_, fun k hk => ?_, ⟨?_, ?_⟩, fun q hq => ?_⟩
    · simp (disch := omega) only [va_up_s, va_up_n]
    · have : k = 20 ∨ k = 28 ∨ k = 35 ∨ k = 36 ∨ k = 37 ∨ k = 38 ∨ k = 39 ∨ k = 40 ∨ k = 41 ∨ k = 42 ∨ k = 44 ∨ k = 47 := by omega
      rcases this with rfl | rfl | rfl | rfl | rfl | rfl | rfl | rfl | rfl | rfl | rfl | rfl <;> simp (disch := omega) only [va_up_s, va_up_n]
    · simp (disch := omega) only [va_up_s, va_up_n]
    · simp (disch := omega) only [va_up_s, va_up_n]
    · simp (disch := omega) only [va_up_s, va_up_n]⟩
  have bf := lx_mc370 (g := g) (J := J) (r := r) (I0 := Ie) hM hn 4 0 (by omega)
  rw [sgp_0, va_up_id] at bf
  generalize hIf : mo_st (va_up Ie (m + 48) (sgp (Ie (m + 48)) (4 * n) 4 (fun _ => nI 0))) m (nI 0) = If at bf
  have gf : ∀ q, q ≠ m → q ≠ m + 48 → If q = Ie q := fun q q1 q2 => by rw [← hIf]; exact (va_up_n _ _ q1).trans (va_up_n _ _ q2)
  have gfl : ∀ k, 1 ≤ k → k < 20 → If (m + k) = Id (m + k) := fun k k1 k2 => by rw [gf _ (by omega) (by omega), e4 _ (by omega)]
  have gfc : ∀ k, 1 ≤ k → k < 15 → If (m + k) = Ia (m + k) := fun k k1 k2 => by rw [gfl k k1 (by omega), gd _ (by omega) (by omega), gc _ (by omega)]
  refine ⟨If, ⟨fun k hk => ?_, fun k hk => ?_, ?_, ?_, ?_, ?_, fun k hk => ?_, ?_, fun k hk => ?_, ?_, ?_, fun q hq => ?_⟩, ba _ (bb _ (bc _ ?_))⟩
  · rcases hk with rfl | rfl
    · rw [gfc 5 (by omega) (by omega)]; exact a1
    · rw [gf _ (by omega) (by omega), e1, gdI _ (by omega)]
  · by_cases e : k < 15
    · rw [gfc k (by omega) e]; exact a2 k (by omega)
    · rw [gf _ (by omega) (by omega), e2 k (by omega), gdI _ (by omega)]
  · rw [gf _ (by omega) (by omega), e3.1, gdI _ (by omega)]
  · rw [gf _ (by omega) (by omega), e3.2, gdI _ (by omega)]
  · rw [gfc 7 (by omega) (by omega)]; exact a3.1
  · rw [gfl 15 (by omega) (by omega), gd _ (by omega) (by omega)]; exact c15
  · rcases hk with rfl | rfl
    · rw [gfl 16 (by omega) (by omega), gd _ (by omega) (by omega)]; exact c16
    · rw [gfl 17 (by omega) (by omega), gd _ (by omega) (by omega)]; exact c17
  · rw [gfl 18 (by omega) (by omega), gd _ (by omega) (by omega)]; exact c18
  · rcases hk with rfl | rfl
    · rw [gfl 19 (by omega) (by omega)]; exact d19
    · rw [gf _ (by omega) (by omega), e4 _ (by omega)]; exact d21
  · rw [← hIf]; refine (va_up_n _ _ (by omega)).trans ?_
    rw [va_up_s, e4 _ (by omega), gdI _ (by omega)]
  · rw [← hIf]; refine (va_up_s _ _ _).trans ?_
    rw [va_up_n _ _ (by omega), e4 _ (by omega), gd _ (by omega) (by omega), gc _ (by omega), a3.2]
  · rw [gf _ (by omega) (by omega), e4 _ (by omega), gdI _ (by omega)]
  · refine ev_iload_n 127 dX12_coder_126 rfl rfl ?_
    refine ev_iconstN 128 2 dX12_coder_127 rfl ?_
    refine ev_iload_n 129 dX12_coder_128 rfl rfl ?_
    refine ev_imulN 130 dX12_coder_129 rfl ?_
    refine ev_iconstN 131 2 dX12_coder_130 rfl ?_
    refine ev_iaddN 132 dX12_coder_131 rfl ?_
    refine ev_icmp_geN 135 222 dX12_coder_132 (by decide) (by omega) (by omega) rfl (fun hbr => ?_) (fun hx => absurd ((by omega)) hx)
    refine ev_iconstN 223 0 dX12_coder_222 rfl ?_
    refine ev_istore_n 224 (lv' := [_, _, some (.int _), _, _]) dX12_coder_223 (Nat.le_of_ble_eq_true rfl) rfl rfl ?_
    refine bd _ (be _ ?_)
    exact bf
end CM0
