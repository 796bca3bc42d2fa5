/-! FRAMES: what changes them, the model's -/
/-- a new row R of n places F, put into place q of rowIn -/
def MNr (m R n s q : Nat) (F : Nat → Int32) (I I' : mm_TI) : Prop :=
  I' (m + 31) = va_up (I (m + 31)) R (nI n) ∧ I' (m + 32) = va_up (I (m + 32)) R (nI s) ∧ I' (m + 33) = sgp (I (m + 33)) (64 * R) n F ∧ I' (m + 30) = va_up (I (m + 30)) q (nI (R + 1)) ∧ I' m = va_up (va_up (I m) 36 (nI (R + 1))) 1 (nI 0) ∧ ∀ p, p ≠ m → p < m + 30 ∨ m + 33 < p → I' p = I p
section MF0
variable {g : mm_G} {B : mm_B} {I : mm_TI} {J : mm_TJ} {P : mm_TP} {m n k i L : Nat}
theorem ml_lose_f {c i : Int32} (hM : lyM B P m) (hf : Ct g mX12_isFrame [.ref m, .int c, .int i] B I J P (some (.int (nI 0)), B, I, J, P)) : Ct g mX12_lose [.ref m, .int c, .int i] B I J P (some (.int (-1)), B, mo_st I m (-1), J, P) := by
  refine ct_of (lv := [some (.ref m), some (.int (c)), some (.int (i))]) (by decide +kernel) (Nat.le_of_ble_eq_true rfl) rfl ?_
  refine ev_aload_n 1 dX12_lose_0 rfl rfl ?_
  refine ev_iload_n 2 dX12_lose_1 rfl rfl ?_
  refine ev_iload_n 3 dX12_lose_2 rfl rfl ?_
  refine ev_invV 6 (Mc := mX12_isFrame) ⟨lk1728, lk80, hdX12_isFrame, (Nat.le_of_ble_eq_true rfl), (Nat.le_of_ble_eq_true rfl)⟩ lk1725 lk1727 lk62 mm_cl12 rfl dX12_lose_3 (hf) rfl (hM.1 0 _ rfl) (Nat.le_of_ble_eq_true rfl) rfl rfl ?_
  refine ev_if_neN 9 15 dX12_lose_6 (by decide) (by omega) rfl (fun hx => absurd ((by omega)) hx) (fun hbr => ?_)
  refine ev_aload_n 10 dX12_lose_9 rfl rfl ?_
  refine ev_iconst 11 (v := -1) dX12_lose_10 (by decide +kernel) rfl ?_
  refine ev_invV 14 (Mc := mX12_refused) ⟨lk1540, lk80, hdX12_refused, (Nat.le_of_ble_eq_true rfl), (Nat.le_of_ble_eq_true rfl)⟩ lk1537 lk1539 lk38 mm_cl12 rfl dX12_lose_11 (ct_X12_refused hM) rfl (hM.1 0 _ rfl) (Nat.le_of_ble_eq_true rfl) rfl rfl ?_
  exact ev_iret dX12_lose_14 rfl (rfl)
theorem ml_lose_t (h : MA B I P m n k) (hL : I (m + 28) k = nI L) (hl : L ≤ 250) (hi : i < L) : Ct g mX12_lose [.ref m, .int (nI k), .int (nI i)] B I J P (some (.int (nI 1)), B, mo_st (va_up I (m + 30) (va_up (I (m + 30)) (250 * k + i) (nI 0))) m (nI 0), J, P) := by
  have hf := ct_isFrame_t (g := g) (J := J) h hL hl hi
  obtain ⟨hM, hn, h8, hk⟩ := h
  refine ct_of (lv := [some (.ref m), some (.int (nI (k))), some (.int (nI (i)))]) (by decide +kernel) (Nat.le_of_ble_eq_true rfl) rfl ?_
  refine ev_aload_n 1 dX12_lose_0 rfl rfl ?_
  refine ev_iload_n 2 dX12_lose_1 rfl rfl ?_
  refine ev_iload_n 3 dX12_lose_2 rfl rfl ?_
  refine ev_invV 6 (Mc := mX12_isFrame) ⟨lk1728, lk80, hdX12_isFrame, (Nat.le_of_ble_eq_true rfl), (Nat.le_of_ble_eq_true rfl)⟩ lk1725 lk1727 lk62 mm_cl12 rfl dX12_lose_3 (hf) rfl (hM.1 0 _ rfl) (Nat.le_of_ble_eq_true rfl) rfl rfl ?_
  refine ev_if_neN 9 15 dX12_lose_6 (by decide) (by omega) rfl (fun hbr => ?_) (fun hx => absurd hx ((by omega)))
  refine ev_aload_n 16 dX12_lose_15 rfl rfl ?_
  refine ev_getP 19 mm_cl12 (j := 35) (Nat.le_of_ble_eq_true rfl) dX12_lose_16 lk1320 (fun _ _ _ => rfl) (hM.1 0 _ rfl) (a := (m + 30)) (hM.2.2 29 _ _ _ rfl) rfl ?_
  refine ev_sipushN 22 250 dX12_lose_19 (by decide +kernel) rfl ?_
  refine ev_iload_n 23 dX12_lose_22 rfl rfl ?_
  refine ev_imulN 24 dX12_lose_23 rfl ?_
  refine ev_iload_n 25 dX12_lose_24 rfl rfl ?_
  refine ev_iaddN 26 dX12_lose_25 rfl ?_
  refine ev_iconstN 27 0 dX12_lose_26 rfl ?_
  refine ev_iast 28 _ dX12_lose_27 (hM.1 30 _ rfl) rfl (by have hNN := hM.2.1 30 _ rfl; omega) rfl ?_
  refine ev_aload_n 29 dX12_lose_28 rfl rfl ?_
  refine ev_iconstN 30 1 dX12_lose_29 rfl ?_
  refine ev_invV 33 (Mc := mX12_done) ⟨lk1544, lk80, hdX12_done, (Nat.le_of_ble_eq_true rfl), (Nat.le_of_ble_eq_true rfl)⟩ lk1541 lk1543 lk39 mm_cl12 rfl dX12_lose_30 (ct_X12_done hM) rfl (hM.1 0 _ rfl) (Nat.le_of_ble_eq_true rfl) rfl rfl ?_
  exact ev_iret dX12_lose_33 rfl (rfl)
theorem ml_cut_f {c i j : Int32} (hM : lyM B P m) (hf : Ct g mX12_isFrame [.ref m, .int c, .int i] B I J P (some (.int (nI 0)), B, I, J, P)) : Ct g mX12_cut [.ref m, .int c, .int i, .int j] B I J P (some (.int (-1)), B, mo_st I m (-1), J, P) := by
  refine ct_of (lv := [some (.ref m), some (.int (c)), some (.int (i)), some (.int (j)), none, none, none, none]) (by decide +kernel) (Nat.le_of_ble_eq_true rfl) rfl ?_
  refine ev_aload_n 1 dX12_cut_0 rfl rfl ?_
  refine ev_iload_n 2 dX12_cut_1 rfl rfl ?_
  refine ev_iload_n 3 dX12_cut_2 rfl rfl ?_
  refine ev_invV 6 (Mc := mX12_isFrame) ⟨lk1728, lk80, hdX12_isFrame, (Nat.le_of_ble_eq_true rfl), (Nat.le_of_ble_eq_true rfl)⟩ lk1725 lk1727 lk62 mm_cl12 rfl dX12_cut_3 (hf) rfl (hM.1 0 _ rfl) (Nat.le_of_ble_eq_true rfl) rfl rfl ?_
  refine ev_if_neN 9 15 dX12_cut_6 (by decide) (by omega) rfl (fun hx => absurd ((by omega)) hx) (fun hbr => ?_)
  refine ev_aload_n 10 dX12_cut_9 rfl rfl ?_
  refine ev_iconst 11 (v := -1) dX12_cut_10 (by decide +kernel) rfl ?_
  refine ev_invV 14 (Mc := mX12_refused) ⟨lk1540, lk80, hdX12_refused, (Nat.le_of_ble_eq_true rfl), (Nat.le_of_ble_eq_true rfl)⟩ lk1537 lk1539 lk38 mm_cl12 rfl dX12_cut_11 (ct_X12_refused hM) rfl (hM.1 0 _ rfl) (Nat.le_of_ble_eq_true rfl) rfl rfl ?_
  exact ev_iret dX12_cut_14 rfl (rfl)
theorem ml_cut_0 {j : Int32} (h : MA B I P m n k) (hL : I (m + 28) k = nI L) (hl : L ≤ 250) (hi : i < L) (hr : I (m + 30) (250 * k + i) = nI 0) : Ct g mX12_cut [.ref m, .int (nI k), .int (nI i), .int j] B I J P (some (.int (-2)), B, mo_st I m (-2), J, P) := by
  have hf := ct_isFrame_t (g := g) (J := J) h hL hl hi
  obtain ⟨hM, hn, h8, hk⟩ := h
  refine ct_of (lv := [some (.ref m), some (.int (nI (k))), some (.int (nI (i))), some (.int (j)), none, none, none, none]) (by decide +kernel) (Nat.le_of_ble_eq_true rfl) rfl ?_
  refine ev_aload_n 1 dX12_cut_0 rfl rfl ?_
  refine ev_iload_n 2 dX12_cut_1 rfl rfl ?_
  refine ev_iload_n 3 dX12_cut_2 rfl rfl ?_
  refine ev_invV 6 (Mc := mX12_isFrame) ⟨lk1728, lk80, hdX12_isFrame, (Nat.le_of_ble_eq_true rfl), (Nat.le_of_ble_eq_true rfl)⟩ lk1725 lk1727 lk62 mm_cl12 rfl dX12_cut_3 (hf) rfl (hM.1 0 _ rfl) (Nat.le_of_ble_eq_true rfl) rfl rfl ?_
  refine ev_if_neN 9 15 dX12_cut_6 (by decide) (by omega) rfl (fun hbr => ?_) (fun hx => absurd hx ((by omega)))
  refine ev_aload_n 16 dX12_cut_15 rfl rfl ?_
  refine ev_getP 19 mm_cl12 (j := 35) (Nat.le_of_ble_eq_true rfl) dX12_cut_16 lk1320 (fun _ _ _ => rfl) (hM.1 0 _ rfl) (a := (m + 30)) (hM.2.2 29 _ _ _ rfl) rfl ?_
  refine ev_sipushN 22 250 dX12_cut_19 (by decide +kernel) rfl ?_
  refine ev_iload_n 23 dX12_cut_22 rfl rfl ?_
  refine ev_imulN 24 dX12_cut_23 rfl ?_
  refine ev_iload_n 25 dX12_cut_24 rfl rfl ?_
  refine ev_iaddN 26 dX12_cut_25 rfl ?_
  refine ev_iald 27 _ dX12_cut_26 (hM.1 30 _ rfl) rfl (by have hNN := hM.2.1 30 _ rfl; omega) rfl ?_
  refine ev_iconstN 28 1 dX12_cut_27 rfl ?_
  refine ev_isub 29 dX12_cut_28 rfl ?_
  refine ev_eqI (y := ((nI 0 - nI 1))) ((by rw [hr])) ?_
  refine ev_istore 31 (lv' := [_, _, _, some (.int _), _, _, _, _]) dX12_cut_29 (Nat.le_of_ble_eq_true rfl) rfl rfl ?_
  refine ev_iload 33 dX12_cut_31 rfl rfl ?_
  refine ev_if_ge 36 43 dX12_cut_33 (by decide) rfl (fun hx => absurd hx ((by decide))) (fun hbr => ?_)
  refine ev_aload_n 37 dX12_cut_36 rfl rfl ?_
  refine ev_bipush 39 (v := -2) dX12_cut_37 (by decide +kernel) rfl ?_
  refine ev_invV 42 (Mc := mX12_refused) ⟨lk1540, lk80, hdX12_refused, (Nat.le_of_ble_eq_true rfl), (Nat.le_of_ble_eq_true rfl)⟩ lk1537 lk1539 lk38 mm_cl12 rfl dX12_cut_39 (ct_X12_refused hM) rfl (hM.1 0 _ rfl) (Nat.le_of_ble_eq_true rfl) rfl rfl ?_
  exact ev_iret dX12_cut_42 rfl (rfl)
theorem ml_cut_b {j : Int32} {r s : Nat} (h : MA B I P m n k) (hL : I (m + 28) k = nI L) (hl : L ≤ 250) (hi : i < L) (hR : r < 4300) (hs : s ≤ 64) (hr : I (m + 30) (250 * k + i) = nI (r + 1)) (hv : I (m + 31) r = nI s) (hj : ¬ (nI 0 ≤ j ∧ j ≤ nI s)) : Ct g mX12_cut [.ref m, .int (nI k), .int (nI i), .int j] B I J P (some (.int (-1)), B, mo_st I m (-1), J, P) := by
  have hf := ct_isFrame_t (g := g) (J := J) h hL hl hi
  obtain ⟨hM, hn, h8, hk⟩ := h
  refine ct_of (lv := [some (.ref m), some (.int (nI (k))), some (.int (nI (i))), some (.int (j)), none, none, none, none]) (by decide +kernel) (Nat.le_of_ble_eq_true rfl) rfl ?_
  refine ev_aload_n 1 dX12_cut_0 rfl rfl ?_
  refine ev_iload_n 2 dX12_cut_1 rfl rfl ?_
  refine ev_iload_n 3 dX12_cut_2 rfl rfl ?_
  refine ev_invV 6 (Mc := mX12_isFrame) ⟨lk1728, lk80, hdX12_isFrame, (Nat.le_of_ble_eq_true rfl), (Nat.le_of_ble_eq_true rfl)⟩ lk1725 lk1727 lk62 mm_cl12 rfl dX12_cut_3 (hf) rfl (hM.1 0 _ rfl) (Nat.le_of_ble_eq_true rfl) rfl rfl ?_
  refine ev_if_neN 9 15 dX12_cut_6 (by decide) (by omega) rfl (fun hbr => ?_) (fun hx => absurd hx ((by omega)))
  refine ev_aload_n 16 dX12_cut_15 rfl rfl ?_
  refine ev_getP 19 mm_cl12 (j := 35) (Nat.le_of_ble_eq_true rfl) dX12_cut_16 lk1320 (fun _ _ _ => rfl) (hM.1 0 _ rfl) (a := (m + 30)) (hM.2.2 29 _ _ _ rfl) rfl ?_
  refine ev_sipushN 22 250 dX12_cut_19 (by decide +kernel) rfl ?_
  refine ev_iload_n 23 dX12_cut_22 rfl rfl ?_
  refine ev_imulN 24 dX12_cut_23 rfl ?_
  refine ev_iload_n 25 dX12_cut_24 rfl rfl ?_
  refine ev_iaddN 26 dX12_cut_25 rfl ?_
  refine ev_iald 27 _ dX12_cut_26 (hM.1 30 _ rfl) rfl (by have hNN := hM.2.1 30 _ rfl; omega) rfl ?_
  refine ev_iconstN 28 1 dX12_cut_27 rfl ?_
  refine ev_isub 29 dX12_cut_28 rfl ?_
  refine ev_eqI (y := nI (r)) ((by rw [hr]; exact nI_s1 r)) ?_
  refine ev_istore 31 (lv' := [_, _, _, some (.int _), _, _, _, _]) dX12_cut_29 (Nat.le_of_ble_eq_true rfl) rfl rfl ?_
  refine ev_iload 33 dX12_cut_31 rfl rfl ?_
  refine ev_if_geN 36 43 dX12_cut_33 (by decide) (by omega) rfl (fun hbr => ?_) (fun hx => absurd (trivial) hx)
  refine ev_aload_n 44 dX12_cut_43 rfl rfl ?_
  refine ev_getP 47 mm_cl12 (j := 37) (Nat.le_of_ble_eq_true rfl) dX12_cut_44 lk1322 (fun _ _ _ => rfl) (hM.1 0 _ rfl) (a := (m + 31)) (hM.2.2 30 _ _ _ rfl) rfl ?_
  refine ev_iload 49 dX12_cut_47 rfl rfl ?_
  refine ev_iald 50 _ dX12_cut_49 (hM.1 31 _ rfl) rfl (by have hNN := hM.2.1 31 _ rfl; omega) rfl ?_
  refine ev_eqI (y := ((nI s))) (hv) ?_
  refine ev_istore 52 (lv' := [_, _, _, _, some (.int _), _, _, _]) dX12_cut_50 (Nat.le_of_ble_eq_true rfl) rfl rfl ?_
  refine ev_iload_n 53 dX12_cut_52 rfl rfl ?_
  refine ev_iconstN 54 0 dX12_cut_53 rfl ?_
  refine ev_iload 56 dX12_cut_54 rfl rfl ?_
  refine ev_invS 59 (Mc := mX12_in) ⟨lk1536, lk80, hdX12_in, (Nat.le_of_ble_eq_true rfl), (Nat.le_of_ble_eq_true rfl)⟩ lk1534 lk1535 dX12_cut_56 (ct_X12_in_f hj) rfl (Nat.le_of_ble_eq_true rfl) rfl rfl ?_
  refine ev_if_neN 62 68 dX12_cut_59 (by decide) (by omega) rfl (fun hx => absurd ((by omega)) hx) (fun hbr => ?_)
  refine ev_aload_n 63 dX12_cut_62 rfl rfl ?_
  refine ev_iconst 64 (v := -1) dX12_cut_63 (by decide +kernel) rfl ?_
  refine ev_invV 67 (Mc := mX12_refused) ⟨lk1540, lk80, hdX12_refused, (Nat.le_of_ble_eq_true rfl), (Nat.le_of_ble_eq_true rfl)⟩ lk1537 lk1539 lk38 mm_cl12 rfl dX12_cut_64 (ct_X12_refused hM) rfl (hM.1 0 _ rfl) (Nat.le_of_ble_eq_true rfl) rfl rfl ?_
  exact ev_iret dX12_cut_67 rfl (rfl)
theorem lx_mcut {r s w R : Nat} {I0 : mm_TI} {F : Nat → Int32} (hM : lyM B P m) (hk : k < 8) (hi : i < 250) (hrR : r < R) (h43 : R < 4300) (hw : w ≤ 64) (hF : ∀ j, j < w → I0 (m + 33) (64 * r + j) = F j) : ∀ (d j : Nat), j + d = w →
    Ev g mX12_cut 85 [some (.ref m), some (.int (nI k)), some (.int (nI i)), some (.int (nI w)), some (.int (nI r)), some (.int (nI s)), some (.int (nI R)), some (.int (nI j))] [] B (va_up I0 (m + 33) (sgp (I0 (m + 33)) (64 * R) j F)) J P (some (.int (nI s)), B, mo_st (va_up (va_up I0 (m + 33) (sgp (I0 (m + 33)) (64 * R) w F)) (m + 30) (va_up (I0 (m + 30)) (250 * k + i) (nI (R + 1)))) m (nI 0), J, P) := by
  intro d
  induction d with
  | zero =>
    intro j hj
    obtain rfl : j = w := by omega
    refine ev_iload 87 dX12_cut_85 rfl rfl ?_
    refine ev_iload_n 88 dX12_cut_87 rfl rfl ?_
    refine ev_icmp_geN 91 123 dX12_cut_88 (by decide) (by omega) (by omega) rfl (fun hbr => ?_) (fun hx => absurd ((by omega)) hx)
    refine ev_aload_n 124 dX12_cut_123 rfl rfl ?_
    refine ev_getP 127 mm_cl12 (j := 35) (Nat.le_of_ble_eq_true rfl) dX12_cut_124 lk1320 (fun _ _ _ => rfl) (hM.1 0 _ rfl) (a := (m + 30)) (hM.2.2 29 _ _ _ rfl) rfl ?_
    refine ev_sipushN 130 250 dX12_cut_127 (by decide +kernel) rfl ?_
    refine ev_iload_n 131 dX12_cut_130 rfl rfl ?_
    refine ev_imulN 132 dX12_cut_131 rfl ?_
    refine ev_iload_n 133 dX12_cut_132 rfl rfl ?_
    refine ev_iaddN 134 dX12_cut_133 rfl ?_
    refine ev_iload 136 dX12_cut_134 rfl rfl ?_
    refine ev_iconstN 137 1 dX12_cut_136 rfl ?_
    refine ev_iaddN 138 dX12_cut_137 rfl ?_
    refine ev_iast 139 _ dX12_cut_138 (hM.1 30 _ rfl) rfl (by have hNN := hM.2.1 30 _ rfl; omega) rfl ?_
    rw [va_up_n _ _ (show m + 30 ≠ m + 33 by omega)]
    refine ev_aload_n 140 dX12_cut_139 rfl rfl ?_
    refine ev_iload 142 dX12_cut_140 rfl rfl ?_
    refine ev_invV 145 (Mc := mX12_done) ⟨lk1544, lk80, hdX12_done, (Nat.le_of_ble_eq_true rfl), (Nat.le_of_ble_eq_true rfl)⟩ lk1541 lk1543 lk39 mm_cl12 rfl dX12_cut_142 (ct_X12_done hM) rfl (hM.1 0 _ rfl) (Nat.le_of_ble_eq_true rfl) rfl rfl ?_
    exact ev_iret dX12_cut_145 rfl (rfl)
  | succ d ih =>
    intro j hj
    have e := ih (j + 1) (by omega)
    refine ev_iload 87 dX12_cut_85 rfl rfl ?_
    refine ev_iload_n 88 dX12_cut_87 rfl rfl ?_
    refine ev_icmp_geN 91 123 dX12_cut_88 (by decide) (by omega) (by omega) rfl (fun hx => absurd hx ((by omega))) (fun hbr => ?_)
    refine ev_aload_n 92 dX12_cut_91 rfl rfl ?_
    refine ev_getP 95 mm_cl12 (j := 39) (Nat.le_of_ble_eq_true rfl) dX12_cut_92 lk1324 (fun _ _ _ => rfl) (hM.1 0 _ rfl) (a := (m + 33)) (hM.2.2 32 _ _ _ rfl) rfl ?_
    refine ev_bipushN 97 64 dX12_cut_95 (by decide +kernel) rfl ?_
    refine ev_iload 99 dX12_cut_97 rfl rfl ?_
    refine ev_imulN 100 dX12_cut_99 rfl ?_
    refine ev_iload 102 dX12_cut_100 rfl rfl ?_
    refine ev_iaddN 103 dX12_cut_102 rfl ?_
    refine ev_aload_n 104 dX12_cut_103 rfl rfl ?_
    refine ev_getP 107 mm_cl12 (j := 39) (Nat.le_of_ble_eq_true rfl) dX12_cut_104 lk1324 (fun _ _ _ => rfl) (hM.1 0 _ rfl) (a := (m + 33)) (hM.2.2 32 _ _ _ rfl) rfl ?_
    refine ev_bipushN 109 64 dX12_cut_107 (by decide +kernel) rfl ?_
    refine ev_iload 111 dX12_cut_109 rfl rfl ?_
    refine ev_imulN 112 dX12_cut_111 rfl ?_
    refine ev_iload 114 dX12_cut_112 rfl rfl ?_
    refine ev_iaddN 115 dX12_cut_114 rfl ?_
    refine ev_iald 116 _ dX12_cut_115 (hM.1 33 _ rfl) rfl (by have hNN := hM.2.1 33 _ rfl; omega) rfl ?_
    refine ev_eqI (y := ((F j))) ((by rw [va_up_s, sgp_out (by omega)]; exact hF j (by omega))) ?_
    refine ev_iast 117 _ dX12_cut_116 (hM.1 33 _ rfl) rfl (by have hNN := hM.2.1 33 _ rfl; omega) rfl ?_
    rw [va_up_s, bx_uu, sgp_grow rfl]
    refine ev_iincN 120 (lv' := [_, _, _, _, _, _, some (.int _), _]) 1 dX12_cut_117 rfl (Nat.le_of_ble_eq_true rfl) rfl rfl ?_
    refine ev_goto 85 dX12_cut_120 (by decide) ?_
    exact e
theorem cx_mcut {r s w R sh : Nat} (h : MA B I P m n k) (hL : I (m + 28) k = nI L) (hl : L ≤ 250) (hi : i < L) (hrR : r < R) (h43 : R < 4300) (hs : s ≤ 64) (hr : I (m + 30) (250 * k + i) = nI (r + 1)) (hv : I (m + 31) r = nI s) (hsh : I (m + 32) r = nI sh) (hsh1 : sh ≤ 1) (hR : I m 36 = nI R) (hw : w ≤ s) :
    ∃ I2 : mm_TI, MNr m R w sh (250 * k + i) (fun j => I (m + 33) (64 * r + j)) I I2 ∧ Ct g mX12_cut [.ref m, .int (nI k), .int (nI i), .int (nI w)] B I J P (some (.int (nI s)), B, I2, J, P) := by
  have hf := ct_isFrame_t (g := g) (J := J) h hL hl hi
  obtain ⟨hM, hn, h8, hk⟩ := h
  generalize hI0 : va_up (va_up (va_up I (m + 31) (va_up (I (m + 31)) R (nI w))) (m + 32) (va_up (I (m + 32)) R (nI sh))) m (va_up (I m) 36 (nI (R + 1))) = I0
  have nr := ct_X12_newRow (g := g) (J := J) (n := w) hM hR h43 hsh1
  rw [hI0] at nr
  have f31 : I0 (m + 31) = va_up (I (m + 31)) R (nI w) := by rw [← hI0, va_up_n _ _ (by omega), va_up_n _ _ (by omega), va_up_s]
  have f32 : I0 (m + 32) = va_up (I (m + 32)) R (nI sh) := by rw [← hI0, va_up_n _ _ (by omega), va_up_s]
  have fm : I0 m = va_up (I m) 36 (nI (R + 1)) := by rw [← hI0, va_up_s]
  have fo : ∀ p, p ≠ m → p ≠ m + 31 → p ≠ m + 32 → I0 p = I p := fun p p1 p2 p3 => by rw [← hI0, va_up_n _ _ p1, va_up_n _ _ p3, va_up_n _ _ p2]
  have e := lx_mcut (g := g) (J := J) (s := s) (i := i) (I0 := I0) (F := fun j => I (m + 33) (64 * r + j)) hM (show k < 8 by omega) (by omega) hrR h43 (show w ≤ 64 by omega) (fun j _ => by rw [fo _ (by omega) (by omega) (by omega)]) w 0 (by omega)
  rw [sgp_0, va_up_id] at e
  generalize hI2 : mo_st (va_up (va_up I0 (m + 33) (sgp (I0 (m + 33)) (64 * R) w (fun j => I (m + 33) (64 * r + j)))) (m + 30) (va_up (I0 (m + 30)) (250 * k + i) (nI (R + 1)))) m (nI 0) = I2 at e
  refine ⟨I2, ⟨?_, ?_, ?_, ?_, ?_, fun p p1 p2 => ?_⟩, ?_⟩
  rotate_left 6
  · refine ct_of (lv := [some (.ref m), some (.int (nI k)), some (.int (nI i)), some (.int (nI w)), none, none, none, none]) (by decide +kernel) (Nat.le_of_ble_eq_true rfl) rfl ?_
    refine ev_aload_n 1 dX12_cut_0 rfl rfl ?_
    refine ev_iload_n 2 dX12_cut_1 rfl rfl ?_
    refine ev_iload_n 3 dX12_cut_2 rfl rfl ?_
    refine ev_invV 6 (Mc := mX12_isFrame) ⟨lk1728, lk80, hdX12_isFrame, (Nat.le_of_ble_eq_true rfl), (Nat.le_of_ble_eq_true rfl)⟩ lk1725 lk1727 lk62 mm_cl12 rfl dX12_cut_3 (hf) rfl (hM.1 0 _ rfl) (Nat.le_of_ble_eq_true rfl) rfl rfl ?_
    refine ev_if_neN 9 15 dX12_cut_6 (by decide) (by omega) rfl (fun hbr => ?_) (fun hx => absurd hx ((by omega)))
    refine ev_aload_n 16 dX12_cut_15 rfl rfl ?_
    refine ev_getP 19 mm_cl12 (j := 35) (Nat.le_of_ble_eq_true rfl) dX12_cut_16 lk1320 (fun _ _ _ => rfl) (hM.1 0 _ rfl) (a := (m + 30)) (hM.2.2 29 _ _ _ rfl) rfl ?_
    refine ev_sipushN 22 250 dX12_cut_19 (by decide +kernel) rfl ?_
    refine ev_iload_n 23 dX12_cut_22 rfl rfl ?_
    refine ev_imulN 24 dX12_cut_23 rfl ?_
    refine ev_iload_n 25 dX12_cut_24 rfl rfl ?_
    refine ev_iaddN 26 dX12_cut_25 rfl ?_
    refine ev_iald 27 _ dX12_cut_26 (hM.1 30 _ rfl) rfl (by have hNN := hM.2.1 30 _ rfl; omega) rfl ?_
    refine ev_iconstN 28 1 dX12_cut_27 rfl ?_
    refine ev_isub 29 dX12_cut_28 rfl ?_
    refine ev_eqI (y := nI (r)) ((by rw [hr]; exact nI_s1 r)) ?_
    refine ev_istore 31 (lv' := [_, _, _, some (.int _), _, _, _, _]) dX12_cut_29 (Nat.le_of_ble_eq_true rfl) rfl rfl ?_
    refine ev_iload 33 dX12_cut_31 rfl rfl ?_
    refine ev_if_geN 36 43 dX12_cut_33 (by decide) (by omega) rfl (fun hbr => ?_) (fun hx => absurd (trivial) hx)
    refine ev_aload_n 44 dX12_cut_43 rfl rfl ?_
    refine ev_getP 47 mm_cl12 (j := 37) (Nat.le_of_ble_eq_true rfl) dX12_cut_44 lk1322 (fun _ _ _ => rfl) (hM.1 0 _ rfl) (a := (m + 31)) (hM.2.2 30 _ _ _ rfl) rfl ?_
    refine ev_iload 49 dX12_cut_47 rfl rfl ?_
    refine ev_iald 50 _ dX12_cut_49 (hM.1 31 _ rfl) rfl (by have hNN := hM.2.1 31 _ rfl; omega) rfl ?_
    refine ev_eqI (y := nI (s)) (hv) ?_
    refine ev_istore 52 (lv' := [_, _, _, _, some (.int _), _, _, _]) dX12_cut_50 (Nat.le_of_ble_eq_true rfl) rfl rfl ?_
    refine ev_iload_n 53 dX12_cut_52 rfl rfl ?_
    refine ev_iconstN 54 0 dX12_cut_53 rfl ?_
    refine ev_iload 56 dX12_cut_54 rfl rfl ?_
    refine ev_invS 59 (Mc := mX12_in) ⟨lk1536, lk80, hdX12_in, (Nat.le_of_ble_eq_true rfl), (Nat.le_of_ble_eq_true rfl)⟩ lk1534 lk1535 dX12_cut_56 (ct_X12_in_t (in_t (by omega) hw (by omega))) rfl (Nat.le_of_ble_eq_true rfl) rfl rfl ?_
    refine ev_if_neN 62 68 dX12_cut_59 (by decide) (by omega) rfl (fun hbr => ?_) (fun hx => absurd hx ((by omega)))
    refine ev_aload_n 69 dX12_cut_68 rfl rfl ?_
    refine ev_iload_n 70 dX12_cut_69 rfl rfl ?_
    refine ev_aload_n 71 dX12_cut_70 rfl rfl ?_
    refine ev_getP 74 mm_cl12 (j := 38) (Nat.le_of_ble_eq_true rfl) dX12_cut_71 lk1323 (fun _ _ _ => rfl) (hM.1 0 _ rfl) (a := (m + 32)) (hM.2.2 31 _ _ _ rfl) rfl ?_
    refine ev_iload 76 dX12_cut_74 rfl rfl ?_
    refine ev_zald 77 _ dX12_cut_76 (hM.1 32 _ rfl) rfl (by have hNN := hM.2.1 32 _ rfl; omega) rfl ?_
    refine ev_eqI (y := nI (sh)) (hsh) ?_
    refine ev_invV 80 (Mc := mX12_newRow) ⟨lk1614, lk80, hdX12_newRow, (Nat.le_of_ble_eq_true rfl), (Nat.le_of_ble_eq_true rfl)⟩ lk1611 lk1613 lk43 mm_cl12 rfl dX12_cut_77 (nr) rfl (hM.1 0 _ rfl) (Nat.le_of_ble_eq_true rfl) rfl rfl ?_
    refine ev_istore 82 (lv' := [_, _, _, _, _, some (.int _), _, _]) dX12_cut_80 (Nat.le_of_ble_eq_true rfl) rfl rfl ?_
    refine ev_iconstN 83 0 dX12_cut_82 rfl ?_
    refine ev_istore 85 (lv' := [_, _, _, _, _, _, some (.int _), _]) dX12_cut_83 (Nat.le_of_ble_eq_true rfl) rfl rfl ?_
    exact e
  · rw [← hI2]
    refine (va_up_n _ _ (by omega)).trans ?_
    rw [va_up_n _ _ (by omega), va_up_n _ _ (by omega)]; exact f31
  · rw [← hI2]
    refine (va_up_n _ _ (by omega)).trans ?_
    rw [va_up_n _ _ (by omega), va_up_n _ _ (by omega)]; exact f32
  · rw [← hI2]
    refine (va_up_n _ _ (by omega)).trans ?_
    rw [va_up_n _ _ (by omega), va_up_s, fo _ (by omega) (by omega) (by omega)]
  · rw [← hI2]
    refine (va_up_n _ _ (by omega)).trans ?_
    rw [va_up_s, fo _ (by omega) (by omega) (by omega)]
  · rw [← hI2]
    refine (va_up_s _ _ _).trans ?_
    rw [va_up_n _ _ (by omega), va_up_n _ _ (by omega), fm]
  · rw [← hI2]
    refine (va_up_n _ _ p1).trans ?_
    rw [va_up_n _ _ (by omega), va_up_n _ _ (by omega)]; exact fo p p1 (by omega) (by omega)
theorem ml_shorts_f {c i : Int32} (hM : lyM B P m) (hf : Ct g mX12_isFrame [.ref m, .int c, .int i] B I J P (some (.int (nI 0)), B, I, J, P)) : Ct g mX12_shorts [.ref m, .int c, .int i] B I J P (some (.int (-1)), B, mo_st I m (-1), J, P) := by
  refine ct_of (lv := [some (.ref m), some (.int (c)), some (.int (i)), none, none, none]) (by decide +kernel) (Nat.le_of_ble_eq_true rfl) rfl ?_
  refine ev_aload_n 1 dX12_shorts_0 rfl rfl ?_
  refine ev_iload_n 2 dX12_shorts_1 rfl rfl ?_
  refine ev_iload_n 3 dX12_shorts_2 rfl rfl ?_
  refine ev_invV 6 (Mc := mX12_isFrame) ⟨lk1728, lk80, hdX12_isFrame, (Nat.le_of_ble_eq_true rfl), (Nat.le_of_ble_eq_true rfl)⟩ lk1725 lk1727 lk62 mm_cl12 rfl dX12_shorts_3 (hf) rfl (hM.1 0 _ rfl) (Nat.le_of_ble_eq_true rfl) rfl rfl ?_
  refine ev_if_neN 9 15 dX12_shorts_6 (by decide) (by omega) rfl (fun hx => absurd ((by omega)) hx) (fun hbr => ?_)
  refine ev_aload_n 10 dX12_shorts_9 rfl rfl ?_
  refine ev_iconst 11 (v := -1) dX12_shorts_10 (by decide +kernel) rfl ?_
  refine ev_invV 14 (Mc := mX12_refused) ⟨lk1540, lk80, hdX12_refused, (Nat.le_of_ble_eq_true rfl), (Nat.le_of_ble_eq_true rfl)⟩ lk1537 lk1539 lk38 mm_cl12 rfl dX12_shorts_11 (ct_X12_refused hM) rfl (hM.1 0 _ rfl) (Nat.le_of_ble_eq_true rfl) rfl rfl ?_
  exact ev_iret dX12_shorts_14 rfl (rfl)
theorem ml_shorts_0 (h : MA B I P m n k) (hL : I (m + 28) k = nI L) (hl : L ≤ 250) (hi : i < L) (hr : I (m + 30) (250 * k + i) = nI 0) : Ct g mX12_shorts [.ref m, .int (nI k), .int (nI i)] B I J P (some (.int (-2)), B, mo_st I m (-2), J, P) := by
  have hf := ct_isFrame_t (g := g) (J := J) h hL hl hi
  obtain ⟨hM, hn, h8, hk⟩ := h
  refine ct_of (lv := [some (.ref m), some (.int (nI (k))), some (.int (nI (i))), none, none, none]) (by decide +kernel) (Nat.le_of_ble_eq_true rfl) rfl ?_
  refine ev_aload_n 1 dX12_shorts_0 rfl rfl ?_
  refine ev_iload_n 2 dX12_shorts_1 rfl rfl ?_
  refine ev_iload_n 3 dX12_shorts_2 rfl rfl ?_
  refine ev_invV 6 (Mc := mX12_isFrame) ⟨lk1728, lk80, hdX12_isFrame, (Nat.le_of_ble_eq_true rfl), (Nat.le_of_ble_eq_true rfl)⟩ lk1725 lk1727 lk62 mm_cl12 rfl dX12_shorts_3 (hf) rfl (hM.1 0 _ rfl) (Nat.le_of_ble_eq_true rfl) rfl rfl ?_
  refine ev_if_neN 9 15 dX12_shorts_6 (by decide) (by omega) rfl (fun hbr => ?_) (fun hx => absurd hx ((by omega)))
  refine ev_aload_n 16 dX12_shorts_15 rfl rfl ?_
  refine ev_getP 19 mm_cl12 (j := 35) (Nat.le_of_ble_eq_true rfl) dX12_shorts_16 lk1320 (fun _ _ _ => rfl) (hM.1 0 _ rfl) (a := (m + 30)) (hM.2.2 29 _ _ _ rfl) rfl ?_
  refine ev_sipushN 22 250 dX12_shorts_19 (by decide +kernel) rfl ?_
  refine ev_iload_n 23 dX12_shorts_22 rfl rfl ?_
  refine ev_imulN 24 dX12_shorts_23 rfl ?_
  refine ev_iload_n 25 dX12_shorts_24 rfl rfl ?_
  refine ev_iaddN 26 dX12_shorts_25 rfl ?_
  refine ev_iald 27 _ dX12_shorts_26 (hM.1 30 _ rfl) rfl (by have hNN := hM.2.1 30 _ rfl; omega) rfl ?_
  refine ev_iconstN 28 1 dX12_shorts_27 rfl ?_
  refine ev_isub 29 dX12_shorts_28 rfl ?_
  refine ev_eqI (y := ((nI 0 - nI 1))) ((by rw [hr])) ?_
  refine ev_istore_n 30 (lv' := [_, _, some (.int _), _, _, _]) dX12_shorts_29 (Nat.le_of_ble_eq_true rfl) rfl rfl ?_
  refine ev_iload_n 31 dX12_shorts_30 rfl rfl ?_
  refine ev_if_lt 34 43 dX12_shorts_31 (by decide) rfl (fun hbr => ?_) (fun hx => absurd ((by decide)) hx)
  refine ev_aload_n 44 dX12_shorts_43 rfl rfl ?_
  refine ev_bipush 46 (v := -2) dX12_shorts_44 (by decide +kernel) rfl ?_
  refine ev_invV 49 (Mc := mX12_refused) ⟨lk1540, lk80, hdX12_refused, (Nat.le_of_ble_eq_true rfl), (Nat.le_of_ble_eq_true rfl)⟩ lk1537 lk1539 lk38 mm_cl12 rfl dX12_shorts_46 (ct_X12_refused hM) rfl (hM.1 0 _ rfl) (Nat.le_of_ble_eq_true rfl) rfl rfl ?_
  exact ev_iret dX12_shorts_49 rfl (rfl)
theorem ml_shorts_s {r : Nat} (h : MA B I P m n k) (hL : I (m + 28) k = nI L) (hl : L ≤ 250) (hi : i < L) (hR : r < 4300) (hr : I (m + 30) (250 * k + i) = nI (r + 1)) (hsh : I (m + 32) r = nI 1) : Ct g mX12_shorts [.ref m, .int (nI k), .int (nI i)] B I J P (some (.int (-2)), B, mo_st I m (-2), J, P) := by
  have hf := ct_isFrame_t (g := g) (J := J) h hL hl hi
  obtain ⟨hM, hn, h8, hk⟩ := h
  refine ct_of (lv := [some (.ref m), some (.int (nI (k))), some (.int (nI (i))), none, none, none]) (by decide +kernel) (Nat.le_of_ble_eq_true rfl) rfl ?_
  refine ev_aload_n 1 dX12_shorts_0 rfl rfl ?_
  refine ev_iload_n 2 dX12_shorts_1 rfl rfl ?_
  refine ev_iload_n 3 dX12_shorts_2 rfl rfl ?_
  refine ev_invV 6 (Mc := mX12_isFrame) ⟨lk1728, lk80, hdX12_isFrame, (Nat.le_of_ble_eq_true rfl), (Nat.le_of_ble_eq_true rfl)⟩ lk1725 lk1727 lk62 mm_cl12 rfl dX12_shorts_3 (hf) rfl (hM.1 0 _ rfl) (Nat.le_of_ble_eq_true rfl) rfl rfl ?_
  refine ev_if_neN 9 15 dX12_shorts_6 (by decide) (by omega) rfl (fun hbr => ?_) (fun hx => absurd hx ((by omega)))
  refine ev_aload_n 16 dX12_shorts_15 rfl rfl ?_
  refine ev_getP 19 mm_cl12 (j := 35) (Nat.le_of_ble_eq_true rfl) dX12_shorts_16 lk1320 (fun _ _ _ => rfl) (hM.1 0 _ rfl) (a := (m + 30)) (hM.2.2 29 _ _ _ rfl) rfl ?_
  refine ev_sipushN 22 250 dX12_shorts_19 (by decide +kernel) rfl ?_
  refine ev_iload_n 23 dX12_shorts_22 rfl rfl ?_
  refine ev_imulN 24 dX12_shorts_23 rfl ?_
  refine ev_iload_n 25 dX12_shorts_24 rfl rfl ?_
  refine ev_iaddN 26 dX12_shorts_25 rfl ?_
  refine ev_iald 27 _ dX12_shorts_26 (hM.1 30 _ rfl) rfl (by have hNN := hM.2.1 30 _ rfl; omega) rfl ?_
  refine ev_iconstN 28 1 dX12_shorts_27 rfl ?_
  refine ev_isub 29 dX12_shorts_28 rfl ?_
  refine ev_eqI (y := nI (r)) ((by rw [hr]; exact nI_s1 r)) ?_
  refine ev_istore_n 30 (lv' := [_, _, some (.int _), _, _, _]) dX12_shorts_29 (Nat.le_of_ble_eq_true rfl) rfl rfl ?_
  refine ev_iload_n 31 dX12_shorts_30 rfl rfl ?_
  refine ev_if_ltN 34 43 dX12_shorts_31 (by decide) (by omega) rfl (fun hx => absurd hx (not_false)) (fun hbr => ?_)
  refine ev_aload_n 35 dX12_shorts_34 rfl rfl ?_
  refine ev_getP 38 mm_cl12 (j := 38) (Nat.le_of_ble_eq_true rfl) dX12_shorts_35 lk1323 (fun _ _ _ => rfl) (hM.1 0 _ rfl) (a := (m + 32)) (hM.2.2 31 _ _ _ rfl) rfl ?_
  refine ev_iload_n 39 dX12_shorts_38 rfl rfl ?_
  refine ev_zald 40 _ dX12_shorts_39 (hM.1 32 _ rfl) rfl (by have hNN := hM.2.1 32 _ rfl; omega) rfl ?_
  refine ev_eqI (y := nI (1)) (hsh) ?_
  refine ev_if_eqN 43 50 dX12_shorts_40 (by decide) (by omega) rfl (fun hx => absurd hx ((by omega))) (fun hbr => ?_)
  refine ev_aload_n 44 dX12_shorts_43 rfl rfl ?_
  refine ev_bipush 46 (v := -2) dX12_shorts_44 (by decide +kernel) rfl ?_
  refine ev_invV 49 (Mc := mX12_refused) ⟨lk1540, lk80, hdX12_refused, (Nat.le_of_ble_eq_true rfl), (Nat.le_of_ble_eq_true rfl)⟩ lk1537 lk1539 lk38 mm_cl12 rfl dX12_shorts_46 (ct_X12_refused hM) rfl (hM.1 0 _ rfl) (Nat.le_of_ble_eq_true rfl) rfl rfl ?_
  exact ev_iret dX12_shorts_49 rfl (rfl)
theorem lx_mshorts {r s R : Nat} {I0 : mm_TI} {F : Nat → Int32} (hM : lyM B P m) (hk : k < 8) (hi : i < 250) (hrR : r < R) (h43 : R < 4300) (hs : s ≤ 64) (hv : I0 (m + 31) r = nI s) (hF : ∀ j, j < s → I0 (m + 33) (64 * r + j) = F j) : ∀ (d j : Nat), j + d = s →
    Ev g mX12_shorts 66 [some (.ref m), some (.int (nI k)), some (.int (nI i)), some (.int (nI r)), some (.int (nI R)), some (.int (nI j))] [] B (va_up I0 (m + 33) (sgp (I0 (m + 33)) (64 * R) j F)) J P (some (.int (nI 1)), B, mo_st (va_up (va_up I0 (m + 33) (sgp (I0 (m + 33)) (64 * R) s F)) (m + 30) (va_up (I0 (m + 30)) (250 * k + i) (nI (R + 1)))) m (nI 0), J, P) := by
  intro d
  induction d with
  | zero =>
    intro j hj
    obtain rfl : j = s := by omega
    refine ev_iload 68 dX12_shorts_66 rfl rfl ?_
    refine ev_aload_n 69 dX12_shorts_68 rfl rfl ?_
    refine ev_getP 72 mm_cl12 (j := 37) (Nat.le_of_ble_eq_true rfl) dX12_shorts_69 lk1322 (fun _ _ _ => rfl) (hM.1 0 _ rfl) (a := (m + 31)) (hM.2.2 30 _ _ _ rfl) rfl ?_
    refine ev_iload_n 73 dX12_shorts_72 rfl rfl ?_
    refine ev_iald 74 _ dX12_shorts_73 (hM.1 31 _ rfl) rfl (by have hNN := hM.2.1 31 _ rfl; omega) rfl ?_
    refine ev_eqI (y := nI (j)) ((by rw [va_up_n _ _ (by omega)]; exact hv)) ?_
    refine ev_icmp_geN 77 108 dX12_shorts_74 (by decide) (by omega) (by omega) rfl (fun hbr => ?_) (fun hx => absurd ((by omega)) hx)
    refine ev_aload_n 109 dX12_shorts_108 rfl rfl ?_
    refine ev_getP 112 mm_cl12 (j := 35) (Nat.le_of_ble_eq_true rfl) dX12_shorts_109 lk1320 (fun _ _ _ => rfl) (hM.1 0 _ rfl) (a := (m + 30)) (hM.2.2 29 _ _ _ rfl) rfl ?_
    refine ev_sipushN 115 250 dX12_shorts_112 (by decide +kernel) rfl ?_
    refine ev_iload_n 116 dX12_shorts_115 rfl rfl ?_
    refine ev_imulN 117 dX12_shorts_116 rfl ?_
    refine ev_iload_n 118 dX12_shorts_117 rfl rfl ?_
    refine ev_iaddN 119 dX12_shorts_118 rfl ?_
    refine ev_iload 121 dX12_shorts_119 rfl rfl ?_
    refine ev_iconstN 122 1 dX12_shorts_121 rfl ?_
    refine ev_iaddN 123 dX12_shorts_122 rfl ?_
    refine ev_iast 124 _ dX12_shorts_123 (hM.1 30 _ rfl) rfl (by have hNN := hM.2.1 30 _ rfl; omega) rfl ?_
    rw [va_up_n _ _ (show m + 30 ≠ m + 33 by omega)]
    refine ev_aload_n 125 dX12_shorts_124 rfl rfl ?_
    refine ev_iconstN 126 1 dX12_shorts_125 rfl ?_
    refine ev_invV 129 (Mc := mX12_done) ⟨lk1544, lk80, hdX12_done, (Nat.le_of_ble_eq_true rfl), (Nat.le_of_ble_eq_true rfl)⟩ lk1541 lk1543 lk39 mm_cl12 rfl dX12_shorts_126 (ct_X12_done hM) rfl (hM.1 0 _ rfl) (Nat.le_of_ble_eq_true rfl) rfl rfl ?_
    exact ev_iret dX12_shorts_129 rfl (rfl)
  | succ d ih =>
    intro j hj
    have e := ih (j + 1) (by omega)
    refine ev_iload 68 dX12_shorts_66 rfl rfl ?_
    refine ev_aload_n 69 dX12_shorts_68 rfl rfl ?_
    refine ev_getP 72 mm_cl12 (j := 37) (Nat.le_of_ble_eq_true rfl) dX12_shorts_69 lk1322 (fun _ _ _ => rfl) (hM.1 0 _ rfl) (a := (m + 31)) (hM.2.2 30 _ _ _ rfl) rfl ?_
    refine ev_iload_n 73 dX12_shorts_72 rfl rfl ?_
    refine ev_iald 74 _ dX12_shorts_73 (hM.1 31 _ rfl) rfl (by have hNN := hM.2.1 31 _ rfl; omega) rfl ?_
    refine ev_eqI (y := nI (s)) ((by rw [va_up_n _ _ (by omega)]; exact hv)) ?_
    refine ev_icmp_geN 77 108 dX12_shorts_74 (by decide) (by omega) (by omega) rfl (fun hx => absurd hx ((by omega))) (fun hbr => ?_)
    refine ev_aload_n 78 dX12_shorts_77 rfl rfl ?_
    refine ev_getP 81 mm_cl12 (j := 39) (Nat.le_of_ble_eq_true rfl) dX12_shorts_78 lk1324 (fun _ _ _ => rfl) (hM.1 0 _ rfl) (a := (m + 33)) (hM.2.2 32 _ _ _ rfl) rfl ?_
    refine ev_bipushN 83 64 dX12_shorts_81 (by decide +kernel) rfl ?_
    refine ev_iload 85 dX12_shorts_83 rfl rfl ?_
    refine ev_imulN 86 dX12_shorts_85 rfl ?_
    refine ev_iload 88 dX12_shorts_86 rfl rfl ?_
    refine ev_iaddN 89 dX12_shorts_88 rfl ?_
    refine ev_aload_n 90 dX12_shorts_89 rfl rfl ?_
    refine ev_getP 93 mm_cl12 (j := 39) (Nat.le_of_ble_eq_true rfl) dX12_shorts_90 lk1324 (fun _ _ _ => rfl) (hM.1 0 _ rfl) (a := (m + 33)) (hM.2.2 32 _ _ _ rfl) rfl ?_
    refine ev_bipushN 95 64 dX12_shorts_93 (by decide +kernel) rfl ?_
    refine ev_iload_n 96 dX12_shorts_95 rfl rfl ?_
    refine ev_imulN 97 dX12_shorts_96 rfl ?_
    refine ev_iload 99 dX12_shorts_97 rfl rfl ?_
    refine ev_iaddN 100 dX12_shorts_99 rfl ?_
    refine ev_iald 101 _ dX12_shorts_100 (hM.1 33 _ rfl) rfl (by have hNN := hM.2.1 33 _ rfl; omega) rfl ?_
    refine ev_eqI (y := ((F j))) ((by rw [va_up_s, sgp_out (by omega)]; exact hF j (by omega))) ?_
    refine ev_iast 102 _ dX12_shorts_101 (hM.1 33 _ rfl) rfl (by have hNN := hM.2.1 33 _ rfl; omega) rfl ?_
    rw [va_up_s, bx_uu, sgp_grow rfl]
    refine ev_iincN 105 (lv' := [_, _, _, _, some (.int _), _]) 1 dX12_shorts_102 rfl (Nat.le_of_ble_eq_true rfl) rfl rfl ?_
    refine ev_goto 66 dX12_shorts_105 (by decide) ?_
    exact e
theorem cx_mshorts {r s R : Nat} (h : MA B I P m n k) (hL : I (m + 28) k = nI L) (hl : L ≤ 250) (hi : i < L) (hrR : r < R) (h43 : R < 4300) (hs : s ≤ 64) (hr : I (m + 30) (250 * k + i) = nI (r + 1)) (hv : I (m + 31) r = nI s) (hsh : I (m + 32) r = nI 0) (hR : I m 36 = nI R) :
    ∃ I2 : mm_TI, MNr m R s 1 (250 * k + i) (fun j => I (m + 33) (64 * r + j)) I I2 ∧ Ct g mX12_shorts [.ref m, .int (nI k), .int (nI i)] B I J P (some (.int (nI 1)), B, I2, J, P) := by
  have hf := ct_isFrame_t (g := g) (J := J) h hL hl hi
  obtain ⟨hM, hn, h8, hk⟩ := h
  generalize hI0 : va_up (va_up (va_up I (m + 31) (va_up (I (m + 31)) R (nI s))) (m + 32) (va_up (I (m + 32)) R (nI 1))) m (va_up (I m) 36 (nI (R + 1))) = I0
  have nr := ct_X12_newRow (g := g) (J := J) (n := s) (s := 1) hM hR h43 (by omega)
  rw [hI0] at nr
  have f31 : I0 (m + 31) = va_up (I (m + 31)) R (nI s) := by rw [← hI0, va_up_n _ _ (by omega), va_up_n _ _ (by omega), va_up_s]
  have f32 : I0 (m + 32) = va_up (I (m + 32)) R (nI 1) := by rw [← hI0, va_up_n _ _ (by omega), va_up_s]
  have fm : I0 m = va_up (I m) 36 (nI (R + 1)) := by rw [← hI0, va_up_s]
  have fo : ∀ p, p ≠ m → p ≠ m + 31 → p ≠ m + 32 → I0 p = I p := fun p p1 p2 p3 => by rw [← hI0, va_up_n _ _ p1, va_up_n _ _ p3, va_up_n _ _ p2]
  have e := lx_mshorts (g := g) (J := J) (i := i) (I0 := I0) (F := fun j => I (m + 33) (64 * r + j)) hM (show k < 8 by omega) (by omega) hrR h43 hs (by rw [f31, va_up_n _ _ (by omega)]; exact hv) (fun j _ => by rw [fo _ (by omega) (by omega) (by omega)]) s 0 (by omega)
  rw [sgp_0, va_up_id] at e
  generalize hI2 : mo_st (va_up (va_up I0 (m + 33) (sgp (I0 (m + 33)) (64 * R) s (fun j => I (m + 33) (64 * r + j)))) (m + 30) (va_up (I0 (m + 30)) (250 * k + i) (nI (R + 1)))) m (nI 0) = I2 at e
  refine ⟨I2, ⟨?_, ?_, ?_, ?_, ?_, fun p p1 p2 => ?_⟩, ?_⟩
  rotate_left 6
  · refine ct_of (lv := [some (.ref m), some (.int (nI k)), some (.int (nI i)), none, none, none]) (by decide +kernel) (Nat.le_of_ble_eq_true rfl) rfl ?_
    refine ev_aload_n 1 dX12_shorts_0 rfl rfl ?_
    refine ev_iload_n 2 dX12_shorts_1 rfl rfl ?_
    refine ev_iload_n 3 dX12_shorts_2 rfl rfl ?_
    refine ev_invV 6 (Mc := mX12_isFrame) ⟨lk1728, lk80, hdX12_isFrame, (Nat.le_of_ble_eq_true rfl), (Nat.le_of_ble_eq_true rfl)⟩ lk1725 lk1727 lk62 mm_cl12 rfl dX12_shorts_3 (hf) rfl (hM.1 0 _ rfl) (Nat.le_of_ble_eq_true rfl) rfl rfl ?_
    refine ev_if_neN 9 15 dX12_shorts_6 (by decide) (by omega) rfl (fun hbr => ?_) (fun hx => absurd hx ((by omega)))
    refine ev_aload_n 16 dX12_shorts_15 rfl rfl ?_
    refine ev_getP 19 mm_cl12 (j := 35) (Nat.le_of_ble_eq_true rfl) dX12_shorts_16 lk1320 (fun _ _ _ => rfl) (hM.1 0 _ rfl) (a := (m + 30)) (hM.2.2 29 _ _ _ rfl) rfl ?_
    refine ev_sipushN 22 250 dX12_shorts_19 (by decide +kernel) rfl ?_
    refine ev_iload_n 23 dX12_shorts_22 rfl rfl ?_
    refine ev_imulN 24 dX12_shorts_23 rfl ?_
    refine ev_iload_n 25 dX12_shorts_24 rfl rfl ?_
    refine ev_iaddN 26 dX12_shorts_25 rfl ?_
    refine ev_iald 27 _ dX12_shorts_26 (hM.1 30 _ rfl) rfl (by have hNN := hM.2.1 30 _ rfl; omega) rfl ?_
    refine ev_iconstN 28 1 dX12_shorts_27 rfl ?_
    refine ev_isub 29 dX12_shorts_28 rfl ?_
    refine ev_eqI (y := nI (r)) ((by rw [hr]; exact nI_s1 r)) ?_
    refine ev_istore_n 30 (lv' := [_, _, some (.int _), _, _, _]) dX12_shorts_29 (Nat.le_of_ble_eq_true rfl) rfl rfl ?_
    refine ev_iload_n 31 dX12_shorts_30 rfl rfl ?_
    refine ev_if_ltN 34 43 dX12_shorts_31 (by decide) (by omega) rfl (fun hx => absurd hx (not_false)) (fun hbr => ?_)
    refine ev_aload_n 35 dX12_shorts_34 rfl rfl ?_
    refine ev_getP 38 mm_cl12 (j := 38) (Nat.le_of_ble_eq_true rfl) dX12_shorts_35 lk1323 (fun _ _ _ => rfl) (hM.1 0 _ rfl) (a := (m + 32)) (hM.2.2 31 _ _ _ rfl) rfl ?_
    refine ev_iload_n 39 dX12_shorts_38 rfl rfl ?_
    refine ev_zald 40 _ dX12_shorts_39 (hM.1 32 _ rfl) rfl (by have hNN := hM.2.1 32 _ rfl; omega) rfl ?_
    refine ev_eqI (y := nI (0)) (hsh) ?_
    refine ev_if_eqN 43 50 dX12_shorts_40 (by decide) (by omega) rfl (fun hbr => ?_) (fun hx => absurd ((by omega)) hx)
    refine ev_aload_n 51 dX12_shorts_50 rfl rfl ?_
    refine ev_aload_n 52 dX12_shorts_51 rfl rfl ?_
    refine ev_getP 55 mm_cl12 (j := 37) (Nat.le_of_ble_eq_true rfl) dX12_shorts_52 lk1322 (fun _ _ _ => rfl) (hM.1 0 _ rfl) (a := (m + 31)) (hM.2.2 30 _ _ _ rfl) rfl ?_
    refine ev_iload_n 56 dX12_shorts_55 rfl rfl ?_
    refine ev_iald 57 _ dX12_shorts_56 (hM.1 31 _ rfl) rfl (by have hNN := hM.2.1 31 _ rfl; omega) rfl ?_
    refine ev_eqI (y := nI (s)) (hv) ?_
    refine ev_iconstN 58 1 dX12_shorts_57 rfl ?_
    refine ev_invV 61 (Mc := mX12_newRow) ⟨lk1614, lk80, hdX12_newRow, (Nat.le_of_ble_eq_true rfl), (Nat.le_of_ble_eq_true rfl)⟩ lk1611 lk1613 lk43 mm_cl12 rfl dX12_shorts_58 (nr) rfl (hM.1 0 _ rfl) (Nat.le_of_ble_eq_true rfl) rfl rfl ?_
    refine ev_istore 63 (lv' := [_, _, _, some (.int _), _, _]) dX12_shorts_61 (Nat.le_of_ble_eq_true rfl) rfl rfl ?_
    refine ev_iconstN 64 0 dX12_shorts_63 rfl ?_
    refine ev_istore 66 (lv' := [_, _, _, _, some (.int _), _]) dX12_shorts_64 (Nat.le_of_ble_eq_true rfl) rfl rfl ?_
    exact e
  · rw [← hI2]
    refine (va_up_n _ _ (by omega)).trans ?_
    rw [va_up_n _ _ (by omega), va_up_n _ _ (by omega)]; exact f31
  · rw [← hI2]
    refine (va_up_n _ _ (by omega)).trans ?_
    rw [va_up_n _ _ (by omega), va_up_n _ _ (by omega)]; exact f32
  · rw [← hI2]
    refine (va_up_n _ _ (by omega)).trans ?_
    rw [va_up_n _ _ (by omega), va_up_s, fo _ (by omega) (by omega) (by omega)]
  · rw [← hI2]
    refine (va_up_n _ _ (by omega)).trans ?_
    rw [va_up_s, fo _ (by omega) (by omega) (by omega)]
  · rw [← hI2]
    refine (va_up_s _ _ _).trans ?_
    rw [va_up_n _ _ (by omega), va_up_n _ _ (by omega), fm]
  · rw [← hI2]
    refine (va_up_n _ _ p1).trans ?_
    rw [va_up_n _ _ (by omega), va_up_n _ _ (by omega)]; exact fo p p1 (by omega) (by omega)
theorem ml_damage_f {c i j w : Int32} (hM : lyM B P m) (hf : Ct g mX12_isFrame [.ref m, .int c, .int i] B I J P (some (.int (nI 0)), B, I, J, P)) : Ct g mX12_damage [.ref m, .int c, .int i, .int j, .int w] B I J P (some (.int (-1)), B, mo_st I m (-1), J, P) := by
  refine ct_of (lv := [some (.ref m), some (.int (c)), some (.int (i)), some (.int (j)), some (.int (w)), none]) (by decide +kernel) (Nat.le_of_ble_eq_true rfl) rfl ?_
  refine ev_aload_n 1 dX12_damage_0 rfl rfl ?_
  refine ev_iload_n 2 dX12_damage_1 rfl rfl ?_
  refine ev_iload_n 3 dX12_damage_2 rfl rfl ?_
  refine ev_invV 6 (Mc := mX12_isFrame) ⟨lk1728, lk80, hdX12_isFrame, (Nat.le_of_ble_eq_true rfl), (Nat.le_of_ble_eq_true rfl)⟩ lk1725 lk1727 lk62 mm_cl12 rfl dX12_damage_3 (hf) rfl (hM.1 0 _ rfl) (Nat.le_of_ble_eq_true rfl) rfl rfl ?_
  refine ev_if_eqN 9 21 dX12_damage_6 (by decide) (by omega) rfl (fun hbr => ?_) (fun hx => absurd ((by omega)) hx)
  refine ev_aload_n 22 dX12_damage_21 rfl rfl ?_
  refine ev_iconst 23 (v := -1) dX12_damage_22 (by decide +kernel) rfl ?_
  refine ev_invV 26 (Mc := mX12_refused) ⟨lk1540, lk80, hdX12_refused, (Nat.le_of_ble_eq_true rfl), (Nat.le_of_ble_eq_true rfl)⟩ lk1537 lk1539 lk38 mm_cl12 rfl dX12_damage_23 (ct_X12_refused hM) rfl (hM.1 0 _ rfl) (Nat.le_of_ble_eq_true rfl) rfl rfl ?_
  exact ev_iret dX12_damage_26 rfl (rfl)
theorem ml_damage_b {j w : Int32} (h : MA B I P m n k) (hL : I (m + 28) k = nI L) (hl : L ≤ 250) (hi : i < L) (hw : ¬ (nI 1 ≤ w ∧ w ≤ nI 255)) : Ct g mX12_damage [.ref m, .int (nI k), .int (nI i), .int j, .int w] B I J P (some (.int (-1)), B, mo_st I m (-1), J, P) := by
  have hf := ct_isFrame_t (g := g) (J := J) h hL hl hi
  obtain ⟨hM, hn, h8, hk⟩ := h
  refine ct_of (lv := [some (.ref m), some (.int (nI (k))), some (.int (nI (i))), some (.int (j)), some (.int (w)), none]) (by decide +kernel) (Nat.le_of_ble_eq_true rfl) rfl ?_
  refine ev_aload_n 1 dX12_damage_0 rfl rfl ?_
  refine ev_iload_n 2 dX12_damage_1 rfl rfl ?_
  refine ev_iload_n 3 dX12_damage_2 rfl rfl ?_
  refine ev_invV 6 (Mc := mX12_isFrame) ⟨lk1728, lk80, hdX12_isFrame, (Nat.le_of_ble_eq_true rfl), (Nat.le_of_ble_eq_true rfl)⟩ lk1725 lk1727 lk62 mm_cl12 rfl dX12_damage_3 (hf) rfl (hM.1 0 _ rfl) (Nat.le_of_ble_eq_true rfl) rfl rfl ?_
  refine ev_if_eqN 9 21 dX12_damage_6 (by decide) (by omega) rfl (fun hx => absurd hx ((by omega))) (fun hbr => ?_)
  refine ev_iload 11 dX12_damage_9 rfl rfl ?_
  refine ev_iconstN 12 1 dX12_damage_11 rfl ?_
  refine ev_sipushN 15 255 dX12_damage_12 (by decide +kernel) rfl ?_
  refine ev_invS 18 (Mc := mX12_in) ⟨lk1536, lk80, hdX12_in, (Nat.le_of_ble_eq_true rfl), (Nat.le_of_ble_eq_true rfl)⟩ lk1534 lk1535 dX12_damage_15 (ct_X12_in_f hw) rfl (Nat.le_of_ble_eq_true rfl) rfl rfl ?_
  refine ev_if_neN 21 27 dX12_damage_18 (by decide) (by omega) rfl (fun hx => absurd ((by omega)) hx) (fun hbr => ?_)
  refine ev_aload_n 22 dX12_damage_21 rfl rfl ?_
  refine ev_iconst 23 (v := -1) dX12_damage_22 (by decide +kernel) rfl ?_
  refine ev_invV 26 (Mc := mX12_refused) ⟨lk1540, lk80, hdX12_refused, (Nat.le_of_ble_eq_true rfl), (Nat.le_of_ble_eq_true rfl)⟩ lk1537 lk1539 lk38 mm_cl12 rfl dX12_damage_23 (ct_X12_refused hM) rfl (hM.1 0 _ rfl) (Nat.le_of_ble_eq_true rfl) rfl rfl ?_
  exact ev_iret dX12_damage_26 rfl (rfl)
theorem ml_damage_0 {j : Int32} {w : Nat} (h : MA B I P m n k) (hL : I (m + 28) k = nI L) (hl : L ≤ 250) (hi : i < L) (w1 : 1 ≤ w) (w2 : w ≤ 255) (hr : I (m + 30) (250 * k + i) = nI 0) : Ct g mX12_damage [.ref m, .int (nI k), .int (nI i), .int j, .int (nI w)] B I J P (some (.int (-2)), B, mo_st I m (-2), J, P) := by
  have hf := ct_isFrame_t (g := g) (J := J) h hL hl hi
  obtain ⟨hM, hn, h8, hk⟩ := h
  refine ct_of (lv := [some (.ref m), some (.int (nI (k))), some (.int (nI (i))), some (.int (j)), some (.int (nI (w))), none]) (by decide +kernel) (Nat.le_of_ble_eq_true rfl) rfl ?_
  refine ev_aload_n 1 dX12_damage_0 rfl rfl ?_
  refine ev_iload_n 2 dX12_damage_1 rfl rfl ?_
  refine ev_iload_n 3 dX12_damage_2 rfl rfl ?_
  refine ev_invV 6 (Mc := mX12_isFrame) ⟨lk1728, lk80, hdX12_isFrame, (Nat.le_of_ble_eq_true rfl), (Nat.le_of_ble_eq_true rfl)⟩ lk1725 lk1727 lk62 mm_cl12 rfl dX12_damage_3 (hf) rfl (hM.1 0 _ rfl) (Nat.le_of_ble_eq_true rfl) rfl rfl ?_
  refine ev_if_eqN 9 21 dX12_damage_6 (by decide) (by omega) rfl (fun hx => absurd hx ((by omega))) (fun hbr => ?_)
  refine ev_iload 11 dX12_damage_9 rfl rfl ?_
  refine ev_iconstN 12 1 dX12_damage_11 rfl ?_
  refine ev_sipushN 15 255 dX12_damage_12 (by decide +kernel) rfl ?_
  refine ev_invS 18 (Mc := mX12_in) ⟨lk1536, lk80, hdX12_in, (Nat.le_of_ble_eq_true rfl), (Nat.le_of_ble_eq_true rfl)⟩ lk1534 lk1535 dX12_damage_15 (ct_X12_in_t (in_t w1 w2 (by omega))) rfl (Nat.le_of_ble_eq_true rfl) rfl rfl ?_
  refine ev_if_neN 21 27 dX12_damage_18 (by decide) (by omega) rfl (fun hbr => ?_) (fun hx => absurd hx ((by omega)))
  refine ev_aload_n 28 dX12_damage_27 rfl rfl ?_
  refine ev_getP 31 mm_cl12 (j := 35) (Nat.le_of_ble_eq_true rfl) dX12_damage_28 lk1320 (fun _ _ _ => rfl) (hM.1 0 _ rfl) (a := (m + 30)) (hM.2.2 29 _ _ _ rfl) rfl ?_
  refine ev_sipushN 34 250 dX12_damage_31 (by decide +kernel) rfl ?_
  refine ev_iload_n 35 dX12_damage_34 rfl rfl ?_
  refine ev_imulN 36 dX12_damage_35 rfl ?_
  refine ev_iload_n 37 dX12_damage_36 rfl rfl ?_
  refine ev_iaddN 38 dX12_damage_37 rfl ?_
  refine ev_iald 39 _ dX12_damage_38 (hM.1 30 _ rfl) rfl (by have hNN := hM.2.1 30 _ rfl; omega) rfl ?_
  refine ev_iconstN 40 1 dX12_damage_39 rfl ?_
  refine ev_isub 41 dX12_damage_40 rfl ?_
  refine ev_eqI (y := ((nI 0 - nI 1))) ((by rw [hr])) ?_
  refine ev_istore 43 (lv' := [_, _, _, _, some (.int _), _]) dX12_damage_41 (Nat.le_of_ble_eq_true rfl) rfl rfl ?_
  refine ev_iload 45 dX12_damage_43 rfl rfl ?_
  refine ev_if_ge 48 55 dX12_damage_45 (by decide) rfl (fun hx => absurd hx ((by decide))) (fun hbr => ?_)
  refine ev_aload_n 49 dX12_damage_48 rfl rfl ?_
  refine ev_bipush 51 (v := -2) dX12_damage_49 (by decide +kernel) rfl ?_
  refine ev_invV 54 (Mc := mX12_refused) ⟨lk1540, lk80, hdX12_refused, (Nat.le_of_ble_eq_true rfl), (Nat.le_of_ble_eq_true rfl)⟩ lk1537 lk1539 lk38 mm_cl12 rfl dX12_damage_51 (ct_X12_refused hM) rfl (hM.1 0 _ rfl) (Nat.le_of_ble_eq_true rfl) rfl rfl ?_
  exact ev_iret dX12_damage_54 rfl (rfl)
theorem ml_damage_n {j : Int32} {w r s : Nat} (h : MA B I P m n k) (hL : I (m + 28) k = nI L) (hl : L ≤ 250) (hi : i < L) (w1 : 1 ≤ w) (w2 : w ≤ 255) (hR : r < 4300) (hs : s ≤ 64) (hr : I (m + 30) (250 * k + i) = nI (r + 1)) (hv : I (m + 31) r = nI s) (hj : ¬ (0 ≤ j ∧ j < nI s)) : Ct g mX12_damage [.ref m, .int (nI k), .int (nI i), .int j, .int (nI w)] B I J P (some (.int (-4)), B, mo_st I m (-4), J, P) := by
  have hf := ct_isFrame_t (g := g) (J := J) h hL hl hi
  obtain ⟨hM, hn, h8, hk⟩ := h
  refine ct_of (lv := [some (.ref m), some (.int (nI (k))), some (.int (nI (i))), some (.int (j)), some (.int (nI (w))), none]) (by decide +kernel) (Nat.le_of_ble_eq_true rfl) rfl ?_
  refine ev_aload_n 1 dX12_damage_0 rfl rfl ?_
  refine ev_iload_n 2 dX12_damage_1 rfl rfl ?_
  refine ev_iload_n 3 dX12_damage_2 rfl rfl ?_
  refine ev_invV 6 (Mc := mX12_isFrame) ⟨lk1728, lk80, hdX12_isFrame, (Nat.le_of_ble_eq_true rfl), (Nat.le_of_ble_eq_true rfl)⟩ lk1725 lk1727 lk62 mm_cl12 rfl dX12_damage_3 (hf) rfl (hM.1 0 _ rfl) (Nat.le_of_ble_eq_true rfl) rfl rfl ?_
  refine ev_if_eqN 9 21 dX12_damage_6 (by decide) (by omega) rfl (fun hx => absurd hx ((by omega))) (fun hbr => ?_)
  refine ev_iload 11 dX12_damage_9 rfl rfl ?_
  refine ev_iconstN 12 1 dX12_damage_11 rfl ?_
  refine ev_sipushN 15 255 dX12_damage_12 (by decide +kernel) rfl ?_
  refine ev_invS 18 (Mc := mX12_in) ⟨lk1536, lk80, hdX12_in, (Nat.le_of_ble_eq_true rfl), (Nat.le_of_ble_eq_true rfl)⟩ lk1534 lk1535 dX12_damage_15 (ct_X12_in_t (in_t w1 w2 (by omega))) rfl (Nat.le_of_ble_eq_true rfl) rfl rfl ?_
  refine ev_if_neN 21 27 dX12_damage_18 (by decide) (by omega) rfl (fun hbr => ?_) (fun hx => absurd hx ((by omega)))
  refine ev_aload_n 28 dX12_damage_27 rfl rfl ?_
  refine ev_getP 31 mm_cl12 (j := 35) (Nat.le_of_ble_eq_true rfl) dX12_damage_28 lk1320 (fun _ _ _ => rfl) (hM.1 0 _ rfl) (a := (m + 30)) (hM.2.2 29 _ _ _ rfl) rfl ?_
  refine ev_sipushN 34 250 dX12_damage_31 (by decide +kernel) rfl ?_
  refine ev_iload_n 35 dX12_damage_34 rfl rfl ?_
  refine ev_imulN 36 dX12_damage_35 rfl ?_
  refine ev_iload_n 37 dX12_damage_36 rfl rfl ?_
  refine ev_iaddN 38 dX12_damage_37 rfl ?_
  refine ev_iald 39 _ dX12_damage_38 (hM.1 30 _ rfl) rfl (by have hNN := hM.2.1 30 _ rfl; omega) rfl ?_
  refine ev_iconstN 40 1 dX12_damage_39 rfl ?_
  refine ev_isub 41 dX12_damage_40 rfl ?_
  refine ev_eqI (y := nI (r)) ((by rw [hr]; exact nI_s1 r)) ?_
  refine ev_istore 43 (lv' := [_, _, _, _, some (.int _), _]) dX12_damage_41 (Nat.le_of_ble_eq_true rfl) rfl rfl ?_
  refine ev_iload 45 dX12_damage_43 rfl rfl ?_
  refine ev_if_geN 48 55 dX12_damage_45 (by decide) (by omega) rfl (fun hbr => ?_) (fun hx => absurd (trivial) hx)
  refine ev_iload_n 56 dX12_damage_55 rfl rfl ?_
  refine ev_iconstN 57 0 dX12_damage_56 rfl ?_
  refine ev_aload_n 58 dX12_damage_57 rfl rfl ?_
  refine ev_getP 61 mm_cl12 (j := 37) (Nat.le_of_ble_eq_true rfl) dX12_damage_58 lk1322 (fun _ _ _ => rfl) (hM.1 0 _ rfl) (a := (m + 31)) (hM.2.2 30 _ _ _ rfl) rfl ?_
  refine ev_iload 63 dX12_damage_61 rfl rfl ?_
  refine ev_iald 64 _ dX12_damage_63 (hM.1 31 _ rfl) rfl (by have hNN := hM.2.1 31 _ rfl; omega) rfl ?_
  refine ev_eqI (y := ((nI s))) (hv) ?_
  refine ev_iconstN 65 1 dX12_damage_64 rfl ?_
  refine ev_isub 66 dX12_damage_65 rfl ?_
  refine ev_invS 69 (Mc := mX12_in) ⟨lk1536, lk80, hdX12_in, (Nat.le_of_ble_eq_true rfl), (Nat.le_of_ble_eq_true rfl)⟩ lk1534 lk1535 dX12_damage_66 (ct_X12_in_f (nI_inr (by omega) hj)) rfl (Nat.le_of_ble_eq_true rfl) rfl rfl ?_
  refine ev_if_neN 72 79 dX12_damage_69 (by decide) (by omega) rfl (fun hx => absurd ((by omega)) hx) (fun hbr => ?_)
  refine ev_aload_n 73 dX12_damage_72 rfl rfl ?_
  refine ev_bipush 75 (v := -4) dX12_damage_73 (by decide +kernel) rfl ?_
  refine ev_invV 78 (Mc := mX12_refused) ⟨lk1540, lk80, hdX12_refused, (Nat.le_of_ble_eq_true rfl), (Nat.le_of_ble_eq_true rfl)⟩ lk1537 lk1539 lk38 mm_cl12 rfl dX12_damage_75 (ct_X12_refused hM) rfl (hM.1 0 _ rfl) (Nat.le_of_ble_eq_true rfl) rfl rfl ?_
  exact ev_iret dX12_damage_78 rfl (rfl)
theorem ml_damage_1 {w r s j : Nat} {v : Int32} (h : MA B I P m n k) (hL : I (m + 28) k = nI L) (hl : L ≤ 250) (hi : i < L) (w1 : 1 ≤ w) (w2 : w ≤ 255) (hR : r < 4300) (hs : s ≤ 64) (hr : I (m + 30) (250 * k + i) = nI (r + 1)) (hv : I (m + 31) r = nI s) (hj : j < s) (hsh : I (m + 32) r = nI 0) (hc : I (m + 33) (64 * r + j) = v) :
    Ct g mX12_damage [.ref m, .int (nI k), .int (nI i), .int (nI j), .int (nI w)] B I J P (some (.int (b8 (v ^^^ nI w) &&& nI 255)), B, mo_st (va_up I (m + 33) (va_up (I (m + 33)) (64 * r + j) (b8 (v ^^^ nI w)))) m (nI 0), J, P) := by
  have hf := ct_isFrame_t (g := g) (J := J) h hL hl hi
  obtain ⟨hM, hn, h8, hk⟩ := h
  refine ct_of (lv := [some (.ref m), some (.int (nI (k))), some (.int (nI (i))), some (.int (nI (j))), some (.int (nI (w))), none]) (by decide +kernel) (Nat.le_of_ble_eq_true rfl) rfl ?_
  refine ev_aload_n 1 dX12_damage_0 rfl rfl ?_
  refine ev_iload_n 2 dX12_damage_1 rfl rfl ?_
  refine ev_iload_n 3 dX12_damage_2 rfl rfl ?_
  refine ev_invV 6 (Mc := mX12_isFrame) ⟨lk1728, lk80, hdX12_isFrame, (Nat.le_of_ble_eq_true rfl), (Nat.le_of_ble_eq_true rfl)⟩ lk1725 lk1727 lk62 mm_cl12 rfl dX12_damage_3 (hf) rfl (hM.1 0 _ rfl) (Nat.le_of_ble_eq_true rfl) rfl rfl ?_
  refine ev_if_eqN 9 21 dX12_damage_6 (by decide) (by omega) rfl (fun hx => absurd hx ((by omega))) (fun hbr => ?_)
  refine ev_iload 11 dX12_damage_9 rfl rfl ?_
  refine ev_iconstN 12 1 dX12_damage_11 rfl ?_
  refine ev_sipushN 15 255 dX12_damage_12 (by decide +kernel) rfl ?_
  refine ev_invS 18 (Mc := mX12_in) ⟨lk1536, lk80, hdX12_in, (Nat.le_of_ble_eq_true rfl), (Nat.le_of_ble_eq_true rfl)⟩ lk1534 lk1535 dX12_damage_15 (ct_X12_in_t (in_t w1 w2 (by omega))) rfl (Nat.le_of_ble_eq_true rfl) rfl rfl ?_
  refine ev_if_neN 21 27 dX12_damage_18 (by decide) (by omega) rfl (fun hbr => ?_) (fun hx => absurd hx ((by omega)))
  refine ev_aload_n 28 dX12_damage_27 rfl rfl ?_
  refine ev_getP 31 mm_cl12 (j := 35) (Nat.le_of_ble_eq_true rfl) dX12_damage_28 lk1320 (fun _ _ _ => rfl) (hM.1 0 _ rfl) (a := (m + 30)) (hM.2.2 29 _ _ _ rfl) rfl ?_
  refine ev_sipushN 34 250 dX12_damage_31 (by decide +kernel) rfl ?_
  refine ev_iload_n 35 dX12_damage_34 rfl rfl ?_
  refine ev_imulN 36 dX12_damage_35 rfl ?_
  refine ev_iload_n 37 dX12_damage_36 rfl rfl ?_
  refine ev_iaddN 38 dX12_damage_37 rfl ?_
  refine ev_iald 39 _ dX12_damage_38 (hM.1 30 _ rfl) rfl (by have hNN := hM.2.1 30 _ rfl; omega) rfl ?_
  refine ev_iconstN 40 1 dX12_damage_39 rfl ?_
  refine ev_isub 41 dX12_damage_40 rfl ?_
  refine ev_eqI (y := nI (r)) ((by rw [hr]; exact nI_s1 r)) ?_
  refine ev_istore 43 (lv' := [_, _, _, _, some (.int _), _]) dX12_damage_41 (Nat.le_of_ble_eq_true rfl) rfl rfl ?_
  refine ev_iload 45 dX12_damage_43 rfl rfl ?_
  refine ev_if_geN 48 55 dX12_damage_45 (by decide) (by omega) rfl (fun hbr => ?_) (fun hx => absurd (trivial) hx)
  refine ev_iload_n 56 dX12_damage_55 rfl rfl ?_
  refine ev_iconstN 57 0 dX12_damage_56 rfl ?_
  refine ev_aload_n 58 dX12_damage_57 rfl rfl ?_
  refine ev_getP 61 mm_cl12 (j := 37) (Nat.le_of_ble_eq_true rfl) dX12_damage_58 lk1322 (fun _ _ _ => rfl) (hM.1 0 _ rfl) (a := (m + 31)) (hM.2.2 30 _ _ _ rfl) rfl ?_
  refine ev_iload 63 dX12_damage_61 rfl rfl ?_
  refine ev_iald 64 _ dX12_damage_63 (hM.1 31 _ rfl) rfl (by have hNN := hM.2.1 31 _ rfl; omega) rfl ?_
  refine ev_eqI (y := ((nI s))) (hv) ?_
  refine ev_iconstN 65 1 dX12_damage_64 rfl ?_
  refine ev_isub 66 dX12_damage_65 rfl ?_
  refine ev_invS 69 (Mc := mX12_in) ⟨lk1536, lk80, hdX12_in, (Nat.le_of_ble_eq_true rfl), (Nat.le_of_ble_eq_true rfl)⟩ lk1534 lk1535 dX12_damage_66 (ct_X12_in_t (nI_inr' (by omega) hj)) rfl (Nat.le_of_ble_eq_true rfl) rfl rfl ?_
  refine ev_if_neN 72 79 dX12_damage_69 (by decide) (by omega) rfl (fun hbr => ?_) (fun hx => absurd hx ((by omega)))
  refine ev_aload_n 80 dX12_damage_79 rfl rfl ?_
  refine ev_getP 83 mm_cl12 (j := 39) (Nat.le_of_ble_eq_true rfl) dX12_damage_80 lk1324 (fun _ _ _ => rfl) (hM.1 0 _ rfl) (a := (m + 33)) (hM.2.2 32 _ _ _ rfl) rfl ?_
  refine ev_bipushN 85 64 dX12_damage_83 (by decide +kernel) rfl ?_
  refine ev_iload 87 dX12_damage_85 rfl rfl ?_
  refine ev_imulN 88 dX12_damage_87 rfl ?_
  refine ev_iload_n 89 dX12_damage_88 rfl rfl ?_
  refine ev_iaddN 90 dX12_damage_89 rfl ?_
  refine ev_aload_n 91 dX12_damage_90 rfl rfl ?_
  refine ev_getP 94 mm_cl12 (j := 38) (Nat.le_of_ble_eq_true rfl) dX12_damage_91 lk1323 (fun _ _ _ => rfl) (hM.1 0 _ rfl) (a := (m + 32)) (hM.2.2 31 _ _ _ rfl) rfl ?_
  refine ev_iload 96 dX12_damage_94 rfl rfl ?_
  refine ev_zald 97 _ dX12_damage_96 (hM.1 32 _ rfl) rfl (by have hNN := hM.2.1 32 _ rfl; omega) rfl ?_
  refine ev_eqI (y := nI (0)) (hsh) ?_
  refine ev_if_eqN 100 118 dX12_damage_97 (by decide) (by omega) rfl (fun hbr => ?_) (fun hx => absurd ((by omega)) hx)
  refine ev_aload_n 119 dX12_damage_118 rfl rfl ?_
  refine ev_getP 122 mm_cl12 (j := 39) (Nat.le_of_ble_eq_true rfl) dX12_damage_119 lk1324 (fun _ _ _ => rfl) (hM.1 0 _ rfl) (a := (m + 33)) (hM.2.2 32 _ _ _ rfl) rfl ?_
  refine ev_bipushN 124 64 dX12_damage_122 (by decide +kernel) rfl ?_
  refine ev_iload 126 dX12_damage_124 rfl rfl ?_
  refine ev_imulN 127 dX12_damage_126 rfl ?_
  refine ev_iload_n 128 dX12_damage_127 rfl rfl ?_
  refine ev_iaddN 129 dX12_damage_128 rfl ?_
  refine ev_iald 130 _ dX12_damage_129 (hM.1 33 _ rfl) rfl (by have hNN := hM.2.1 33 _ rfl; omega) rfl ?_
  refine ev_eqI (y := (v)) (hc) ?_
  refine ev_iload 132 dX12_damage_130 rfl rfl ?_
  refine ev_ixor 133 dX12_damage_132 rfl ?_
  refine ev_i2b 134 dX12_damage_133 rfl ?_
  refine ev_iast 135 _ dX12_damage_134 (hM.1 33 _ rfl) rfl (by have hNN := hM.2.1 33 _ rfl; omega) rfl ?_
  refine ev_aload_n 136 dX12_damage_135 rfl rfl ?_
  refine ev_aload_n 137 dX12_damage_136 rfl rfl ?_
  refine ev_getP 140 mm_cl12 (j := 39) (Nat.le_of_ble_eq_true rfl) dX12_damage_137 lk1324 (fun _ _ _ => rfl) (hM.1 0 _ rfl) (a := (m + 33)) (hM.2.2 32 _ _ _ rfl) rfl ?_
  refine ev_bipushN 142 64 dX12_damage_140 (by decide +kernel) rfl ?_
  refine ev_iload 144 dX12_damage_142 rfl rfl ?_
  refine ev_imulN 145 dX12_damage_144 rfl ?_
  refine ev_iload_n 146 dX12_damage_145 rfl rfl ?_
  refine ev_iaddN 147 dX12_damage_146 rfl ?_
  refine ev_iald 148 _ dX12_damage_147 (hM.1 33 _ rfl) rfl (by have hNN := hM.2.1 33 _ rfl; omega) rfl ?_
  refine ev_eqI (y := ((b8 (v ^^^ nI w)))) ((by rw [va_up_s, va_up_s]; rfl)) ?_
  refine ev_sipushN 151 255 dX12_damage_148 (by decide +kernel) rfl ?_
  refine ev_iand 152 dX12_damage_151 rfl ?_
  refine ev_invV 155 (Mc := mX12_done) ⟨lk1544, lk80, hdX12_done, (Nat.le_of_ble_eq_true rfl), (Nat.le_of_ble_eq_true rfl)⟩ lk1541 lk1543 lk39 mm_cl12 rfl dX12_damage_152 (ct_X12_done hM) rfl (hM.1 0 _ rfl) (Nat.le_of_ble_eq_true rfl) rfl rfl ?_
  exact ev_iret dX12_damage_155 rfl (rfl)
theorem ml_damage_2 {w r s j : Nat} {v : Int32} (h : MA B I P m n k) (hL : I (m + 28) k = nI L) (hl : L ≤ 250) (hi : i < L) (w1 : 1 ≤ w) (w2 : w ≤ 255) (hR : r < 4300) (hs : s ≤ 64) (hr : I (m + 30) (250 * k + i) = nI (r + 1)) (hv : I (m + 31) r = nI s) (hj : j < s) (hsh : I (m + 32) r = nI 1) (hc : I (m + 33) (64 * r + j) = v) :
    Ct g mX12_damage [.ref m, .int (nI k), .int (nI i), .int (nI j), .int (nI w)] B I J P (some (.int ((v ^^^ nI w) &&& nI 255)), B, mo_st (va_up I (m + 33) (va_up (I (m + 33)) (64 * r + j) (v ^^^ nI w))) m (nI 0), J, P) := by
  have hf := ct_isFrame_t (g := g) (J := J) h hL hl hi
  obtain ⟨hM, hn, h8, hk⟩ := h
  refine ct_of (lv := [some (.ref m), some (.int (nI (k))), some (.int (nI (i))), some (.int (nI (j))), some (.int (nI (w))), none]) (by decide +kernel) (Nat.le_of_ble_eq_true rfl) rfl ?_
  refine ev_aload_n 1 dX12_damage_0 rfl rfl ?_
  refine ev_iload_n 2 dX12_damage_1 rfl rfl ?_
  refine ev_iload_n 3 dX12_damage_2 rfl rfl ?_
  refine ev_invV 6 (Mc := mX12_isFrame) ⟨lk1728, lk80, hdX12_isFrame, (Nat.le_of_ble_eq_true rfl), (Nat.le_of_ble_eq_true rfl)⟩ lk1725 lk1727 lk62 mm_cl12 rfl dX12_damage_3 (hf) rfl (hM.1 0 _ rfl) (Nat.le_of_ble_eq_true rfl) rfl rfl ?_
  refine ev_if_eqN 9 21 dX12_damage_6 (by decide) (by omega) rfl (fun hx => absurd hx ((by omega))) (fun hbr => ?_)
  refine ev_iload 11 dX12_damage_9 rfl rfl ?_
  refine ev_iconstN 12 1 dX12_damage_11 rfl ?_
  refine ev_sipushN 15 255 dX12_damage_12 (by decide +kernel) rfl ?_
  refine ev_invS 18 (Mc := mX12_in) ⟨lk1536, lk80, hdX12_in, (Nat.le_of_ble_eq_true rfl), (Nat.le_of_ble_eq_true rfl)⟩ lk1534 lk1535 dX12_damage_15 (ct_X12_in_t (in_t w1 w2 (by omega))) rfl (Nat.le_of_ble_eq_true rfl) rfl rfl ?_
  refine ev_if_neN 21 27 dX12_damage_18 (by decide) (by omega) rfl (fun hbr => ?_) (fun hx => absurd hx ((by omega)))
  refine ev_aload_n 28 dX12_damage_27 rfl rfl ?_
  refine ev_getP 31 mm_cl12 (j := 35) (Nat.le_of_ble_eq_true rfl) dX12_damage_28 lk1320 (fun _ _ _ => rfl) (hM.1 0 _ rfl) (a := (m + 30)) (hM.2.2 29 _ _ _ rfl) rfl ?_
  refine ev_sipushN 34 250 dX12_damage_31 (by decide +kernel) rfl ?_
  refine ev_iload_n 35 dX12_damage_34 rfl rfl ?_
  refine ev_imulN 36 dX12_damage_35 rfl ?_
  refine ev_iload_n 37 dX12_damage_36 rfl rfl ?_
  refine ev_iaddN 38 dX12_damage_37 rfl ?_
  refine ev_iald 39 _ dX12_damage_38 (hM.1 30 _ rfl) rfl (by have hNN := hM.2.1 30 _ rfl; omega) rfl ?_
  refine ev_iconstN 40 1 dX12_damage_39 rfl ?_
  refine ev_isub 41 dX12_damage_40 rfl ?_
  refine ev_eqI (y := nI (r)) ((by rw [hr]; exact nI_s1 r)) ?_
  refine ev_istore 43 (lv' := [_, _, _, _, some (.int _), _]) dX12_damage_41 (Nat.le_of_ble_eq_true rfl) rfl rfl ?_
  refine ev_iload 45 dX12_damage_43 rfl rfl ?_
  refine ev_if_geN 48 55 dX12_damage_45 (by decide) (by omega) rfl (fun hbr => ?_) (fun hx => absurd (trivial) hx)
  refine ev_iload_n 56 dX12_damage_55 rfl rfl ?_
  refine ev_iconstN 57 0 dX12_damage_56 rfl ?_
  refine ev_aload_n 58 dX12_damage_57 rfl rfl ?_
  refine ev_getP 61 mm_cl12 (j := 37) (Nat.le_of_ble_eq_true rfl) dX12_damage_58 lk1322 (fun _ _ _ => rfl) (hM.1 0 _ rfl) (a := (m + 31)) (hM.2.2 30 _ _ _ rfl) rfl ?_
  refine ev_iload 63 dX12_damage_61 rfl rfl ?_
  refine ev_iald 64 _ dX12_damage_63 (hM.1 31 _ rfl) rfl (by have hNN := hM.2.1 31 _ rfl; omega) rfl ?_
  refine ev_eqI (y := ((nI s))) (hv) ?_
  refine ev_iconstN 65 1 dX12_damage_64 rfl ?_
  refine ev_isub 66 dX12_damage_65 rfl ?_
  refine ev_invS 69 (Mc := mX12_in) ⟨lk1536, lk80, hdX12_in, (Nat.le_of_ble_eq_true rfl), (Nat.le_of_ble_eq_true rfl)⟩ lk1534 lk1535 dX12_damage_66 (ct_X12_in_t (nI_inr' (by omega) hj)) rfl (Nat.le_of_ble_eq_true rfl) rfl rfl ?_
  refine ev_if_neN 72 79 dX12_damage_69 (by decide) (by omega) rfl (fun hbr => ?_) (fun hx => absurd hx ((by omega)))
  refine ev_aload_n 80 dX12_damage_79 rfl rfl ?_
  refine ev_getP 83 mm_cl12 (j := 39) (Nat.le_of_ble_eq_true rfl) dX12_damage_80 lk1324 (fun _ _ _ => rfl) (hM.1 0 _ rfl) (a := (m + 33)) (hM.2.2 32 _ _ _ rfl) rfl ?_
  refine ev_bipushN 85 64 dX12_damage_83 (by decide +kernel) rfl ?_
  refine ev_iload 87 dX12_damage_85 rfl rfl ?_
  refine ev_imulN 88 dX12_damage_87 rfl ?_
  refine ev_iload_n 89 dX12_damage_88 rfl rfl ?_
  refine ev_iaddN 90 dX12_damage_89 rfl ?_
  refine ev_aload_n 91 dX12_damage_90 rfl rfl ?_
  refine ev_getP 94 mm_cl12 (j := 38) (Nat.le_of_ble_eq_true rfl) dX12_damage_91 lk1323 (fun _ _ _ => rfl) (hM.1 0 _ rfl) (a := (m + 32)) (hM.2.2 31 _ _ _ rfl) rfl ?_
  refine ev_iload 96 dX12_damage_94 rfl rfl ?_
  refine ev_zald 97 _ dX12_damage_96 (hM.1 32 _ rfl) rfl (by have hNN := hM.2.1 32 _ rfl; omega) rfl ?_
  refine ev_eqI (y := nI (1)) (hsh) ?_
  refine ev_if_eqN 100 118 dX12_damage_97 (by decide) (by omega) rfl (fun hx => absurd hx ((by omega))) (fun hbr => ?_)
  refine ev_aload_n 101 dX12_damage_100 rfl rfl ?_
  refine ev_getP 104 mm_cl12 (j := 39) (Nat.le_of_ble_eq_true rfl) dX12_damage_101 lk1324 (fun _ _ _ => rfl) (hM.1 0 _ rfl) (a := (m + 33)) (hM.2.2 32 _ _ _ rfl) rfl ?_
  refine ev_bipushN 106 64 dX12_damage_104 (by decide +kernel) rfl ?_
  refine ev_iload 108 dX12_damage_106 rfl rfl ?_
  refine ev_imulN 109 dX12_damage_108 rfl ?_
  refine ev_iload_n 110 dX12_damage_109 rfl rfl ?_
  refine ev_iaddN 111 dX12_damage_110 rfl ?_
  refine ev_iald 112 _ dX12_damage_111 (hM.1 33 _ rfl) rfl (by have hNN := hM.2.1 33 _ rfl; omega) rfl ?_
  refine ev_eqI (y := (v)) (hc) ?_
  refine ev_iload 114 dX12_damage_112 rfl rfl ?_
  refine ev_ixor 115 dX12_damage_114 rfl ?_
  refine ev_goto 134 dX12_damage_115 (by decide) ?_
  refine ev_iast 135 _ dX12_damage_134 (hM.1 33 _ rfl) rfl (by have hNN := hM.2.1 33 _ rfl; omega) rfl ?_
  refine ev_aload_n 136 dX12_damage_135 rfl rfl ?_
  refine ev_aload_n 137 dX12_damage_136 rfl rfl ?_
  refine ev_getP 140 mm_cl12 (j := 39) (Nat.le_of_ble_eq_true rfl) dX12_damage_137 lk1324 (fun _ _ _ => rfl) (hM.1 0 _ rfl) (a := (m + 33)) (hM.2.2 32 _ _ _ rfl) rfl ?_
  refine ev_bipushN 142 64 dX12_damage_140 (by decide +kernel) rfl ?_
  refine ev_iload 144 dX12_damage_142 rfl rfl ?_
  refine ev_imulN 145 dX12_damage_144 rfl ?_
  refine ev_iload_n 146 dX12_damage_145 rfl rfl ?_
  refine ev_iaddN 147 dX12_damage_146 rfl ?_
  refine ev_iald 148 _ dX12_damage_147 (hM.1 33 _ rfl) rfl (by have hNN := hM.2.1 33 _ rfl; omega) rfl ?_
  refine ev_eqI (y := ((v ^^^ nI w))) ((by rw [va_up_s, va_up_s])) ?_
  refine ev_sipushN 151 255 dX12_damage_148 (by decide +kernel) rfl ?_
  refine ev_iand 152 dX12_damage_151 rfl ?_
  refine ev_invV 155 (Mc := mX12_done) ⟨lk1544, lk80, hdX12_done, (Nat.le_of_ble_eq_true rfl), (Nat.le_of_ble_eq_true rfl)⟩ lk1541 lk1543 lk39 mm_cl12 rfl dX12_damage_152 (ct_X12_done hM) rfl (hM.1 0 _ rfl) (Nat.le_of_ble_eq_true rfl) rfl rfl ?_
  exact ev_iret dX12_damage_155 rfl (rfl)
theorem ml_resum_f {c i : Int32} (hM : lyM B P m) (hf : Ct g mX12_isFrame [.ref m, .int c, .int i] B I J P (some (.int (nI 0)), B, I, J, P)) : Ct g mX12_resum [.ref m, .int c, .int i] B I J P (some (.int (-1)), B, mo_st I m (-1), J, P) := by
  refine ct_of (lv := [some (.ref m), some (.int (c)), some (.int (i)), none, none]) (by decide +kernel) (Nat.le_of_ble_eq_true rfl) rfl ?_
  refine ev_aload_n 1 dX12_resum_0 rfl rfl ?_
  refine ev_iload_n 2 dX12_resum_1 rfl rfl ?_
  refine ev_iload_n 3 dX12_resum_2 rfl rfl ?_
  refine ev_invV 6 (Mc := mX12_isFrame) ⟨lk1728, lk80, hdX12_isFrame, (Nat.le_of_ble_eq_true rfl), (Nat.le_of_ble_eq_true rfl)⟩ lk1725 lk1727 lk62 mm_cl12 rfl dX12_resum_3 (hf) rfl (hM.1 0 _ rfl) (Nat.le_of_ble_eq_true rfl) rfl rfl ?_
  refine ev_if_neN 9 15 dX12_resum_6 (by decide) (by omega) rfl (fun hx => absurd ((by omega)) hx) (fun hbr => ?_)
  refine ev_aload_n 10 dX12_resum_9 rfl rfl ?_
  refine ev_iconst 11 (v := -1) dX12_resum_10 (by decide +kernel) rfl ?_
  refine ev_invV 14 (Mc := mX12_refused) ⟨lk1540, lk80, hdX12_refused, (Nat.le_of_ble_eq_true rfl), (Nat.le_of_ble_eq_true rfl)⟩ lk1537 lk1539 lk38 mm_cl12 rfl dX12_resum_11 (ct_X12_refused hM) rfl (hM.1 0 _ rfl) (Nat.le_of_ble_eq_true rfl) rfl rfl ?_
  exact ev_iret dX12_resum_14 rfl (rfl)
theorem ml_resum_0 (h : MA B I P m n k) (hL : I (m + 28) k = nI L) (hl : L ≤ 250) (hi : i < L) (hr : I (m + 30) (250 * k + i) = nI 0) : Ct g mX12_resum [.ref m, .int (nI k), .int (nI i)] B I J P (some (.int (-2)), B, mo_st I m (-2), J, P) := by
  have hf := ct_isFrame_t (g := g) (J := J) h hL hl hi
  obtain ⟨hM, hn, h8, hk⟩ := h
  refine ct_of (lv := [some (.ref m), some (.int (nI (k))), some (.int (nI (i))), none, none]) (by decide +kernel) (Nat.le_of_ble_eq_true rfl) rfl ?_
  refine ev_aload_n 1 dX12_resum_0 rfl rfl ?_
  refine ev_iload_n 2 dX12_resum_1 rfl rfl ?_
  refine ev_iload_n 3 dX12_resum_2 rfl rfl ?_
  refine ev_invV 6 (Mc := mX12_isFrame) ⟨lk1728, lk80, hdX12_isFrame, (Nat.le_of_ble_eq_true rfl), (Nat.le_of_ble_eq_true rfl)⟩ lk1725 lk1727 lk62 mm_cl12 rfl dX12_resum_3 (hf) rfl (hM.1 0 _ rfl) (Nat.le_of_ble_eq_true rfl) rfl rfl ?_
  refine ev_if_neN 9 15 dX12_resum_6 (by decide) (by omega) rfl (fun hbr => ?_) (fun hx => absurd hx ((by omega)))
  refine ev_aload_n 16 dX12_resum_15 rfl rfl ?_
  refine ev_getP 19 mm_cl12 (j := 35) (Nat.le_of_ble_eq_true rfl) dX12_resum_16 lk1320 (fun _ _ _ => rfl) (hM.1 0 _ rfl) (a := (m + 30)) (hM.2.2 29 _ _ _ rfl) rfl ?_
  refine ev_sipushN 22 250 dX12_resum_19 (by decide +kernel) rfl ?_
  refine ev_iload_n 23 dX12_resum_22 rfl rfl ?_
  refine ev_imulN 24 dX12_resum_23 rfl ?_
  refine ev_iload_n 25 dX12_resum_24 rfl rfl ?_
  refine ev_iaddN 26 dX12_resum_25 rfl ?_
  refine ev_iald 27 _ dX12_resum_26 (hM.1 30 _ rfl) rfl (by have hNN := hM.2.1 30 _ rfl; omega) rfl ?_
  refine ev_iconstN 28 1 dX12_resum_27 rfl ?_
  refine ev_isub 29 dX12_resum_28 rfl ?_
  refine ev_eqI (y := ((nI 0 - nI 1))) ((by rw [hr])) ?_
  refine ev_istore_n 30 (lv' := [_, _, some (.int _), _, _]) dX12_resum_29 (Nat.le_of_ble_eq_true rfl) rfl rfl ?_
  refine ev_iload_n 31 dX12_resum_30 rfl rfl ?_
  refine ev_if_lt 34 52 dX12_resum_31 (by decide) rfl (fun hbr => ?_) (fun hx => absurd ((by decide)) hx)
  refine ev_aload_n 53 dX12_resum_52 rfl rfl ?_
  refine ev_bipush 55 (v := -2) dX12_resum_53 (by decide +kernel) rfl ?_
  refine ev_invV 58 (Mc := mX12_refused) ⟨lk1540, lk80, hdX12_refused, (Nat.le_of_ble_eq_true rfl), (Nat.le_of_ble_eq_true rfl)⟩ lk1537 lk1539 lk38 mm_cl12 rfl dX12_resum_55 (ct_X12_refused hM) rfl (hM.1 0 _ rfl) (Nat.le_of_ble_eq_true rfl) rfl rfl ?_
  exact ev_iret dX12_resum_58 rfl (rfl)
theorem ml_resum_s {r : Nat} (h : MA B I P m n k) (hL : I (m + 28) k = nI L) (hl : L ≤ 250) (hi : i < L) (hR : r < 4300) (hr : I (m + 30) (250 * k + i) = nI (r + 1)) (hsh : I (m + 32) r = nI 1) : Ct g mX12_resum [.ref m, .int (nI k), .int (nI i)] B I J P (some (.int (-2)), B, mo_st I m (-2), J, P) := by
  have hf := ct_isFrame_t (g := g) (J := J) h hL hl hi
  obtain ⟨hM, hn, h8, hk⟩ := h
  refine ct_of (lv := [some (.ref m), some (.int (nI (k))), some (.int (nI (i))), none, none]) (by decide +kernel) (Nat.le_of_ble_eq_true rfl) rfl ?_
  refine ev_aload_n 1 dX12_resum_0 rfl rfl ?_
  refine ev_iload_n 2 dX12_resum_1 rfl rfl ?_
  refine ev_iload_n 3 dX12_resum_2 rfl rfl ?_
  refine ev_invV 6 (Mc := mX12_isFrame) ⟨lk1728, lk80, hdX12_isFrame, (Nat.le_of_ble_eq_true rfl), (Nat.le_of_ble_eq_true rfl)⟩ lk1725 lk1727 lk62 mm_cl12 rfl dX12_resum_3 (hf) rfl (hM.1 0 _ rfl) (Nat.le_of_ble_eq_true rfl) rfl rfl ?_
  refine ev_if_neN 9 15 dX12_resum_6 (by decide) (by omega) rfl (fun hbr => ?_) (fun hx => absurd hx ((by omega)))
  refine ev_aload_n 16 dX12_resum_15 rfl rfl ?_
  refine ev_getP 19 mm_cl12 (j := 35) (Nat.le_of_ble_eq_true rfl) dX12_resum_16 lk1320 (fun _ _ _ => rfl) (hM.1 0 _ rfl) (a := (m + 30)) (hM.2.2 29 _ _ _ rfl) rfl ?_
  refine ev_sipushN 22 250 dX12_resum_19 (by decide +kernel) rfl ?_
  refine ev_iload_n 23 dX12_resum_22 rfl rfl ?_
  refine ev_imulN 24 dX12_resum_23 rfl ?_
  refine ev_iload_n 25 dX12_resum_24 rfl rfl ?_
  refine ev_iaddN 26 dX12_resum_25 rfl ?_
  refine ev_iald 27 _ dX12_resum_26 (hM.1 30 _ rfl) rfl (by have hNN := hM.2.1 30 _ rfl; omega) rfl ?_
  refine ev_iconstN 28 1 dX12_resum_27 rfl ?_
  refine ev_isub 29 dX12_resum_28 rfl ?_
  refine ev_eqI (y := nI (r)) ((by rw [hr]; exact nI_s1 r)) ?_
  refine ev_istore_n 30 (lv' := [_, _, some (.int _), _, _]) dX12_resum_29 (Nat.le_of_ble_eq_true rfl) rfl rfl ?_
  refine ev_iload_n 31 dX12_resum_30 rfl rfl ?_
  refine ev_if_ltN 34 52 dX12_resum_31 (by decide) (by omega) rfl (fun hx => absurd hx (not_false)) (fun hbr => ?_)
  refine ev_aload_n 35 dX12_resum_34 rfl rfl ?_
  refine ev_getP 38 mm_cl12 (j := 38) (Nat.le_of_ble_eq_true rfl) dX12_resum_35 lk1323 (fun _ _ _ => rfl) (hM.1 0 _ rfl) (a := (m + 32)) (hM.2.2 31 _ _ _ rfl) rfl ?_
  refine ev_iload_n 39 dX12_resum_38 rfl rfl ?_
  refine ev_zald 40 _ dX12_resum_39 (hM.1 32 _ rfl) rfl (by have hNN := hM.2.1 32 _ rfl; omega) rfl ?_
  refine ev_eqI (y := nI (1)) (hsh) ?_
  refine ev_if_neN 43 52 dX12_resum_40 (by decide) (by omega) rfl (fun hbr => ?_) (fun hx => absurd hx ((by omega)))
  refine ev_aload_n 53 dX12_resum_52 rfl rfl ?_
  refine ev_bipush 55 (v := -2) dX12_resum_53 (by decide +kernel) rfl ?_
  refine ev_invV 58 (Mc := mX12_refused) ⟨lk1540, lk80, hdX12_refused, (Nat.le_of_ble_eq_true rfl), (Nat.le_of_ble_eq_true rfl)⟩ lk1537 lk1539 lk38 mm_cl12 rfl dX12_resum_55 (ct_X12_refused hM) rfl (hM.1 0 _ rfl) (Nat.le_of_ble_eq_true rfl) rfl rfl ?_
  exact ev_iret dX12_resum_58 rfl (rfl)
theorem ml_resum_e {r : Nat} (h : MA B I P m n k) (hL : I (m + 28) k = nI L) (hl : L ≤ 250) (hi : i < L) (hR : r < 4300) (hr : I (m + 30) (250 * k + i) = nI (r + 1)) (hsh : I (m + 32) r = nI 0) (hv : I (m + 31) r = nI 0) : Ct g mX12_resum [.ref m, .int (nI k), .int (nI i)] B I J P (some (.int (-2)), B, mo_st I m (-2), J, P) := by
  have hf := ct_isFrame_t (g := g) (J := J) h hL hl hi
  obtain ⟨hM, hn, h8, hk⟩ := h
  refine ct_of (lv := [some (.ref m), some (.int (nI (k))), some (.int (nI (i))), none, none]) (by decide +kernel) (Nat.le_of_ble_eq_true rfl) rfl ?_
  refine ev_aload_n 1 dX12_resum_0 rfl rfl ?_
  refine ev_iload_n 2 dX12_resum_1 rfl rfl ?_
  refine ev_iload_n 3 dX12_resum_2 rfl rfl ?_
  refine ev_invV 6 (Mc := mX12_isFrame) ⟨lk1728, lk80, hdX12_isFrame, (Nat.le_of_ble_eq_true rfl), (Nat.le_of_ble_eq_true rfl)⟩ lk1725 lk1727 lk62 mm_cl12 rfl dX12_resum_3 (hf) rfl (hM.1 0 _ rfl) (Nat.le_of_ble_eq_true rfl) rfl rfl ?_
  refine ev_if_neN 9 15 dX12_resum_6 (by decide) (by omega) rfl (fun hbr => ?_) (fun hx => absurd hx ((by omega)))
  refine ev_aload_n 16 dX12_resum_15 rfl rfl ?_
  refine ev_getP 19 mm_cl12 (j := 35) (Nat.le_of_ble_eq_true rfl) dX12_resum_16 lk1320 (fun _ _ _ => rfl) (hM.1 0 _ rfl) (a := (m + 30)) (hM.2.2 29 _ _ _ rfl) rfl ?_
  refine ev_sipushN 22 250 dX12_resum_19 (by decide +kernel) rfl ?_
  refine ev_iload_n 23 dX12_resum_22 rfl rfl ?_
  refine ev_imulN 24 dX12_resum_23 rfl ?_
  refine ev_iload_n 25 dX12_resum_24 rfl rfl ?_
  refine ev_iaddN 26 dX12_resum_25 rfl ?_
  refine ev_iald 27 _ dX12_resum_26 (hM.1 30 _ rfl) rfl (by have hNN := hM.2.1 30 _ rfl; omega) rfl ?_
  refine ev_iconstN 28 1 dX12_resum_27 rfl ?_
  refine ev_isub 29 dX12_resum_28 rfl ?_
  refine ev_eqI (y := nI (r)) ((by rw [hr]; exact nI_s1 r)) ?_
  refine ev_istore_n 30 (lv' := [_, _, some (.int _), _, _]) dX12_resum_29 (Nat.le_of_ble_eq_true rfl) rfl rfl ?_
  refine ev_iload_n 31 dX12_resum_30 rfl rfl ?_
  refine ev_if_ltN 34 52 dX12_resum_31 (by decide) (by omega) rfl (fun hx => absurd hx (not_false)) (fun hbr => ?_)
  refine ev_aload_n 35 dX12_resum_34 rfl rfl ?_
  refine ev_getP 38 mm_cl12 (j := 38) (Nat.le_of_ble_eq_true rfl) dX12_resum_35 lk1323 (fun _ _ _ => rfl) (hM.1 0 _ rfl) (a := (m + 32)) (hM.2.2 31 _ _ _ rfl) rfl ?_
  refine ev_iload_n 39 dX12_resum_38 rfl rfl ?_
  refine ev_zald 40 _ dX12_resum_39 (hM.1 32 _ rfl) rfl (by have hNN := hM.2.1 32 _ rfl; omega) rfl ?_
  refine ev_eqI (y := nI (0)) (hsh) ?_
  refine ev_if_neN 43 52 dX12_resum_40 (by decide) (by omega) rfl (fun hx => absurd ((by omega)) hx) (fun hbr => ?_)
  refine ev_aload_n 44 dX12_resum_43 rfl rfl ?_
  refine ev_getP 47 mm_cl12 (j := 37) (Nat.le_of_ble_eq_true rfl) dX12_resum_44 lk1322 (fun _ _ _ => rfl) (hM.1 0 _ rfl) (a := (m + 31)) (hM.2.2 30 _ _ _ rfl) rfl ?_
  refine ev_iload_n 48 dX12_resum_47 rfl rfl ?_
  refine ev_iald 49 _ dX12_resum_48 (hM.1 31 _ rfl) rfl (by have hNN := hM.2.1 31 _ rfl; omega) rfl ?_
  refine ev_eqI (y := nI (0)) (hv) ?_
  refine ev_if_neN 52 59 dX12_resum_49 (by decide) (by omega) rfl (fun hx => absurd ((by omega)) hx) (fun hbr => ?_)
  refine ev_aload_n 53 dX12_resum_52 rfl rfl ?_
  refine ev_bipush 55 (v := -2) dX12_resum_53 (by decide +kernel) rfl ?_
  refine ev_invV 58 (Mc := mX12_refused) ⟨lk1540, lk80, hdX12_refused, (Nat.le_of_ble_eq_true rfl), (Nat.le_of_ble_eq_true rfl)⟩ lk1537 lk1539 lk38 mm_cl12 rfl dX12_resum_55 (ct_X12_refused hM) rfl (hM.1 0 _ rfl) (Nat.le_of_ble_eq_true rfl) rfl rfl ?_
  exact ev_iret dX12_resum_58 rfl (rfl)
theorem ml_resum_t {r w : Nat} {F : Nat → Int32} (h : MA B I P m n k) (hL : I (m + 28) k = nI L) (hl : L ≤ 250) (hi : i < L) (hR : r < 4300) (hw : w < 64) (hr : I (m + 30) (250 * k + i) = nI (r + 1)) (hsh : I (m + 32) r = nI 0) (hv : I (m + 31) r = nI (w + 1)) (hF : ∀ j, j < w → I (m + 33) (64 * r + j) = F j) :
    Ct g mX12_resum [.ref m, .int (nI k), .int (nI i)] B I J P (some (.int (b8 (sp_xs F w) &&& nI 255)), B, mo_st (va_up I (m + 33) (va_up (I (m + 33)) (64 * r + w) (b8 (sp_xs F w)))) m (nI 0), J, P) := by
  have hf := ct_isFrame_t (g := g) (J := J) h hL hl hi
  obtain ⟨hM, hn, h8, hk⟩ := h
  refine ct_of (lv := [some (.ref m), some (.int (nI (k))), some (.int (nI (i))), none, none]) (by decide +kernel) (Nat.le_of_ble_eq_true rfl) rfl ?_
  refine ev_aload_n 1 dX12_resum_0 rfl rfl ?_
  refine ev_iload_n 2 dX12_resum_1 rfl rfl ?_
  refine ev_iload_n 3 dX12_resum_2 rfl rfl ?_
  refine ev_invV 6 (Mc := mX12_isFrame) ⟨lk1728, lk80, hdX12_isFrame, (Nat.le_of_ble_eq_true rfl), (Nat.le_of_ble_eq_true rfl)⟩ lk1725 lk1727 lk62 mm_cl12 rfl dX12_resum_3 (hf) rfl (hM.1 0 _ rfl) (Nat.le_of_ble_eq_true rfl) rfl rfl ?_
  refine ev_if_neN 9 15 dX12_resum_6 (by decide) (by omega) rfl (fun hbr => ?_) (fun hx => absurd hx ((by omega)))
  refine ev_aload_n 16 dX12_resum_15 rfl rfl ?_
  refine ev_getP 19 mm_cl12 (j := 35) (Nat.le_of_ble_eq_true rfl) dX12_resum_16 lk1320 (fun _ _ _ => rfl) (hM.1 0 _ rfl) (a := (m + 30)) (hM.2.2 29 _ _ _ rfl) rfl ?_
  refine ev_sipushN 22 250 dX12_resum_19 (by decide +kernel) rfl ?_
  refine ev_iload_n 23 dX12_resum_22 rfl rfl ?_
  refine ev_imulN 24 dX12_resum_23 rfl ?_
  refine ev_iload_n 25 dX12_resum_24 rfl rfl ?_
  refine ev_iaddN 26 dX12_resum_25 rfl ?_
  refine ev_iald 27 _ dX12_resum_26 (hM.1 30 _ rfl) rfl (by have hNN := hM.2.1 30 _ rfl; omega) rfl ?_
  refine ev_iconstN 28 1 dX12_resum_27 rfl ?_
  refine ev_isub 29 dX12_resum_28 rfl ?_
  refine ev_eqI (y := nI (r)) ((by rw [hr]; exact nI_s1 r)) ?_
  refine ev_istore_n 30 (lv' := [_, _, some (.int _), _, _]) dX12_resum_29 (Nat.le_of_ble_eq_true rfl) rfl rfl ?_
  refine ev_iload_n 31 dX12_resum_30 rfl rfl ?_
  refine ev_if_ltN 34 52 dX12_resum_31 (by decide) (by omega) rfl (fun hx => absurd hx (not_false)) (fun hbr => ?_)
  refine ev_aload_n 35 dX12_resum_34 rfl rfl ?_
  refine ev_getP 38 mm_cl12 (j := 38) (Nat.le_of_ble_eq_true rfl) dX12_resum_35 lk1323 (fun _ _ _ => rfl) (hM.1 0 _ rfl) (a := (m + 32)) (hM.2.2 31 _ _ _ rfl) rfl ?_
  refine ev_iload_n 39 dX12_resum_38 rfl rfl ?_
  refine ev_zald 40 _ dX12_resum_39 (hM.1 32 _ rfl) rfl (by have hNN := hM.2.1 32 _ rfl; omega) rfl ?_
  refine ev_eqI (y := nI (0)) (hsh) ?_
  refine ev_if_neN 43 52 dX12_resum_40 (by decide) (by omega) rfl (fun hx => absurd ((by omega)) hx) (fun hbr => ?_)
  refine ev_aload_n 44 dX12_resum_43 rfl rfl ?_
  refine ev_getP 47 mm_cl12 (j := 37) (Nat.le_of_ble_eq_true rfl) dX12_resum_44 lk1322 (fun _ _ _ => rfl) (hM.1 0 _ rfl) (a := (m + 31)) (hM.2.2 30 _ _ _ rfl) rfl ?_
  refine ev_iload_n 48 dX12_resum_47 rfl rfl ?_
  refine ev_iald 49 _ dX12_resum_48 (hM.1 31 _ rfl) rfl (by have hNN := hM.2.1 31 _ rfl; omega) rfl ?_
  refine ev_eqI (y := nI ((w+1))) (hv) ?_
  refine ev_if_neN 52 59 dX12_resum_49 (by decide) (by omega) rfl (fun hbr => ?_) (fun hx => absurd hx ((by omega)))
  refine ev_aload_n 60 dX12_resum_59 rfl rfl ?_
  refine ev_getP 63 mm_cl12 (j := 37) (Nat.le_of_ble_eq_true rfl) dX12_resum_60 lk1322 (fun _ _ _ => rfl) (hM.1 0 _ rfl) (a := (m + 31)) (hM.2.2 30 _ _ _ rfl) rfl ?_
  refine ev_iload_n 64 dX12_resum_63 rfl rfl ?_
  refine ev_iald 65 _ dX12_resum_64 (hM.1 31 _ rfl) rfl (by have hNN := hM.2.1 31 _ rfl; omega) rfl ?_
  refine ev_iconstN 66 1 dX12_resum_65 rfl ?_
  refine ev_isub 67 dX12_resum_66 rfl ?_
  refine ev_eqI (y := nI (w)) ((by rw [hv]; exact nI_s1 w)) ?_
  refine ev_istore 69 (lv' := [_, _, _, some (.int _), _]) dX12_resum_67 (Nat.le_of_ble_eq_true rfl) rfl rfl ?_
  refine ev_aload_n 70 dX12_resum_69 rfl rfl ?_
  refine ev_getP 73 mm_cl12 (j := 39) (Nat.le_of_ble_eq_true rfl) dX12_resum_70 lk1324 (fun _ _ _ => rfl) (hM.1 0 _ rfl) (a := (m + 33)) (hM.2.2 32 _ _ _ rfl) rfl ?_
  refine ev_bipushN 75 64 dX12_resum_73 (by decide +kernel) rfl ?_
  refine ev_iload_n 76 dX12_resum_75 rfl rfl ?_
  refine ev_imulN 77 dX12_resum_76 rfl ?_
  refine ev_iload 79 dX12_resum_77 rfl rfl ?_
  refine ev_iaddN 80 dX12_resum_79 rfl ?_
  refine ev_aload_n 81 dX12_resum_80 rfl rfl ?_
  refine ev_iload_n 82 dX12_resum_81 rfl rfl ?_
  refine ev_iload 84 dX12_resum_82 rfl rfl ?_
  refine ev_invV 87 (Mc := mX12_sumOf) ⟨lk1698, lk80, hdX12_sumOf, (Nat.le_of_ble_eq_true rfl), (Nat.le_of_ble_eq_true rfl)⟩ lk1695 lk1697 lk59 mm_cl12 rfl dX12_resum_84 (ct_X12_sumOf hM hR (by omega) hF) rfl (hM.1 0 _ rfl) (Nat.le_of_ble_eq_true rfl) rfl rfl ?_
  refine ev_iast 88 _ dX12_resum_87 (hM.1 33 _ rfl) rfl (by have hNN := hM.2.1 33 _ rfl; omega) rfl ?_
  refine ev_aload_n 89 dX12_resum_88 rfl rfl ?_
  refine ev_aload_n 90 dX12_resum_89 rfl rfl ?_
  refine ev_getP 93 mm_cl12 (j := 39) (Nat.le_of_ble_eq_true rfl) dX12_resum_90 lk1324 (fun _ _ _ => rfl) (hM.1 0 _ rfl) (a := (m + 33)) (hM.2.2 32 _ _ _ rfl) rfl ?_
  refine ev_bipushN 95 64 dX12_resum_93 (by decide +kernel) rfl ?_
  refine ev_iload_n 96 dX12_resum_95 rfl rfl ?_
  refine ev_imulN 97 dX12_resum_96 rfl ?_
  refine ev_iload 99 dX12_resum_97 rfl rfl ?_
  refine ev_iaddN 100 dX12_resum_99 rfl ?_
  refine ev_iald 101 _ dX12_resum_100 (hM.1 33 _ rfl) rfl (by have hNN := hM.2.1 33 _ rfl; omega) rfl ?_
  refine ev_eqI (y := ((b8 (sp_xs F w)))) ((by rw [va_up_s, va_up_s])) ?_
  refine ev_sipushN 104 255 dX12_resum_101 (by decide +kernel) rfl ?_
  refine ev_iand 105 dX12_resum_104 rfl ?_
  refine ev_invV 108 (Mc := mX12_done) ⟨lk1544, lk80, hdX12_done, (Nat.le_of_ble_eq_true rfl), (Nat.le_of_ble_eq_true rfl)⟩ lk1541 lk1543 lk39 mm_cl12 rfl dX12_resum_105 (ct_X12_done hM) rfl (hM.1 0 _ rfl) (Nat.le_of_ble_eq_true rfl) rfl rfl ?_
  exact ev_iret dX12_resum_108 rfl (rfl)
end MF0
