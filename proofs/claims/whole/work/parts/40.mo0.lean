/-! THE MODEL: small methods -/
section MO0
variable {g : mm_G} {B : mm_B} {I : mm_TI} {J : mm_TJ} {P : mm_TP} {m : Nat}
/-- its status -/
abbrev mo_st (I : mm_TI) (m : Nat) (v : Int32) : mm_TI := va_up I m (va_up (I m) 1 v)
theorem ct_X12_done {a : Int32} (hM : lyM B P m) : Ct g mX12_done [.ref m, .int a] B I J P (some (.int a), B, mo_st I m (nI 0), J, P) := by
  refine ct_of (lv := [some (.ref m), some (.int a)]) (by decide +kernel) (Nat.le_of_ble_eq_true rfl) rfl ?_
  refine ev_aload_n 1 dX12_done_0 rfl rfl ?_
  refine ev_iconstN 2 0 dX12_done_1 rfl ?_
  refine ev_putI 5 mm_cl12 (j := 1) (Nat.le_of_ble_eq_true rfl) dX12_done_2 lk1286 rfl (fun _ _ _ => rfl) rfl rfl (hM.1 0 _ rfl) rfl ?_
  refine ev_iload_n 6 dX12_done_5 rfl rfl ?_
  exact ev_iret dX12_done_6 rfl (rfl)
theorem ct_X12_refused {a : Int32} (hM : lyM B P m) : Ct g mX12_refused [.ref m, .int a] B I J P (some (.int a), B, mo_st I m a, J, P) := by
  refine ct_of (lv := [some (.ref m), some (.int a)]) (by decide +kernel) (Nat.le_of_ble_eq_true rfl) rfl ?_
  refine ev_aload_n 1 dX12_refused_0 rfl rfl ?_
  refine ev_iload_n 2 dX12_refused_1 rfl rfl ?_
  refine ev_putI 5 mm_cl12 (j := 1) (Nat.le_of_ble_eq_true rfl) dX12_refused_2 lk1286 rfl (fun _ _ _ => rfl) rfl rfl (hM.1 0 _ rfl) rfl ?_
  refine ev_iload_n 6 dX12_refused_5 rfl rfl ?_
  exact ev_iret dX12_refused_6 rfl (rfl)
theorem ct_X12_refusedNo {a : Int32} (hM : lyM B P m) : Ct g mX12_refusedNo [.ref m, .int a] B I J P (some (.int (-2147483648)), B, mo_st I m a, J, P) := by
  refine ct_of (lv := [some (.ref m), some (.int a)]) (by decide +kernel) (Nat.le_of_ble_eq_true rfl) rfl ?_
  refine ev_aload_n 1 dX12_refusedNo_0 rfl rfl ?_
  refine ev_iload_n 2 dX12_refusedNo_1 rfl rfl ?_
  refine ev_putI 5 mm_cl12 (j := 1) (Nat.le_of_ble_eq_true rfl) dX12_refusedNo_2 lk1286 rfl (fun _ _ _ => rfl) rfl rfl (hM.1 0 _ rfl) rfl ?_
  refine ev_ldc 7 dX12_refusedNo_5 lk1715 rfl ?_
  exact ev_iret dX12_refusedNo_7 rfl (rfl)
theorem ct_X12_isCoder {c : Int32} (hM : lyM B P m) : Ct g mX12_isCoder [.ref m, .int c] B I J P (some (.int (if 0 ≤ c ∧ c < I m 0 then nI 1 else nI 0)), B, I, J, P) := by
  refine ct_of (lv := [some (.ref m), some (.int c)]) (by decide +kernel) (Nat.le_of_ble_eq_true rfl) rfl ?_
  refine ev_iload_n 1 dX12_isCoder_0 rfl rfl ?_
  refine ev_if_lt 4 16 dX12_isCoder_1 (by decide) rfl (fun h1 => ?_) (fun h1 => ?_)
  · refine ev_iconstN 17 0 dX12_isCoder_16 rfl ?_
    rw [if_neg (fun h => absurd h1 (Int32.not_lt.mpr h.1))]
    exact ev_zret dX12_isCoder_17 rfl (by first | rfl | assumption) (rfl)
  · refine ev_iload_n 5 dX12_isCoder_4 rfl rfl ?_
    refine ev_aload_n 6 dX12_isCoder_5 rfl rfl ?_
    refine ev_getI 9 mm_cl12 (j := 0) (Nat.le_of_ble_eq_true rfl) dX12_isCoder_6 lk1285 (fun _ _ _ => rfl) (hM.1 0 _ rfl) rfl ?_
    refine ev_icmp_ge 12 16 dX12_isCoder_9 (by decide) rfl (fun h2 => ?_) (fun h2 => ?_)
    · refine ev_iconstN 17 0 dX12_isCoder_16 rfl ?_
      rw [if_neg (fun h => absurd h2 (Int32.not_le.mpr h.2))]
      exact ev_zret dX12_isCoder_17 rfl (by first | rfl | assumption) (rfl)
    · refine ev_iconstN 13 1 dX12_isCoder_12 rfl ?_
      refine ev_goto 17 dX12_isCoder_13 (by decide) ?_
      rw [if_pos ⟨Int32.not_lt.mp h1, Int32.not_le.mp h2⟩]
      exact ev_zret dX12_isCoder_17 rfl (by first | rfl | assumption) (rfl)
theorem ct_X12_isCoder_t {k c : Nat} (hM : lyM B P m) (hk : I m 0 = nI k) (h8 : k ≤ 8) (hc : c < k) : Ct g mX12_isCoder [.ref m, .int (nI c)] B I J P (some (.int (nI 1)), B, I, J, P) := by
  have e := ct_X12_isCoder (g := g) (I := I) (J := J) (c := nI c) hM
  rw [if_pos ⟨nI_pos' (by omega), by rw [hk]; exact nI_lt hc (by omega)⟩] at e
  exact e
theorem ct_X12_isCoder_f {c : Int32} (hM : lyM B P m) (hc : ¬ (0 ≤ c ∧ c < I m 0)) : Ct g mX12_isCoder [.ref m, .int c] B I J P (some (.int (nI 0)), B, I, J, P) := by
  have e := ct_X12_isCoder (g := g) (I := I) (J := J) (c := c) hM
  rw [if_neg hc] at e
  exact e
theorem ct_X12_in {w l h : Int32} : Ct g mX12_in [.int w, .int l, .int h] B I J P (some (.int (if l ≤ w ∧ w ≤ h then nI 1 else nI 0)), B, I, J, P) := by
  refine ct_of (lv := [some (.int w), some (.int l), some (.int h)]) (by decide +kernel) (Nat.le_of_ble_eq_true rfl) rfl ?_
  refine ev_iload_n 1 dX12_in_0 rfl rfl ?_
  refine ev_iload_n 2 dX12_in_1 rfl rfl ?_
  refine ev_icmp_lt 5 14 dX12_in_2 (by decide) rfl (fun h1 => ?_) (fun h1 => ?_)
  · refine ev_iconstN 15 0 dX12_in_14 rfl ?_
    rw [if_neg (fun h => absurd h1 (Int32.not_lt.mpr h.1))]
    exact ev_zret dX12_in_15 rfl (by first | rfl | assumption) (rfl)
  · refine ev_iload_n 6 dX12_in_5 rfl rfl ?_
    refine ev_iload_n 7 dX12_in_6 rfl rfl ?_
    refine ev_icmp_gt 10 14 dX12_in_7 (by decide) rfl (fun h2 => ?_) (fun h2 => ?_)
    · refine ev_iconstN 15 0 dX12_in_14 rfl ?_
      rw [if_neg (fun h => absurd h2 (Int32.not_lt.mpr h.2))]
      exact ev_zret dX12_in_15 rfl (by first | rfl | assumption) (rfl)
    · refine ev_iconstN 11 1 dX12_in_10 rfl ?_
      refine ev_goto 15 dX12_in_11 (by decide) ?_
      rw [if_pos ⟨Int32.not_lt.mp h1, Int32.not_lt.mp h2⟩]
      exact ev_zret dX12_in_15 rfl (by first | rfl | assumption) (rfl)
theorem ct_X12_in_t {w l h : Int32} (hh : l ≤ w ∧ w ≤ h) : Ct g mX12_in [.int w, .int l, .int h] B I J P (some (.int (nI 1)), B, I, J, P) := by
  have e := ct_X12_in (g := g) (B := B) (I := I) (J := J) (P := P) (w := w) (l := l) (h := h)
  rw [if_pos hh] at e
  exact e
theorem ct_X12_in_f {w l h : Int32} (hh : ¬ (l ≤ w ∧ w ≤ h)) : Ct g mX12_in [.int w, .int l, .int h] B I J P (some (.int (nI 0)), B, I, J, P) := by
  have e := ct_X12_in (g := g) (B := B) (I := I) (J := J) (P := P) (w := w) (l := l) (h := h)
  rw [if_neg hh] at e
  exact e
theorem ct_X12_half {p q : Int64} : Ct g mX12_half [.long p, .long q] B I J P (some (.long (sp_half p q)), B, I, J, P) := by
  refine ct_of (lv := [some (.long p), none, some (.long q), none]) (by decide +kernel) (Nat.le_of_ble_eq_true rfl) rfl ?_
  refine ev_lload_n 1 dX12_half_0 rfl rfl ?_
  refine ev_lload_n 2 dX12_half_1 rfl rfl ?_
  refine ev_lmul 3 dX12_half_2 rfl ?_
  refine ev_ldc2 6 dX12_half_3 lk1604 rfl ?_
  refine ev_ladd 7 dX12_half_6 rfl ?_
  refine ev_bipushN 9 15 dX12_half_7 (by decide +kernel) rfl ?_
  refine ev_lshr 10 dX12_half_9 rfl ?_
  exact ev_lret dX12_half_10 rfl (rfl)
theorem ct_X12_sample16 {w : Int64} (hM : lyM B P m) : Ct g mX12_sample16 [.ref m, .long w] B I J P (some (.int (sp_S w)), B, I, sp_up J m 2 (sp_t w), P) := by
  have big : 32767 < w → (0 : Int64) < w ∧ ¬ w < -32768 := fun h => by
    simp only [Int64.lt_iff_toInt_lt] at h ⊢
    have e1 : (32767 : Int64).toInt = 32767 := by decide +kernel
    have e2 : (0 : Int64).toInt = 0 := by decide +kernel
    have e3 : (-32768 : Int64).toInt = -32768 := by decide +kernel
    omega
  have low : w < -32768 → ¬ (0 : Int64) < w ∧ ¬ 32767 < w := fun h => by
    simp only [Int64.lt_iff_toInt_lt] at h ⊢
    have e1 : (32767 : Int64).toInt = 32767 := by decide +kernel
    have e2 : (0 : Int64).toInt = 0 := by decide +kernel
    have e3 : (-32768 : Int64).toInt = -32768 := by decide +kernel
    omega
  refine ct_of (lv := [some (.ref m), some (.long w), none]) (by decide +kernel) (Nat.le_of_ble_eq_true rfl) rfl ?_
  refine ev_lload_n 1 dX12_sample16_0 rfl rfl ?_
  refine ev_ldc2 4 dX12_sample16_1 lk1609 rfl ?_
  refine ev_lcmp 5 dX12_sample16_4 rfl ?_
  refine ev_lc_gt 8 16 dX12_sample16_5 (by decide) rfl (fun h1 => ?_) (fun h1 => ?_)
  · refine ev_aload_n 17 dX12_sample16_16 rfl rfl ?_
    refine ev_dup 18 dX12_sample16_17 rfl rfl ?_
    refine ev_getJ 21 mm_cl12 (j := 2) (Nat.le_of_ble_eq_true rfl) dX12_sample16_18 lk1287 (fun _ _ _ => rfl) (hM.1 0 _ rfl) rfl ?_
    refine ev_lconst 22 (v := 1) dX12_sample16_21 (by decide +kernel) rfl ?_
    refine ev_ladd 23 dX12_sample16_22 rfl ?_
    refine ev_putJ 26 mm_cl12 (j := 2) (Nat.le_of_ble_eq_true rfl) dX12_sample16_23 lk1287 rfl (fun _ _ _ => rfl) rfl rfl (hM.1 0 _ rfl) rfl ?_
    refine ev_lload_n 27 dX12_sample16_26 rfl rfl ?_
    refine ev_lconst 28 (v := 0) dX12_sample16_27 (by decide +kernel) rfl ?_
    refine ev_lcmp 29 dX12_sample16_28 rfl ?_
    refine ev_lc_le 32 38 dX12_sample16_29 (by decide) rfl (fun hx => absurd ((big h1).1) hx) (fun hbr => ?_)
    refine ev_sipushN 35 32767 dX12_sample16_32 (by decide +kernel) rfl ?_
    refine ev_goto 41 dX12_sample16_35 (by decide) ?_
    rw [show sp_S w = nI 32767 by unfold sp_S; rw [if_neg (big h1).2, if_pos h1]; decide +kernel, show sp_t w = 1 by unfold sp_t; rw [if_pos (Or.inr h1)]]
    exact ev_iret dX12_sample16_41 rfl (rfl)
  · refine ev_lload_n 9 dX12_sample16_8 rfl rfl ?_
    refine ev_ldc2 12 dX12_sample16_9 lk1610 rfl ?_
    refine ev_lcmp 13 dX12_sample16_12 rfl ?_
    refine ev_lc_ge 16 42 dX12_sample16_13 (by decide) rfl (fun h2 => ?_) (fun h2 => ?_)
    · refine ev_lload_n 43 dX12_sample16_42 rfl rfl ?_
      refine ev_l2i 44 dX12_sample16_43 rfl ?_
      rw [show sp_S w = w.toInt32 by unfold sp_S; rw [if_neg h2, if_neg h1], show sp_t w = 0 by unfold sp_t; rw [if_neg (fun h => h.elim h2 h1)], sp_up_0]
      exact ev_iret dX12_sample16_44 rfl (rfl)
    · refine ev_aload_n 17 dX12_sample16_16 rfl rfl ?_
      refine ev_dup 18 dX12_sample16_17 rfl rfl ?_
      refine ev_getJ 21 mm_cl12 (j := 2) (Nat.le_of_ble_eq_true rfl) dX12_sample16_18 lk1287 (fun _ _ _ => rfl) (hM.1 0 _ rfl) rfl ?_
      refine ev_lconst 22 (v := 1) dX12_sample16_21 (by decide +kernel) rfl ?_
      refine ev_ladd 23 dX12_sample16_22 rfl ?_
      refine ev_putJ 26 mm_cl12 (j := 2) (Nat.le_of_ble_eq_true rfl) dX12_sample16_23 lk1287 rfl (fun _ _ _ => rfl) rfl rfl (hM.1 0 _ rfl) rfl ?_
      refine ev_lload_n 27 dX12_sample16_26 rfl rfl ?_
      refine ev_lconst 28 (v := 0) dX12_sample16_27 (by decide +kernel) rfl ?_
      refine ev_lcmp 29 dX12_sample16_28 rfl ?_
      refine ev_lc_le 32 38 dX12_sample16_29 (by decide) rfl (fun hbr => ?_) (fun hx => absurd hx ((low h2).1))
      refine ev_sipush 41 (v := -32768) dX12_sample16_38 (by decide +kernel) rfl ?_
      rw [show sp_S w = -32768 by unfold sp_S; rw [if_pos h2], show sp_t w = 1 by unfold sp_t; rw [if_pos (Or.inl h2)]]
      exact ev_iret dX12_sample16_41 rfl (rfl)
end MO0
