/-! the class's small helpers, behind 'refusal = 0' -/
abbrev vz (I : mm_TI) (x : Nat) : mm_TI := va_up I x (va_up (I x) 9 (nI 0))
theorem i32_0 : (0 : Int32).toInt = 0 := by decide
theorem i32_m1 : (-1 : Int32).toInt = -1 := by decide
theorem vzk {I : mm_TI} {x q k : Nat} {v : Int32} (hv : I q k = v) (h : q ≠ x) : vz I x q k = v := by rw [show vz I x q = I q from va_up_n _ _ h]; exact hv
theorem vzx {I : mm_TI} {x k : Nat} {v : Int32} (hv : I x k = v) (h : k ≠ 9) : vz I x x k = v := by rw [show vz I x x = va_up (I x) 9 (nI 0) from va_up_s _ _ _, va_up_n _ _ h]; exact hv
theorem in_cases {lo hi : Nat} (hh : hi < 2 ^ 31) (hl : lo < 2 ^ 31) (c : Int32) : (∃ k, lo ≤ k ∧ k ≤ hi ∧ c = nI k) ∨ ¬ (nI lo ≤ c ∧ c ≤ nI hi) := by
  by_cases h : nI lo ≤ c ∧ c ≤ nI hi
  · left
    have h1 : (lo : Int) ≤ c.toInt := by have := Int32.le_iff_toInt_le.mp h.1; rw [nI_toInt hl] at this; exact this
    have h2 : c.toInt ≤ (hi : Int) := by have := Int32.le_iff_toInt_le.mp h.2; rw [nI_toInt hh] at this; exact this
    refine ⟨c.toInt.toNat, by omega, by omega, Int32.toInt_inj.mp ?_⟩
    rw [nI_toInt (by omega)]; omega
  · exact Or.inr h
theorem in_t {lo hi k : Nat} (h1 : lo ≤ k) (h2 : k ≤ hi) (hh : hi < 2 ^ 31) : nI lo ≤ nI k ∧ nI k ≤ nI hi := ⟨nI_le h1 (by omega), nI_le h2 hh⟩
/-- coder k of n stands at o -/
def CA (B : mm_B) (I : mm_TI) (P : mm_TP) (x o n k : Nat) : Prop := lyV B P x ∧ lyC B P x o ∧ x + 22 ≤ o ∧ I x 4 = nI n ∧ n ≤ 8 ∧ k < n ∧ P (x + 19) k = some o
def MA (B : mm_B) (I : mm_TI) (P : mm_TP) (m n k : Nat) : Prop := lyM B P m ∧ I m 0 = nI n ∧ n ≤ 8 ∧ k < n
section HLP
variable {g : mm_G} {B : mm_B} {I : mm_TI} {J : mm_TJ} {P : mm_TP} {x m o n k : Nat}
theorem CA_of {R K : Nat} {o : Nat → Nat} {fl φ : Nat → Nat → Nat} {ρ : Nat → Nat} (h : RC g B I J P x m n R K o fl φ ρ) (hk : k < n) : CA B I P x (o k) n k := by
  obtain ⟨n1, n2, n3⟩ := RG_n h
  have hV := h.2.2.2.1 k hk
  have := RC_xm h
  have := hV.1.2.1
  exact ⟨(RG_ly h).1, hV.1.1, by omega, n2, n1, hk, hV.1.2.2.2.1⟩
theorem MA_of {R K : Nat} {o : Nat → Nat} {fl φ : Nat → Nat → Nat} {ρ : Nat → Nat} {I1 : mm_TI} (h : RC g B I J P x m n R K o fl φ ρ) (hk : k < n) (e : I1 m = I m) : MA B I1 P m n k := by
  obtain ⟨n1, n2, n3⟩ := RG_n h
  exact ⟨(RG_ly h).2.1, by rw [e]; exact n3, n1, hk⟩
theorem ct_refuse {a : Int32} (hV : lyV B P x) : Ct g mX11_refuse [.ref x, .int a] B (vz I x) J P (some (.int a), B, vst I x a, J, P) := by
  have key : Ct g mX11_refuse [.ref x, .int a] B (vz I x) J P (some (.int a), B, vst (vz I x) x a, J, P) := by
    refine ct_of (lv := [some (.ref x), some (.int (a))]) (by decide +kernel) (Nat.le_of_ble_eq_true rfl) rfl ?_
    refine ev_aload_n 1 dX11_refuse_0 rfl rfl ?_
    refine ev_iload_n 2 dX11_refuse_1 rfl rfl ?_
    refine ev_putI 5 mm_cl11 (j := 9) (Nat.le_of_ble_eq_true rfl) dX11_refuse_2 lk270 rfl (fun _ _ _ => rfl) rfl rfl (hV.1 0 _ rfl) rfl ?_
    refine ev_iload_n 6 dX11_refuse_5 rfl rfl ?_
    exact ev_iret dX11_refuse_6 rfl (rfl)
  have e : vst (vz I x) x a = vst I x a := vst_v (v := nI 0)
  rw [e] at key; exact key
theorem ct_unknown (hV : lyV B P x) : Ct g mX11_unknown [.ref x] B (vz I x) J P (some (.int (-2147483648)), B, vst I x (-1), J, P) := by
  have key : Ct g mX11_unknown [.ref x] B (vz I x) J P (some (.int (-2147483648)), B, vst (vz I x) x (-1), J, P) := by
    refine ct_of (lv := [some (.ref x)]) (by decide +kernel) (Nat.le_of_ble_eq_true rfl) rfl ?_
    refine ev_aload_n 1 dX11_unknown_0 rfl rfl ?_
    refine ev_iconst 2 (v := -1) dX11_unknown_1 (by decide +kernel) rfl ?_
    refine ev_putI 5 mm_cl11 (j := 9) (Nat.le_of_ble_eq_true rfl) dX11_unknown_2 lk270 rfl (fun _ _ _ => rfl) rfl rfl (hV.1 0 _ rfl) rfl ?_
    refine ev_ldc 7 dX11_unknown_5 lk898 rfl ?_
    exact ev_iret dX11_unknown_7 rfl (rfl)
  have e : vst (vz I x) x (-1) = vst I x (-1) := vst_v (v := nI 0)
  rw [e] at key; exact key
theorem ct_entry_t {a s i : Nat} {v : Int32} (ta : mm_T B a = 200) (hn : s ≤ mm_N B a) (hs : s < 2 ^ 31) (hi : i < s) (hv : I a i = v) (hV : lyV B P x) : Ct g mX11_entry [.ref x, .ref a, .int (nI s), .int (nI i)] B I J P (some (.int v), B, I, J, P) := by
  subst hv
  refine ct_of (lv := [some (.ref x), some (.ref a), some (.int (nI (s))), some (.int (nI (i)))]) (by decide +kernel) (Nat.le_of_ble_eq_true rfl) rfl ?_
  refine ev_iload_n 1 dX11_entry_0 rfl rfl ?_
  refine ev_if_ltN 4 9 dX11_entry_1 (by decide) (by omega) rfl (fun hx => absurd hx ((not_false))) (fun hbr => ?_)
  refine ev_iload_n 5 dX11_entry_4 rfl rfl ?_
  refine ev_iload_n 6 dX11_entry_5 rfl rfl ?_
  refine ev_icmp_ltN 9 16 dX11_entry_6 (by decide) (by omega) (by omega) rfl (fun hbr => ?_) (fun hx => absurd ((by omega)) hx)
  refine ev_aload_n 17 dX11_entry_16 rfl rfl ?_
  refine ev_iload_n 18 dX11_entry_17 rfl rfl ?_
  refine ev_iald 19 _ dX11_entry_18 ta rfl (by omega) rfl ?_
  exact ev_iret dX11_entry_19 rfl (rfl)
theorem ct_entry_f {a s : Nat} {i : Int32} (ta : mm_T B a = 200) (hi : ¬ (0 ≤ i ∧ i < nI s)) (hV : lyV B P x) : Ct g mX11_entry [.ref x, .ref a, .int (nI s), .int i] B (vz I x) J P (some (.int (-2147483648)), B, vst I x (-1), J, P) := by
  have un := ct_unknown (g := g) (B := B) (I := I) (J := J) (P := P) hV
  refine ct_of (lv := [some (.ref x), some (.ref a), some (.int (nI s)), some (.int i)]) (by decide +kernel) (Nat.le_of_ble_eq_true rfl) rfl ?_
  refine ev_iload_n 1 dX11_entry_0 rfl rfl ?_
  refine ev_if_lt 4 9 dX11_entry_1 (by decide) rfl (fun h1 => ?_) (fun h1 => ?_)
  · refine ev_aload_n 10 dX11_entry_9 rfl rfl ?_
    refine ev_invV 13 (Mc := mX11_unknown) ⟨lk1177, lk75, hdX11_unknown, (Nat.le_of_ble_eq_true rfl), (Nat.le_of_ble_eq_true rfl)⟩ lk1174 lk1176 lk35 mm_cl11 rfl dX11_entry_10 (un) rfl (hV.1 0 _ rfl) (Nat.le_of_ble_eq_true rfl) rfl rfl ?_
    refine ev_goto 19 dX11_entry_13 (by decide) ?_
    exact ev_iret dX11_entry_19 rfl (rfl)
  · refine ev_iload_n 5 dX11_entry_4 rfl rfl ?_
    refine ev_iload_n 6 dX11_entry_5 rfl rfl ?_
    refine ev_icmp_lt 9 16 dX11_entry_6 (by decide) rfl (fun hx => absurd hx ((fun h2 => hi ⟨Int32.not_lt.mp h1, h2⟩))) (fun hbr => ?_)
    refine ev_aload_n 10 dX11_entry_9 rfl rfl ?_
    refine ev_invV 13 (Mc := mX11_unknown) ⟨lk1177, lk75, hdX11_unknown, (Nat.le_of_ble_eq_true rfl), (Nat.le_of_ble_eq_true rfl)⟩ lk1174 lk1176 lk35 mm_cl11 rfl dX11_entry_10 (un) rfl (hV.1 0 _ rfl) (Nat.le_of_ble_eq_true rfl) rfl rfl ?_
    refine ev_goto 19 dX11_entry_13 (by decide) ?_
    exact ev_iret dX11_entry_19 rfl (rfl)
theorem ct_isBit_t {a : Nat} (ha : a ≤ 1) : Ct g mX11_isBit [.int (nI a)] B I J P (some (.int (nI 1)), B, I, J, P) := by
  refine ct_of (lv := [some (.int (nI a))]) (by decide +kernel) (Nat.le_of_ble_eq_true rfl) rfl ?_
  refine ev_iload_n 1 dX11_isBit_0 rfl rfl ?_
  refine ev_if_eqN 4 9 dX11_isBit_1 (by decide) (by omega) rfl (fun h1 => ?_) (fun h1 => ?_)
  · refine ev_iconstN 10 1 dX11_isBit_9 rfl ?_
    refine ev_goto 14 dX11_isBit_10 (by decide) ?_
    exact ev_zret dX11_isBit_14 rfl (by first | rfl | assumption) (rfl)
  · refine ev_iload_n 5 dX11_isBit_4 rfl rfl ?_
    refine ev_iconstN 6 1 dX11_isBit_5 rfl ?_
    refine ev_icmp_neN 9 13 dX11_isBit_6 (by decide) (by omega) (by omega) rfl (fun hx => absurd ((by omega)) hx) (fun hbr => ?_)
    refine ev_iconstN 10 1 dX11_isBit_9 rfl ?_
    refine ev_goto 14 dX11_isBit_10 (by decide) ?_
    exact ev_zret dX11_isBit_14 rfl (by first | rfl | assumption) (rfl)
theorem ct_isBit_f {a : Int32} (ha : ¬ (nI 0 ≤ a ∧ a ≤ nI 1)) : Ct g mX11_isBit [.int a] B I J P (some (.int (nI 0)), B, I, J, P) := by
  refine ct_of (lv := [some (.int a)]) (by decide +kernel) (Nat.le_of_ble_eq_true rfl) rfl ?_
  refine ev_iload_n 1 dX11_isBit_0 rfl rfl ?_
  refine ev_if_eq 4 9 dX11_isBit_1 (by decide) rfl (fun hx => absurd hx ((fun h => ha (by rw [h]; decide)))) (fun hbr => ?_)
  refine ev_iload_n 5 dX11_isBit_4 rfl rfl ?_
  refine ev_iconstN 6 1 dX11_isBit_5 rfl ?_
  refine ev_icmp_ne 9 13 dX11_isBit_6 (by decide) rfl (fun hbr => ?_) (fun hx => absurd hx ((fun h => ha (by rw [h]; decide))))
  refine ev_iconstN 14 0 dX11_isBit_13 rfl ?_
  exact ev_zret dX11_isBit_14 rfl (by first | rfl | assumption) (rfl)
theorem ct_bit {a : Nat} (ha : a ≤ 1) : Ct g mX11_bit [.int (nI a)] B I J P (some (.int (nI a)), B, I, J, P) := by
  refine ct_of (lv := [some (.int (nI a))]) (by decide +kernel) (Nat.le_of_ble_eq_true rfl) rfl ?_
  refine ev_iload_n 1 dX11_bit_0 rfl rfl ?_
  refine ev_if_eqN 4 8 dX11_bit_1 (by decide) (by omega) rfl (fun h1 => ?_) (fun h1 => ?_)
  · refine ev_iconstN 9 0 dX11_bit_8 rfl ?_
    rw [show a = 0 by omega]
    exact ev_iret dX11_bit_9 rfl (rfl)
  · refine ev_iconstN 5 1 dX11_bit_4 rfl ?_
    refine ev_goto 9 dX11_bit_5 (by decide) ?_
    rw [show a = 1 by omega]
    exact ev_iret dX11_bit_9 rfl (rfl)
theorem ct_isPart_t {a : Nat} (ha : a ≤ 3) : Ct g mX11_isPart [.int (nI a)] B I J P (some (.int (nI 1)), B, I, J, P) := by
  refine ct_of (lv := [some (.int (nI (a)))]) (by decide +kernel) (Nat.le_of_ble_eq_true rfl) rfl ?_
  refine ev_iload_n 1 dX11_isPart_0 rfl rfl ?_
  refine ev_if_ltN 4 13 dX11_isPart_1 (by decide) (by omega) rfl (fun hx => absurd hx ((not_false))) (fun hbr => ?_)
  refine ev_iload_n 5 dX11_isPart_4 rfl rfl ?_
  refine ev_iconstN 6 4 dX11_isPart_5 rfl ?_
  refine ev_icmp_geN 9 13 dX11_isPart_6 (by decide) (by omega) (by omega) rfl (fun hx => absurd hx ((by omega))) (fun hbr => ?_)
  refine ev_iconstN 10 1 dX11_isPart_9 rfl ?_
  refine ev_goto 14 dX11_isPart_10 (by decide) ?_
  exact ev_zret dX11_isPart_14 rfl (by first | rfl | assumption) (rfl)
theorem ct_isPart_f {a : Int32} (ha : ¬ (nI 0 ≤ a ∧ a ≤ nI 3)) : Ct g mX11_isPart [.int a] B I J P (some (.int (nI 0)), B, I, J, P) := by
  refine ct_of (lv := [some (.int a)]) (by decide +kernel) (Nat.le_of_ble_eq_true rfl) rfl ?_
  refine ev_iload_n 1 dX11_isPart_0 rfl rfl ?_
  refine ev_if_lt 4 13 dX11_isPart_1 (by decide) rfl (fun h1 => ?_) (fun h1 => ?_)
  · refine ev_iconstN 14 0 dX11_isPart_13 rfl ?_
    exact ev_zret dX11_isPart_14 rfl (by first | rfl | assumption) (rfl)
  · refine ev_iload_n 5 dX11_isPart_4 rfl rfl ?_
    refine ev_iconstN 6 4 dX11_isPart_5 rfl ?_
    refine ev_icmp_ge 9 13 dX11_isPart_6 (by decide) rfl (fun hbr => ?_) (fun hx => absurd ((by (simp (disch := omega) only [Int32.lt_iff_toInt_lt, Int32.le_iff_toInt_le, Int32.not_lt, Int32.not_le, nI_toInt, i32_0, i32_m1] at *; omega))) hx)
    refine ev_iconstN 14 0 dX11_isPart_13 rfl ?_
    exact ev_zret dX11_isPart_14 rfl (by first | rfl | assumption) (rfl)
theorem ct_isLabel_t {a : Nat} (ha : a ≤ 65535) : Ct g mX11_isLabel [.int (nI a)] B I J P (some (.int (nI 1)), B, I, J, P) := by
  refine ct_of (lv := [some (.int (nI (a)))]) (by decide +kernel) (Nat.le_of_ble_eq_true rfl) rfl ?_
  refine ev_iload_n 1 dX11_isLabel_0 rfl rfl ?_
  refine ev_if_ltN 4 15 dX11_isLabel_1 (by decide) (by omega) rfl (fun hx => absurd hx ((not_false))) (fun hbr => ?_)
  refine ev_iload_n 5 dX11_isLabel_4 rfl rfl ?_
  refine ev_ldc_w 8 dX11_isLabel_5 lk598 rfl ?_
  refine ev_eqI (y := nI 65536) (by decide +kernel) ?_
  refine ev_icmp_geN 11 15 dX11_isLabel_8 (by decide) (by omega) (by omega) rfl (fun hx => absurd hx ((by omega))) (fun hbr => ?_)
  refine ev_iconstN 12 1 dX11_isLabel_11 rfl ?_
  refine ev_goto 16 dX11_isLabel_12 (by decide) ?_
  exact ev_zret dX11_isLabel_16 rfl (by first | rfl | assumption) (rfl)
theorem ct_isLabel_f {a : Int32} (ha : ¬ (nI 0 ≤ a ∧ a ≤ nI 65535)) : Ct g mX11_isLabel [.int a] B I J P (some (.int (nI 0)), B, I, J, P) := by
  refine ct_of (lv := [some (.int a)]) (by decide +kernel) (Nat.le_of_ble_eq_true rfl) rfl ?_
  refine ev_iload_n 1 dX11_isLabel_0 rfl rfl ?_
  refine ev_if_lt 4 15 dX11_isLabel_1 (by decide) rfl (fun h1 => ?_) (fun h1 => ?_)
  · refine ev_iconstN 16 0 dX11_isLabel_15 rfl ?_
    exact ev_zret dX11_isLabel_16 rfl (by first | rfl | assumption) (rfl)
  · refine ev_iload_n 5 dX11_isLabel_4 rfl rfl ?_
    refine ev_ldc_w 8 dX11_isLabel_5 lk598 rfl ?_
    refine ev_eqI (y := nI 65536) (by decide +kernel) ?_
    refine ev_icmp_ge 11 15 dX11_isLabel_8 (by decide) rfl (fun hbr => ?_) (fun hx => absurd ((by (simp (disch := omega) only [Int32.lt_iff_toInt_lt, Int32.le_iff_toInt_le, Int32.not_lt, Int32.not_le, nI_toInt, i32_0, i32_m1] at *; omega))) hx)
    refine ev_iconstN 16 0 dX11_isLabel_15 rfl ?_
    exact ev_zret dX11_isLabel_16 rfl (by first | rfl | assumption) (rfl)
theorem i32_m32768 : (-32768 : Int32).toInt = -32768 := by decide
theorem i32_m32 : (-32 : Int32).toInt = -32 := by decide
theorem ct_isSample_t {a : Int32} (ha : -32768 ≤ a ∧ a ≤ nI 32767) : Ct g mX11_isSample [.int a] B I J P (some (.int (nI 1)), B, I, J, P) := by
  refine ct_of (lv := [some (.int (a))]) (by decide +kernel) (Nat.le_of_ble_eq_true rfl) rfl ?_
  refine ev_iload_n 1 dX11_isSample_0 rfl rfl ?_
  refine ev_sipush 4 (v := -32768) dX11_isSample_1 (by decide +kernel) rfl ?_
  refine ev_icmp_lt 7 18 dX11_isSample_4 (by decide) rfl (fun hx => absurd hx ((Int32.not_lt.mpr ha.1))) (fun hbr => ?_)
  refine ev_iload_n 8 dX11_isSample_7 rfl rfl ?_
  refine ev_sipushN 11 32767 dX11_isSample_8 (by decide +kernel) rfl ?_
  refine ev_icmp_gt 14 18 dX11_isSample_11 (by decide) rfl (fun hx => absurd hx ((Int32.not_lt.mpr ha.2))) (fun hbr => ?_)
  refine ev_iconstN 15 1 dX11_isSample_14 rfl ?_
  refine ev_goto 19 dX11_isSample_15 (by decide) ?_
  exact ev_zret dX11_isSample_19 rfl (by first | rfl | assumption) (rfl)
theorem ct_isSample_f {a : Int32} (ha : ¬ (-32768 ≤ a ∧ a ≤ nI 32767)) : Ct g mX11_isSample [.int a] B I J P (some (.int (nI 0)), B, I, J, P) := by
  refine ct_of (lv := [some (.int a)]) (by decide +kernel) (Nat.le_of_ble_eq_true rfl) rfl ?_
  refine ev_iload_n 1 dX11_isSample_0 rfl rfl ?_
  refine ev_sipush 4 (v := -32768) dX11_isSample_1 (by decide +kernel) rfl ?_
  refine ev_icmp_lt 7 18 dX11_isSample_4 (by decide) rfl (fun h1 => ?_) (fun h1 => ?_)
  · refine ev_iconstN 19 0 dX11_isSample_18 rfl ?_
    exact ev_zret dX11_isSample_19 rfl (by first | rfl | assumption) (rfl)
  · refine ev_iload_n 8 dX11_isSample_7 rfl rfl ?_
    refine ev_sipushN 11 32767 dX11_isSample_8 (by decide +kernel) rfl ?_
    refine ev_icmp_gt 14 18 dX11_isSample_11 (by decide) rfl (fun hbr => ?_) (fun hx => absurd ((Int32.not_le.mp (fun h2 => ha ⟨Int32.not_lt.mp h1, h2⟩))) hx)
    refine ev_iconstN 19 0 dX11_isSample_18 rfl ?_
    exact ev_zret dX11_isSample_19 rfl (by first | rfl | assumption) (rfl)
theorem ct_isWeight_t {a : Int32} (ha : -32 ≤ a ∧ a ≤ nI 32) : Ct g mX11_isWeight [.int a] B I J P (some (.int (nI 1)), B, I, J, P) := by
  refine ct_of (lv := [some (.int (a))]) (by decide +kernel) (Nat.le_of_ble_eq_true rfl) rfl ?_
  refine ev_iload_n 1 dX11_isWeight_0 rfl rfl ?_
  refine ev_bipush 3 (v := -32) dX11_isWeight_1 (by decide +kernel) rfl ?_
  refine ev_icmp_lt 6 16 dX11_isWeight_3 (by decide) rfl (fun hx => absurd hx ((Int32.not_lt.mpr ha.1))) (fun hbr => ?_)
  refine ev_iload_n 7 dX11_isWeight_6 rfl rfl ?_
  refine ev_bipushN 9 32 dX11_isWeight_7 (by decide +kernel) rfl ?_
  refine ev_icmp_gt 12 16 dX11_isWeight_9 (by decide) rfl (fun hx => absurd hx ((Int32.not_lt.mpr ha.2))) (fun hbr => ?_)
  refine ev_iconstN 13 1 dX11_isWeight_12 rfl ?_
  refine ev_goto 17 dX11_isWeight_13 (by decide) ?_
  exact ev_zret dX11_isWeight_17 rfl (by first | rfl | assumption) (rfl)
theorem ct_isWeight_f {a : Int32} (ha : ¬ (-32 ≤ a ∧ a ≤ nI 32)) : Ct g mX11_isWeight [.int a] B I J P (some (.int (nI 0)), B, I, J, P) := by
  refine ct_of (lv := [some (.int a)]) (by decide +kernel) (Nat.le_of_ble_eq_true rfl) rfl ?_
  refine ev_iload_n 1 dX11_isWeight_0 rfl rfl ?_
  refine ev_bipush 3 (v := -32) dX11_isWeight_1 (by decide +kernel) rfl ?_
  refine ev_icmp_lt 6 16 dX11_isWeight_3 (by decide) rfl (fun h1 => ?_) (fun h1 => ?_)
  · refine ev_iconstN 17 0 dX11_isWeight_16 rfl ?_
    exact ev_zret dX11_isWeight_17 rfl (by first | rfl | assumption) (rfl)
  · refine ev_iload_n 7 dX11_isWeight_6 rfl rfl ?_
    refine ev_bipushN 9 32 dX11_isWeight_7 (by decide +kernel) rfl ?_
    refine ev_icmp_gt 12 16 dX11_isWeight_9 (by decide) rfl (fun hbr => ?_) (fun hx => absurd ((Int32.not_le.mp (fun h2 => ha ⟨Int32.not_lt.mp h1, h2⟩))) hx)
    refine ev_iconstN 17 0 dX11_isWeight_16 rfl ?_
    exact ev_zret dX11_isWeight_17 rfl (by first | rfl | assumption) (rfl)
theorem ct_coderAt_t (h : CA B I P x o n k) (I0 : mm_TI) (h0 : I0 x 4 = I x 4) : Ct g mX11_coderAt [.ref x, .int (nI k)] B I0 J P (some (.ref o), B, I0, J, P) := by
  obtain ⟨hV, hC, hxo, hx, h8, hk, hP⟩ := h
  refine ct_of (lv := [some (.ref x), some (.int (nI (k)))]) (by decide +kernel) (Nat.le_of_ble_eq_true rfl) rfl ?_
  refine ev_iload_n 1 dX11_coderAt_0 rfl rfl ?_
  refine ev_if_ltN 4 12 dX11_coderAt_1 (by decide) (by omega) rfl (fun hx => absurd hx ((not_false))) (fun hbr => ?_)
  refine ev_iload_n 5 dX11_coderAt_4 rfl rfl ?_
  refine ev_aload_n 6 dX11_coderAt_5 rfl rfl ?_
  refine ev_getI 9 mm_cl11 (j := 4) (Nat.le_of_ble_eq_true rfl) dX11_coderAt_6 lk265 (fun _ _ _ => rfl) (hV.1 0 _ rfl) rfl ?_
  refine ev_eqI (y := nI (n)) ((h0.trans hx)) ?_
  refine ev_icmp_ltN 12 16 dX11_coderAt_9 (by decide) (by omega) (by omega) rfl (fun hbr => ?_) (fun hx => absurd ((by omega)) hx)
  refine ev_aload_n 17 dX11_coderAt_16 rfl rfl ?_
  refine ev_getP 20 mm_cl11 (j := 3) (Nat.le_of_ble_eq_true rfl) dX11_coderAt_17 lk264 (fun _ _ _ => rfl) (hV.1 0 _ rfl) (a := (x + 19)) (hV.2.2 3 _ _ _ rfl) rfl ?_
  refine ev_iload_n 21 dX11_coderAt_20 rfl rfl ?_
  refine ev_aald 22 _ 0 dX11_coderAt_21 (hV.1 19 _ rfl) rfl (by have hNN := hV.2.1 19 _ rfl; omega) rfl ?_
  refine ev_eqR (a := o) (hP) ?_
  exact ev_aret dX11_coderAt_22 rfl (Or.inl ⟨_, rfl⟩) (rfl)
theorem ct_coderAt_f {c : Int32} (hV : lyV B P x) (hc : ¬ (0 ≤ c ∧ c < I x 4)) : Ct g mX11_coderAt [.ref x, .int c] B I J P (some .null, B, I, J, P) := by
  refine ct_of (lv := [some (.ref x), some (.int c)]) (by decide +kernel) (Nat.le_of_ble_eq_true rfl) rfl ?_
  refine ev_iload_n 1 dX11_coderAt_0 rfl rfl ?_
  refine ev_if_lt 4 12 dX11_coderAt_1 (by decide) rfl (fun h1 => ?_) (fun h1 => ?_)
  · refine ev_null 13 dX11_coderAt_12 rfl ?_
    refine ev_goto 22 dX11_coderAt_13 (by decide) ?_
    exact ev_aretN dX11_coderAt_22 rfl (Or.inl ⟨_, rfl⟩) (rfl)
  · refine ev_iload_n 5 dX11_coderAt_4 rfl rfl ?_
    refine ev_aload_n 6 dX11_coderAt_5 rfl rfl ?_
    refine ev_getI 9 mm_cl11 (j := 4) (Nat.le_of_ble_eq_true rfl) dX11_coderAt_6 lk265 (fun _ _ _ => rfl) (hV.1 0 _ rfl) rfl ?_
    refine ev_icmp_lt 12 16 dX11_coderAt_9 (by decide) rfl (fun hx => absurd hx ((fun h2 => hc ⟨Int32.not_lt.mp h1, h2⟩))) (fun hbr => ?_)
    refine ev_null 13 dX11_coderAt_12 rfl ?_
    refine ev_goto 22 dX11_coderAt_13 (by decide) ?_
    exact ev_aretN dX11_coderAt_22 rfl (Or.inl ⟨_, rfl⟩) (rfl)
theorem ca_t (h : CA B I P x o n k) : Ct g mX11_coderAt [.ref x, .int (nI k)] B (vz I x) J P (some (.ref o), B, vz I x, J, P) := ct_coderAt_t h _ (vzx rfl (by omega))
theorem ca_f {c : Int32} (hV : lyV B P x) (hx : I x 4 = nI n) (hc : ¬ (0 ≤ c ∧ c < nI n)) : Ct g mX11_coderAt [.ref x, .int c] B (vz I x) J P (some .null, B, vz I x, J, P) := ct_coderAt_f hV (by rw [vzx hx (by omega)]; exact hc)
theorem ct_memoryOf_0 (h : CA B I P x o n k) : Ct g mX11_memoryOf [.ref x, .int (nI k), .int (nI 0)] B (vz I x) J P (some (.ref (o + 13)), B, vz I x, J, P) := by
  have ca := ca_t (g := g) (J := J) h
  obtain ⟨hV, hC, hxo, hx, h8, hk, hP⟩ := h
  refine ct_of (lv := [some (.ref x), some (.int (nI (k))), some (.int (nI (0))), none]) (by decide +kernel) (Nat.le_of_ble_eq_true rfl) rfl ?_
  refine ev_aload_n 1 dX11_memoryOf_0 rfl rfl ?_
  refine ev_iload_n 2 dX11_memoryOf_1 rfl rfl ?_
  refine ev_invV 5 (Mc := mX11_coderAt) ⟨lk570, lk75, hdX11_coderAt, (Nat.le_of_ble_eq_true rfl), (Nat.le_of_ble_eq_true rfl)⟩ lk567 lk569 lk1 mm_cl11 rfl dX11_memoryOf_2 (ca) rfl (hV.1 0 _ rfl) (Nat.le_of_ble_eq_true rfl) rfl rfl ?_
  refine ev_astore_n 6 (lv' := [_, _, some (.int _), _]) dX11_memoryOf_5 (Nat.le_of_ble_eq_true rfl) rfl rfl ?_
  refine ev_aload_n 7 dX11_memoryOf_6 rfl rfl ?_
  refine ev_ifnull_r 10 dX11_memoryOf_7 rfl ?_
  refine ev_iload_n 11 dX11_memoryOf_10 rfl rfl ?_
  refine ev_invS 14 (Mc := mX11_isBit) ⟨lk299, lk75, hdX11_isBit, (Nat.le_of_ble_eq_true rfl), (Nat.le_of_ble_eq_true rfl)⟩ lk297 lk298 dX11_memoryOf_11 (ct_isBit_t (by omega)) rfl (Nat.le_of_ble_eq_true rfl) rfl rfl ?_
  refine ev_if_neN 17 19 dX11_memoryOf_14 (by decide) (by omega) rfl (fun hbr => ?_) (fun hx => absurd hx ((by omega)))
  refine ev_iload_n 20 dX11_memoryOf_19 rfl rfl ?_
  refine ev_if_neN 23 33 dX11_memoryOf_20 (by decide) (by omega) rfl (fun hx => absurd ((by omega)) hx) (fun hbr => ?_)
  refine ev_aload_n 24 dX11_memoryOf_23 rfl rfl ?_
  refine ev_getP 27 mm_cl0 (j := 3) (Nat.le_of_ble_eq_true rfl) dX11_memoryOf_24 lk549 (fun _ _ _ => rfl) (hC.1 0 _ rfl) (a := (o + 4)) (hC.2.2.1 2 _ _ _ rfl) rfl ?_
  refine ev_getP 30 mm_cl2 (j := 3) (Nat.le_of_ble_eq_true rfl) dX11_memoryOf_27 lk373 (fun _ _ _ => rfl) (hC.1 4 _ rfl) (a := (o + 13)) (hC.2.2.1 5 _ _ _ rfl) rfl ?_
  refine ev_goto 40 dX11_memoryOf_30 (by decide) ?_
  exact ev_aret dX11_memoryOf_40 rfl (Or.inl ⟨_, rfl⟩) (rfl)
theorem ct_memoryOf_1 (h : CA B I P x o n k) : Ct g mX11_memoryOf [.ref x, .int (nI k), .int (nI 1)] B (vz I x) J P (some (.ref (o + 29)), B, vz I x, J, P) := by
  have ca := ca_t (g := g) (J := J) h
  obtain ⟨hV, hC, hxo, hx, h8, hk, hP⟩ := h
  refine ct_of (lv := [some (.ref x), some (.int (nI (k))), some (.int (nI (1))), none]) (by decide +kernel) (Nat.le_of_ble_eq_true rfl) rfl ?_
  refine ev_aload_n 1 dX11_memoryOf_0 rfl rfl ?_
  refine ev_iload_n 2 dX11_memoryOf_1 rfl rfl ?_
  refine ev_invV 5 (Mc := mX11_coderAt) ⟨lk570, lk75, hdX11_coderAt, (Nat.le_of_ble_eq_true rfl), (Nat.le_of_ble_eq_true rfl)⟩ lk567 lk569 lk1 mm_cl11 rfl dX11_memoryOf_2 (ca) rfl (hV.1 0 _ rfl) (Nat.le_of_ble_eq_true rfl) rfl rfl ?_
  refine ev_astore_n 6 (lv' := [_, _, some (.int _), _]) dX11_memoryOf_5 (Nat.le_of_ble_eq_true rfl) rfl rfl ?_
  refine ev_aload_n 7 dX11_memoryOf_6 rfl rfl ?_
  refine ev_ifnull_r 10 dX11_memoryOf_7 rfl ?_
  refine ev_iload_n 11 dX11_memoryOf_10 rfl rfl ?_
  refine ev_invS 14 (Mc := mX11_isBit) ⟨lk299, lk75, hdX11_isBit, (Nat.le_of_ble_eq_true rfl), (Nat.le_of_ble_eq_true rfl)⟩ lk297 lk298 dX11_memoryOf_11 (ct_isBit_t (by omega)) rfl (Nat.le_of_ble_eq_true rfl) rfl rfl ?_
  refine ev_if_neN 17 19 dX11_memoryOf_14 (by decide) (by omega) rfl (fun hbr => ?_) (fun hx => absurd hx ((by omega)))
  refine ev_iload_n 20 dX11_memoryOf_19 rfl rfl ?_
  refine ev_if_neN 23 33 dX11_memoryOf_20 (by decide) (by omega) rfl (fun hbr => ?_) (fun hx => absurd hx ((by omega)))
  refine ev_aload_n 34 dX11_memoryOf_33 rfl rfl ?_
  refine ev_getP 37 mm_cl0 (j := 4) (Nat.le_of_ble_eq_true rfl) dX11_memoryOf_34 lk551 (fun _ _ _ => rfl) (hC.1 0 _ rfl) (a := (o + 17)) (hC.2.2.1 3 _ _ _ rfl) rfl ?_
  refine ev_getP 40 mm_cl1 (j := 2) (Nat.le_of_ble_eq_true rfl) dX11_memoryOf_37 lk475 (fun _ _ _ => rfl) (hC.1 17 _ rfl) (a := (o + 29)) (hC.2.2.1 13 _ _ _ rfl) rfl ?_
  exact ev_aret dX11_memoryOf_40 rfl (Or.inl ⟨_, rfl⟩) (rfl)
theorem ct_memoryOf_b {s : Int32} (h : CA B I P x o n k) (hs : ¬ (nI 0 ≤ s ∧ s ≤ nI 1)) : Ct g mX11_memoryOf [.ref x, .int (nI k), .int s] B (vz I x) J P (some .null, B, vz I x, J, P) := by
  have ca := ca_t (g := g) (J := J) h
  obtain ⟨hV, hC, hxo, hx, h8, hk, hP⟩ := h
  refine ct_of (lv := [some (.ref x), some (.int (nI (k))), some (.int (s)), none]) (by decide +kernel) (Nat.le_of_ble_eq_true rfl) rfl ?_
  refine ev_aload_n 1 dX11_memoryOf_0 rfl rfl ?_
  refine ev_iload_n 2 dX11_memoryOf_1 rfl rfl ?_
  refine ev_invV 5 (Mc := mX11_coderAt) ⟨lk570, lk75, hdX11_coderAt, (Nat.le_of_ble_eq_true rfl), (Nat.le_of_ble_eq_true rfl)⟩ lk567 lk569 lk1 mm_cl11 rfl dX11_memoryOf_2 (ca) rfl (hV.1 0 _ rfl) (Nat.le_of_ble_eq_true rfl) rfl rfl ?_
  refine ev_astore_n 6 (lv' := [_, _, some (.int _), _]) dX11_memoryOf_5 (Nat.le_of_ble_eq_true rfl) rfl rfl ?_
  refine ev_aload_n 7 dX11_memoryOf_6 rfl rfl ?_
  refine ev_ifnull_r 10 dX11_memoryOf_7 rfl ?_
  refine ev_iload_n 11 dX11_memoryOf_10 rfl rfl ?_
  refine ev_invS 14 (Mc := mX11_isBit) ⟨lk299, lk75, hdX11_isBit, (Nat.le_of_ble_eq_true rfl), (Nat.le_of_ble_eq_true rfl)⟩ lk297 lk298 dX11_memoryOf_11 (ct_isBit_f hs) rfl (Nat.le_of_ble_eq_true rfl) rfl rfl ?_
  refine ev_if_neN 17 19 dX11_memoryOf_14 (by decide) (by omega) rfl (fun hx => absurd ((by omega)) hx) (fun hbr => ?_)
  refine ev_null 18 dX11_memoryOf_17 rfl ?_
  exact ev_aretN dX11_memoryOf_18 rfl (Or.inl ⟨_, rfl⟩) (rfl)
theorem ct_memoryOf_f {c s : Int32} (hV : lyV B P x) (hx : I x 4 = nI n) (hc : ¬ (0 ≤ c ∧ c < nI n)) : Ct g mX11_memoryOf [.ref x, .int c, .int s] B (vz I x) J P (some .null, B, vz I x, J, P) := by
  have ca := ca_f (g := g) (J := J) hV hx hc
  refine ct_of (lv := [some (.ref x), some (.int (c)), some (.int (s)), none]) (by decide +kernel) (Nat.le_of_ble_eq_true rfl) rfl ?_
  refine ev_aload_n 1 dX11_memoryOf_0 rfl rfl ?_
  refine ev_iload_n 2 dX11_memoryOf_1 rfl rfl ?_
  refine ev_invV 5 (Mc := mX11_coderAt) ⟨lk570, lk75, hdX11_coderAt, (Nat.le_of_ble_eq_true rfl), (Nat.le_of_ble_eq_true rfl)⟩ lk567 lk569 lk1 mm_cl11 rfl dX11_memoryOf_2 (ca) rfl (hV.1 0 _ rfl) (Nat.le_of_ble_eq_true rfl) rfl rfl ?_
  refine ev_astore_nN 6 (lv' := [_, _, some (.int _), _]) dX11_memoryOf_5 (Nat.le_of_ble_eq_true rfl) rfl rfl ?_
  refine ev_aload_nN 7 dX11_memoryOf_6 rfl rfl ?_
  refine ev_ifnull_n 17 dX11_memoryOf_7 (by decide) ?_
  refine ev_null 18 dX11_memoryOf_17 rfl ?_
  exact ev_aretN dX11_memoryOf_18 rfl (Or.inl ⟨_, rfl⟩) (rfl)
theorem ct_pickRefusal_t {sp : Nat} (h : CA B I P x o n k) (hsp : sp ≤ 1) (r9 : I (o + 4) 9 = nI sp) : Ct g mX11_pickRefusal [.ref x, .int (nI k), .int (nI 1)] B I J P (some (.int (if sp = 1 then nI 0 else -2)), B, I, J, P) := by
  have ca := ct_coderAt_t (g := g) (J := J) h I rfl
  obtain ⟨hV, hC, hxo, hx, h8, hk, hP⟩ := h
  refine ct_of (lv := [some (.ref x), some (.int (nI (k))), some (.int (nI (1))), none]) (by decide +kernel) (Nat.le_of_ble_eq_true rfl) rfl ?_
  refine ev_aload_n 1 dX11_pickRefusal_0 rfl rfl ?_
  refine ev_iload_n 2 dX11_pickRefusal_1 rfl rfl ?_
  refine ev_invV 5 (Mc := mX11_coderAt) ⟨lk570, lk75, hdX11_coderAt, (Nat.le_of_ble_eq_true rfl), (Nat.le_of_ble_eq_true rfl)⟩ lk567 lk569 lk1 mm_cl11 rfl dX11_pickRefusal_2 (ca) rfl (hV.1 0 _ rfl) (Nat.le_of_ble_eq_true rfl) rfl rfl ?_
  refine ev_astore_n 6 (lv' := [_, _, some (.int _), _]) dX11_pickRefusal_5 (Nat.le_of_ble_eq_true rfl) rfl rfl ?_
  refine ev_aload_n 7 dX11_pickRefusal_6 rfl rfl ?_
  refine ev_ifnull_r 10 dX11_pickRefusal_7 rfl ?_
  refine ev_iload_n 11 dX11_pickRefusal_10 rfl rfl ?_
  refine ev_if_neN 14 16 dX11_pickRefusal_11 (by decide) (by omega) rfl (fun hbr => ?_) (fun hx => absurd hx ((by omega)))
  refine ev_aload_n 17 dX11_pickRefusal_16 rfl rfl ?_
  refine ev_getP 20 mm_cl0 (j := 3) (Nat.le_of_ble_eq_true rfl) dX11_pickRefusal_17 lk549 (fun _ _ _ => rfl) (hC.1 0 _ rfl) (a := (o + 4)) (hC.2.2.1 2 _ _ _ rfl) rfl ?_
  refine ev_getI 23 mm_cl2 (j := 9) (Nat.le_of_ble_eq_true rfl) dX11_pickRefusal_20 lk381 (fun _ _ _ => rfl) (hC.1 4 _ rfl) rfl ?_
  refine ev_eqI (y := nI (sp)) (r9) ?_
  refine ev_if_eqN 26 30 dX11_pickRefusal_23 (by decide) (by omega) rfl (fun h1 => ?_) (fun h1 => ?_)
  · refine ev_bipush 32 (v := -2) dX11_pickRefusal_30 (by decide +kernel) rfl ?_
    rw [if_neg (by omega)]
    exact ev_iret dX11_pickRefusal_32 rfl (rfl)
  · refine ev_iconstN 27 0 dX11_pickRefusal_26 rfl ?_
    refine ev_goto 32 dX11_pickRefusal_27 (by decide) ?_
    rw [if_pos (by omega)]
    exact ev_iret dX11_pickRefusal_32 rfl (rfl)
theorem ct_pickRefusal_b (h : CA B I P x o n k) : Ct g mX11_pickRefusal [.ref x, .int (nI k), .int (nI 0)] B I J P (some (.int (-1)), B, I, J, P) := by
  have ca := ct_coderAt_t (g := g) (J := J) h I rfl
  obtain ⟨hV, hC, hxo, hx, h8, hk, hP⟩ := h
  refine ct_of (lv := [some (.ref x), some (.int (nI (k))), some (.int (nI (0))), none]) (by decide +kernel) (Nat.le_of_ble_eq_true rfl) rfl ?_
  refine ev_aload_n 1 dX11_pickRefusal_0 rfl rfl ?_
  refine ev_iload_n 2 dX11_pickRefusal_1 rfl rfl ?_
  refine ev_invV 5 (Mc := mX11_coderAt) ⟨lk570, lk75, hdX11_coderAt, (Nat.le_of_ble_eq_true rfl), (Nat.le_of_ble_eq_true rfl)⟩ lk567 lk569 lk1 mm_cl11 rfl dX11_pickRefusal_2 (ca) rfl (hV.1 0 _ rfl) (Nat.le_of_ble_eq_true rfl) rfl rfl ?_
  refine ev_astore_n 6 (lv' := [_, _, some (.int _), _]) dX11_pickRefusal_5 (Nat.le_of_ble_eq_true rfl) rfl rfl ?_
  refine ev_aload_n 7 dX11_pickRefusal_6 rfl rfl ?_
  refine ev_ifnull_r 10 dX11_pickRefusal_7 rfl ?_
  refine ev_iload_n 11 dX11_pickRefusal_10 rfl rfl ?_
  refine ev_if_neN 14 16 dX11_pickRefusal_11 (by decide) (by omega) rfl (fun hx => absurd ((by omega)) hx) (fun hbr => ?_)
  refine ev_iconst 15 (v := -1) dX11_pickRefusal_14 (by decide +kernel) rfl ?_
  exact ev_iret dX11_pickRefusal_15 rfl (rfl)
theorem ct_pickRefusal_f {c : Int32} {b : Nat} (hV : lyV B P x) (hx : I x 4 = nI n) (hc : ¬ (0 ≤ c ∧ c < nI n)) : Ct g mX11_pickRefusal [.ref x, .int c, .int (nI b)] B I J P (some (.int (-1)), B, I, J, P) := by
  have ca := ct_coderAt_f (g := g) (J := J) (I := I) (c := c) hV (by rw [hx]; exact hc)
  refine ct_of (lv := [some (.ref x), some (.int (c)), some (.int (nI (b))), none]) (by decide +kernel) (Nat.le_of_ble_eq_true rfl) rfl ?_
  refine ev_aload_n 1 dX11_pickRefusal_0 rfl rfl ?_
  refine ev_iload_n 2 dX11_pickRefusal_1 rfl rfl ?_
  refine ev_invV 5 (Mc := mX11_coderAt) ⟨lk570, lk75, hdX11_coderAt, (Nat.le_of_ble_eq_true rfl), (Nat.le_of_ble_eq_true rfl)⟩ lk567 lk569 lk1 mm_cl11 rfl dX11_pickRefusal_2 (ca) rfl (hV.1 0 _ rfl) (Nat.le_of_ble_eq_true rfl) rfl rfl ?_
  refine ev_astore_nN 6 (lv' := [_, _, some (.int _), _]) dX11_pickRefusal_5 (Nat.le_of_ble_eq_true rfl) rfl rfl ?_
  refine ev_aload_nN 7 dX11_pickRefusal_6 rfl rfl ?_
  refine ev_ifnull_n 14 dX11_pickRefusal_7 (by decide) ?_
  refine ev_iconst 15 (v := -1) dX11_pickRefusal_14 (by decide +kernel) rfl ?_
  exact ev_iret dX11_pickRefusal_15 rfl (rfl)
theorem ct_frameAt_t {L i : Nat} {φ : Nat → Nat} (h : CA B I P x o n k) (hL : I (o + 2) 1 = nI L) (hl : L ≤ 250) (hi : i < L) (hp : P (o + 3) i = some (φ i)) (tf : mm_T B (φ i) = 104) : Ct g mX11_frameAt [.ref x, .int (nI k), .int (nI i)] B (vz I x) J P (some (.ref (φ i)), B, vz I x, J, P) := by
  have ca := ca_t (g := g) (J := J) h
  obtain ⟨hV, hC, hxo, hx, h8, hk, hP⟩ := h
  refine ct_of (lv := [some (.ref x), some (.int (nI (k))), some (.int (nI (i))), none]) (by decide +kernel) (Nat.le_of_ble_eq_true rfl) rfl ?_
  refine ev_aload_n 1 dX11_frameAt_0 rfl rfl ?_
  refine ev_iload_n 2 dX11_frameAt_1 rfl rfl ?_
  refine ev_invV 5 (Mc := mX11_coderAt) ⟨lk570, lk75, hdX11_coderAt, (Nat.le_of_ble_eq_true rfl), (Nat.le_of_ble_eq_true rfl)⟩ lk567 lk569 lk1 mm_cl11 rfl dX11_frameAt_2 (ca) rfl (hV.1 0 _ rfl) (Nat.le_of_ble_eq_true rfl) rfl rfl ?_
  refine ev_astore_n 6 (lv' := [_, _, some (.int _), _]) dX11_frameAt_5 (Nat.le_of_ble_eq_true rfl) rfl rfl ?_
  refine ev_aload_n 7 dX11_frameAt_6 rfl rfl ?_
  refine ev_ifnull_r 10 dX11_frameAt_7 rfl ?_
  refine ev_iload_n 11 dX11_frameAt_10 rfl rfl ?_
  refine ev_if_ltN 14 25 dX11_frameAt_11 (by decide) (by omega) rfl (fun hx => absurd hx ((not_false))) (fun hbr => ?_)
  refine ev_iload_n 15 dX11_frameAt_14 rfl rfl ?_
  refine ev_aload_n 16 dX11_frameAt_15 rfl rfl ?_
  refine ev_getP 19 mm_cl0 (j := 2) (Nat.le_of_ble_eq_true rfl) dX11_frameAt_16 lk547 (fun _ _ _ => rfl) (hC.1 0 _ rfl) (a := (o + 2)) (hC.2.2.1 1 _ _ _ rfl) rfl ?_
  refine ev_getI 22 mm_cl5 (j := 1) (Nat.le_of_ble_eq_true rfl) dX11_frameAt_19 lk320 (fun _ _ _ => rfl) (hC.1 2 _ rfl) rfl ?_
  refine ev_eqI (y := nI (L)) ((vzk hL (by omega))) ?_
  refine ev_icmp_ltN 25 29 dX11_frameAt_22 (by decide) (by omega) (by omega) rfl (fun hbr => ?_) (fun hx => absurd ((by omega)) hx)
  refine ev_aload_n 30 dX11_frameAt_29 rfl rfl ?_
  refine ev_getP 33 mm_cl0 (j := 2) (Nat.le_of_ble_eq_true rfl) dX11_frameAt_30 lk547 (fun _ _ _ => rfl) (hC.1 0 _ rfl) (a := (o + 2)) (hC.2.2.1 1 _ _ _ rfl) rfl ?_
  refine ev_getP 36 mm_cl5 (j := 0) (Nat.le_of_ble_eq_true rfl) dX11_frameAt_33 lk318 (fun _ _ _ => rfl) (hC.1 2 _ rfl) (a := (o + 3)) (hC.2.2.1 4 _ _ _ rfl) rfl ?_
  refine ev_iload_n 37 dX11_frameAt_36 rfl rfl ?_
  refine ev_aald 38 _ 4 dX11_frameAt_37 (hC.1 3 _ rfl) rfl (by have hNN := hC.2.1 3 _ rfl; omega) rfl ?_
  refine ev_eqR (a := (φ i)) (hp) ?_
  exact ev_aret dX11_frameAt_38 rfl (Or.inl ⟨_, rfl⟩) (rfl)
theorem ct_frameAt_b {L : Nat} {i : Int32} (h : CA B I P x o n k) (hL : I (o + 2) 1 = nI L) (hi : ¬ (0 ≤ i ∧ i < nI L)) : Ct g mX11_frameAt [.ref x, .int (nI k), .int i] B (vz I x) J P (some .null, B, vz I x, J, P) := by
  have ca := ca_t (g := g) (J := J) h
  obtain ⟨hV, hC, hxo, hx, h8, hk, hP⟩ := h
  refine ct_of (lv := [some (.ref x), some (.int (nI (k))), some (.int (i)), none]) (by decide +kernel) (Nat.le_of_ble_eq_true rfl) rfl ?_
  refine ev_aload_n 1 dX11_frameAt_0 rfl rfl ?_
  refine ev_iload_n 2 dX11_frameAt_1 rfl rfl ?_
  refine ev_invV 5 (Mc := mX11_coderAt) ⟨lk570, lk75, hdX11_coderAt, (Nat.le_of_ble_eq_true rfl), (Nat.le_of_ble_eq_true rfl)⟩ lk567 lk569 lk1 mm_cl11 rfl dX11_frameAt_2 (ca) rfl (hV.1 0 _ rfl) (Nat.le_of_ble_eq_true rfl) rfl rfl ?_
  refine ev_astore_n 6 (lv' := [_, _, some (.int _), _]) dX11_frameAt_5 (Nat.le_of_ble_eq_true rfl) rfl rfl ?_
  refine ev_aload_n 7 dX11_frameAt_6 rfl rfl ?_
  refine ev_ifnull_r 10 dX11_frameAt_7 rfl ?_
  refine ev_iload_n 11 dX11_frameAt_10 rfl rfl ?_
  refine ev_if_lt 14 25 dX11_frameAt_11 (by decide) rfl (fun h1 => ?_) (fun h1 => ?_)
  · refine ev_null 26 dX11_frameAt_25 rfl ?_
    refine ev_goto 38 dX11_frameAt_26 (by decide) ?_
    exact ev_aretN dX11_frameAt_38 rfl (Or.inl ⟨_, rfl⟩) (rfl)
  · refine ev_iload_n 15 dX11_frameAt_14 rfl rfl ?_
    refine ev_aload_n 16 dX11_frameAt_15 rfl rfl ?_
    refine ev_getP 19 mm_cl0 (j := 2) (Nat.le_of_ble_eq_true rfl) dX11_frameAt_16 lk547 (fun _ _ _ => rfl) (hC.1 0 _ rfl) (a := (o + 2)) (hC.2.2.1 1 _ _ _ rfl) rfl ?_
    refine ev_getI 22 mm_cl5 (j := 1) (Nat.le_of_ble_eq_true rfl) dX11_frameAt_19 lk320 (fun _ _ _ => rfl) (hC.1 2 _ rfl) rfl ?_
    refine ev_eqI (y := ((nI L))) ((vzk hL (by omega))) ?_
    refine ev_icmp_lt 25 29 dX11_frameAt_22 (by decide) rfl (fun hx => absurd hx ((fun h2 => hi ⟨Int32.not_lt.mp h1, h2⟩))) (fun hbr => ?_)
    refine ev_null 26 dX11_frameAt_25 rfl ?_
    refine ev_goto 38 dX11_frameAt_26 (by decide) ?_
    exact ev_aretN dX11_frameAt_38 rfl (Or.inl ⟨_, rfl⟩) (rfl)
theorem ct_frameAt_f {c i : Int32} (hV : lyV B P x) (hx : I x 4 = nI n) (hc : ¬ (0 ≤ c ∧ c < nI n)) : Ct g mX11_frameAt [.ref x, .int c, .int i] B (vz I x) J P (some .null, B, vz I x, J, P) := by
  have ca := ca_f (g := g) (J := J) hV hx hc
  refine ct_of (lv := [some (.ref x), some (.int (c)), some (.int (i)), none]) (by decide +kernel) (Nat.le_of_ble_eq_true rfl) rfl ?_
  refine ev_aload_n 1 dX11_frameAt_0 rfl rfl ?_
  refine ev_iload_n 2 dX11_frameAt_1 rfl rfl ?_
  refine ev_invV 5 (Mc := mX11_coderAt) ⟨lk570, lk75, hdX11_coderAt, (Nat.le_of_ble_eq_true rfl), (Nat.le_of_ble_eq_true rfl)⟩ lk567 lk569 lk1 mm_cl11 rfl dX11_frameAt_2 (ca) rfl (hV.1 0 _ rfl) (Nat.le_of_ble_eq_true rfl) rfl rfl ?_
  refine ev_astore_nN 6 (lv' := [_, _, some (.int _), _]) dX11_frameAt_5 (Nat.le_of_ble_eq_true rfl) rfl rfl ?_
  refine ev_aload_nN 7 dX11_frameAt_6 rfl rfl ?_
  refine ev_ifnull_n 25 dX11_frameAt_7 (by decide) ?_
  refine ev_null 26 dX11_frameAt_25 rfl ?_
  refine ev_goto 38 dX11_frameAt_26 (by decide) ?_
  exact ev_aretN dX11_frameAt_38 rfl (Or.inl ⟨_, rfl⟩) (rfl)
/-! the model's -/
theorem ct_isFrame_t {L i : Nat} (h : MA B I P m n k) (hL : I (m + 28) k = nI L) (hl : L ≤ 250) (hi : i < L) : Ct g mX12_isFrame [.ref m, .int (nI k), .int (nI i)] B I J P (some (.int (nI 1)), B, I, J, P) := by
  obtain ⟨hM, hn, h8, hk⟩ := h
  refine ct_of (lv := [some (.ref m), some (.int (nI (k))), some (.int (nI (i)))]) (by decide +kernel) (Nat.le_of_ble_eq_true rfl) rfl ?_
  refine ev_aload_n 1 dX12_isFrame_0 rfl rfl ?_
  refine ev_iload_n 2 dX12_isFrame_1 rfl rfl ?_
  refine ev_invV 5 (Mc := mX12_isCoder) ⟨lk1552, lk80, hdX12_isCoder, (Nat.le_of_ble_eq_true rfl), (Nat.le_of_ble_eq_true rfl)⟩ lk1549 lk1551 lk40 mm_cl12 rfl dX12_isFrame_2 (ct_X12_isCoder_t hM hn h8 hk) rfl (hM.1 0 _ rfl) (Nat.le_of_ble_eq_true rfl) rfl rfl ?_
  refine ev_if_eqN 8 26 dX12_isFrame_5 (by decide) (by omega) rfl (fun hx => absurd hx ((by omega))) (fun hbr => ?_)
  refine ev_iload_n 9 dX12_isFrame_8 rfl rfl ?_
  refine ev_if_ltN 12 26 dX12_isFrame_9 (by decide) (by omega) rfl (fun hx => absurd hx ((not_false))) (fun hbr => ?_)
  refine ev_iload_n 13 dX12_isFrame_12 rfl rfl ?_
  refine ev_aload_n 14 dX12_isFrame_13 rfl rfl ?_
  refine ev_getP 17 mm_cl12 (j := 33) (Nat.le_of_ble_eq_true rfl) dX12_isFrame_14 lk1318 (fun _ _ _ => rfl) (hM.1 0 _ rfl) (a := (m + 28)) (hM.2.2 27 _ _ _ rfl) rfl ?_
  refine ev_iload_n 18 dX12_isFrame_17 rfl rfl ?_
  refine ev_iald 19 _ dX12_isFrame_18 (hM.1 28 _ rfl) rfl (by have hNN := hM.2.1 28 _ rfl; omega) rfl ?_
  refine ev_eqI (y := nI (L)) (hL) ?_
  refine ev_icmp_geN 22 26 dX12_isFrame_19 (by decide) (by omega) (by omega) rfl (fun hx => absurd hx ((by omega))) (fun hbr => ?_)
  refine ev_iconstN 23 1 dX12_isFrame_22 rfl ?_
  refine ev_goto 27 dX12_isFrame_23 (by decide) ?_
  exact ev_zret dX12_isFrame_27 rfl (by first | rfl | assumption) (rfl)
theorem ct_isFrame_b {L : Nat} {i : Int32} (h : MA B I P m n k) (hL : I (m + 28) k = nI L) (hi : ¬ (0 ≤ i ∧ i < nI L)) : Ct g mX12_isFrame [.ref m, .int (nI k), .int i] B I J P (some (.int (nI 0)), B, I, J, P) := by
  obtain ⟨hM, hn, h8, hk⟩ := h
  refine ct_of (lv := [some (.ref m), some (.int (nI (k))), some (.int (i))]) (by decide +kernel) (Nat.le_of_ble_eq_true rfl) rfl ?_
  refine ev_aload_n 1 dX12_isFrame_0 rfl rfl ?_
  refine ev_iload_n 2 dX12_isFrame_1 rfl rfl ?_
  refine ev_invV 5 (Mc := mX12_isCoder) ⟨lk1552, lk80, hdX12_isCoder, (Nat.le_of_ble_eq_true rfl), (Nat.le_of_ble_eq_true rfl)⟩ lk1549 lk1551 lk40 mm_cl12 rfl dX12_isFrame_2 (ct_X12_isCoder_t hM hn h8 hk) rfl (hM.1 0 _ rfl) (Nat.le_of_ble_eq_true rfl) rfl rfl ?_
  refine ev_if_eqN 8 26 dX12_isFrame_5 (by decide) (by omega) rfl (fun hx => absurd hx ((by omega))) (fun hbr => ?_)
  refine ev_iload_n 9 dX12_isFrame_8 rfl rfl ?_
  refine ev_if_lt 12 26 dX12_isFrame_9 (by decide) rfl (fun h1 => ?_) (fun h1 => ?_)
  · refine ev_iconstN 27 0 dX12_isFrame_26 rfl ?_
    exact ev_zret dX12_isFrame_27 rfl (by first | rfl | assumption) (rfl)
  · refine ev_iload_n 13 dX12_isFrame_12 rfl rfl ?_
    refine ev_aload_n 14 dX12_isFrame_13 rfl rfl ?_
    refine ev_getP 17 mm_cl12 (j := 33) (Nat.le_of_ble_eq_true rfl) dX12_isFrame_14 lk1318 (fun _ _ _ => rfl) (hM.1 0 _ rfl) (a := (m + 28)) (hM.2.2 27 _ _ _ rfl) rfl ?_
    refine ev_iload_n 18 dX12_isFrame_17 rfl rfl ?_
    refine ev_iald 19 _ dX12_isFrame_18 (hM.1 28 _ rfl) rfl (by have hNN := hM.2.1 28 _ rfl; omega) rfl ?_
    refine ev_eqI (y := ((nI L))) (hL) ?_
    refine ev_icmp_ge 22 26 dX12_isFrame_19 (by decide) rfl (fun hbr => ?_) (fun hx => absurd ((Int32.not_lt.mp (fun h2 => hi ⟨Int32.not_lt.mp h1, h2⟩))) hx)
    refine ev_iconstN 27 0 dX12_isFrame_26 rfl ?_
    exact ev_zret dX12_isFrame_27 rfl (by first | rfl | assumption) (rfl)
theorem ct_isFrame_f {c i : Int32} (hM : lyM B P m) (hn : I m 0 = nI n) (hc : ¬ (0 ≤ c ∧ c < nI n)) : Ct g mX12_isFrame [.ref m, .int c, .int i] B I J P (some (.int (nI 0)), B, I, J, P) := by
  refine ct_of (lv := [some (.ref m), some (.int (c)), some (.int (i))]) (by decide +kernel) (Nat.le_of_ble_eq_true rfl) rfl ?_
  refine ev_aload_n 1 dX12_isFrame_0 rfl rfl ?_
  refine ev_iload_n 2 dX12_isFrame_1 rfl rfl ?_
  refine ev_invV 5 (Mc := mX12_isCoder) ⟨lk1552, lk80, hdX12_isCoder, (Nat.le_of_ble_eq_true rfl), (Nat.le_of_ble_eq_true rfl)⟩ lk1549 lk1551 lk40 mm_cl12 rfl dX12_isFrame_2 (ct_X12_isCoder_f hM (by rw [hn]; exact hc)) rfl (hM.1 0 _ rfl) (Nat.le_of_ble_eq_true rfl) rfl rfl ?_
  refine ev_if_eqN 8 26 dX12_isFrame_5 (by decide) (by omega) rfl (fun hbr => ?_) (fun hx => absurd ((by omega)) hx)
  refine ev_iconstN 27 0 dX12_isFrame_26 rfl ?_
  exact ev_zret dX12_isFrame_27 rfl (by first | rfl | assumption) (rfl)
end HLP
