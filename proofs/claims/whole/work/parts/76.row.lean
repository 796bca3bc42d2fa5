/-! rows of bytes; new cells -/
def b8 (v : Int32) : Int32 := v.toInt8.toInt32
theorem b8_b8 (v : Int32) : b8 (b8 v) = b8 v := by unfold b8; simp
theorem b8_n (v : Int32) : narrow .byte (.int (b8 v)) = .int (b8 v) := congrArg Value.int (b8_b8 v)
/-- the sum of n bytes, before it is narrowed -/
def sp_xs (F : Nat → Int32) : Nat → Int32
  | 0 => nI 165
  | n + 1 => sp_xs F n ^^^ F n
theorem sp_xs_cg {F F' : Nat → Int32} : ∀ n, (∀ k, k < n → F k = F' k) → sp_xs F n = sp_xs F' n := by
  intro n
  induction n with
  | zero => intro _; rfl
  | succ n ih =>
    intro h
    show sp_xs F n ^^^ F n = sp_xs F' n ^^^ F' n
    rw [ih (fun k hk => h k (by omega)), h n (by omega)]
/-- the model's memory with L bytes of F in its row -/
def rwM (I : mm_TI) (m row L : Nat) (F : Nat → Int32) : mm_TI := va_up (va_up I (m + 31) (va_up (I (m + 31)) row (nI L))) (m + 33) (sgp (I (m + 33)) (64 * row) L F)
theorem rwM_o {I : mm_TI} {m row L : Nat} {F : Nat → Int32} {q : Nat} (h1 : q ≠ m + 31) (h2 : q ≠ m + 33) : rwM I m row L F q = I q := by
  unfold rwM
  rw [va_up_n _ _ h2, va_up_n _ _ h1]
section MRW
variable {g : mm_G} {B : mm_B} {I : mm_TI} {J : mm_TJ} {P : mm_TP} {m : Nat}
theorem ct_X12_put {row L : Nat} {F : Nat → Int32} {b : Int32} (hM : lyM B P m) (hr : row < 4300) (hL : L < 64) (hb : b8 b = F L) : Ct g mX12_put [.ref m, .int (nI row), .int b] B (rwM I m row L F) J P (none, B, rwM I m row (L + 1) F, J, P) := by
  have h31 : rwM I m row L F (m + 31) row = nI L := by unfold rwM; rw [va_up_n _ _ (by omega), va_up_s, va_up_s]
  refine ct_of (lv := [some (.ref m), some (.int (nI row)), some (.int b)]) (by decide +kernel) (Nat.le_of_ble_eq_true rfl) rfl ?_
  refine ev_aload_n 1 dX12_put_0 rfl rfl ?_
  refine ev_getP 4 mm_cl12 (j := 39) (Nat.le_of_ble_eq_true rfl) dX12_put_1 lk1324 (fun _ _ _ => rfl) (hM.1 0 _ rfl) (a := (m + 33)) (hM.2.2 32 _ _ _ rfl) rfl ?_
  refine ev_bipushN 6 64 dX12_put_4 (by decide +kernel) rfl ?_
  refine ev_iload_n 7 dX12_put_6 rfl rfl ?_
  refine ev_imulN 8 dX12_put_7 rfl ?_
  refine ev_aload_n 9 dX12_put_8 rfl rfl ?_
  refine ev_getP 12 mm_cl12 (j := 37) (Nat.le_of_ble_eq_true rfl) dX12_put_9 lk1322 (fun _ _ _ => rfl) (hM.1 0 _ rfl) (a := (m + 31)) (hM.2.2 30 _ _ _ rfl) rfl ?_
  refine ev_iload_n 13 dX12_put_12 rfl rfl ?_
  refine ev_iald 14 _ dX12_put_13 (hM.1 31 _ rfl) rfl (by have hNN := hM.2.1 31 _ rfl; omega) rfl ?_
  refine ev_eqI (y := nI (L)) (h31) ?_
  refine ev_iaddN 15 dX12_put_14 rfl ?_
  refine ev_iload_n 16 dX12_put_15 rfl rfl ?_
  refine ev_i2b 17 dX12_put_16 rfl ?_
  refine ev_iast 18 _ dX12_put_17 (hM.1 33 _ rfl) rfl (by have hNN := hM.2.1 33 _ rfl; omega) rfl ?_
  rw [show b.toInt8.toInt32 = F L from hb]
  refine ev_aload_n 19 dX12_put_18 rfl rfl ?_
  refine ev_getP 22 mm_cl12 (j := 37) (Nat.le_of_ble_eq_true rfl) dX12_put_19 lk1322 (fun _ _ _ => rfl) (hM.1 0 _ rfl) (a := (m + 31)) (hM.2.2 30 _ _ _ rfl) rfl ?_
  refine ev_iload_n 23 dX12_put_22 rfl rfl ?_
  refine ev_dup2_11 24 dX12_put_23 rfl rfl rfl ?_
  refine ev_iald 25 _ dX12_put_24 (hM.1 31 _ rfl) rfl (by have hNN := hM.2.1 31 _ rfl; omega) rfl ?_
  refine ev_eqI (y := nI (L)) ((by rw [va_up_n _ _ (by omega)]; exact h31)) ?_
  refine ev_iconstN 26 1 dX12_put_25 rfl ?_
  refine ev_iaddN 27 dX12_put_26 rfl ?_
  refine ev_iast 28 _ dX12_put_27 (hM.1 31 _ rfl) rfl (by have hNN := hM.2.1 31 _ rfl; omega) rfl ?_
  exact ev_vret dX12_put_28 rfl ((by unfold rwM; simp only [va_up_s, bx_uu, va_up_n _ _ (show m + 31 ≠ m + 33 by omega)]; rw [sgp_grow rfl, va_3 I (a := m + 31) (b := m + 33) _ _ _ (by omega)]))
theorem lp_X12_sumOf {row n : Nat} {F : Nat → Int32} (hM : lyM B P m) (hr : row < 4300) (hn : n ≤ 64) (hF : ∀ k, k < n → I (m + 33) (64 * row + k) = F k) : ∀ (d i : Nat), i + d = n →
    Ev g mX12_sumOf 7 [some (.ref m), some (.int (nI row)), some (.int (nI n)), some (.int (sp_xs F i)), some (.int (nI i))] [] B I J P (some (.int (b8 (sp_xs F n))), B, I, J, P) := by
  intro d
  induction d with
  | zero =>
    intro i hi
    obtain rfl : i = n := by omega
    refine ev_iload 9 dX12_sumOf_7 rfl rfl ?_
    refine ev_iload_n 10 dX12_sumOf_9 rfl rfl ?_
    refine ev_icmp_geN 13 34 dX12_sumOf_10 (by decide) (by omega) (by omega) rfl (fun hbr => ?_) (fun hx => absurd ((by omega)) hx)
    refine ev_iload_n 35 dX12_sumOf_34 rfl rfl ?_
    refine ev_i2b 36 dX12_sumOf_35 rfl ?_
    exact ev_iret dX12_sumOf_36 rfl (rfl)
  | succ d ih =>
    intro i hi
    have e := ih (i + 1) (by omega)
    refine ev_iload 9 dX12_sumOf_7 rfl rfl ?_
    refine ev_iload_n 10 dX12_sumOf_9 rfl rfl ?_
    refine ev_icmp_geN 13 34 dX12_sumOf_10 (by decide) (by omega) (by omega) rfl (fun hx => absurd hx ((by omega))) (fun hbr => ?_)
    refine ev_iload_n 14 dX12_sumOf_13 rfl rfl ?_
    refine ev_aload_n 15 dX12_sumOf_14 rfl rfl ?_
    refine ev_getP 18 mm_cl12 (j := 39) (Nat.le_of_ble_eq_true rfl) dX12_sumOf_15 lk1324 (fun _ _ _ => rfl) (hM.1 0 _ rfl) (a := (m + 33)) (hM.2.2 32 _ _ _ rfl) rfl ?_
    refine ev_bipushN 20 64 dX12_sumOf_18 (by decide +kernel) rfl ?_
    refine ev_iload_n 21 dX12_sumOf_20 rfl rfl ?_
    refine ev_imulN 22 dX12_sumOf_21 rfl ?_
    refine ev_iload 24 dX12_sumOf_22 rfl rfl ?_
    refine ev_iaddN 25 dX12_sumOf_24 rfl ?_
    refine ev_iald 26 _ dX12_sumOf_25 (hM.1 33 _ rfl) rfl (by have hNN := hM.2.1 33 _ rfl; omega) rfl ?_
    refine ev_eqI (y := (F i)) ((hF i (by omega))) ?_
    refine ev_ixor 27 dX12_sumOf_26 rfl ?_
    refine ev_istore_n 28 (lv' := [_, _, some (.int _), _, _]) dX12_sumOf_27 (Nat.le_of_ble_eq_true rfl) rfl rfl ?_
    refine ev_iincN 31 (lv' := [_, _, _, some (.int _), _]) 1 dX12_sumOf_28 rfl (Nat.le_of_ble_eq_true rfl) rfl rfl ?_
    refine ev_goto 7 dX12_sumOf_31 (by decide) ?_
    exact e
theorem ct_X12_sumOf {row n : Nat} {F : Nat → Int32} (hM : lyM B P m) (hr : row < 4300) (hn : n ≤ 64) (hF : ∀ k, k < n → I (m + 33) (64 * row + k) = F k) : Ct g mX12_sumOf [.ref m, .int (nI row), .int (nI n)] B I J P (some (.int (b8 (sp_xs F n))), B, I, J, P) := by
  have e := lp_X12_sumOf (g := g) (J := J) hM hr hn hF n 0 (by omega)
  refine ct_of (lv := [some (.ref m), some (.int (nI row)), some (.int (nI n)), none, none]) (by decide +kernel) (Nat.le_of_ble_eq_true rfl) rfl ?_
  refine ev_sipushN 3 165 dX12_sumOf_0 (by decide +kernel) rfl ?_
  refine ev_istore_n 4 (lv' := [_, _, some (.int _), _, _]) dX12_sumOf_3 (Nat.le_of_ble_eq_true rfl) rfl rfl ?_
  refine ev_iconstN 5 0 dX12_sumOf_4 rfl ?_
  refine ev_istore 7 (lv' := [_, _, _, some (.int _), _]) dX12_sumOf_5 (Nat.le_of_ble_eq_true rfl) rfl rfl ?_
  exact e
theorem ct_X12_newRow {R n s : Nat} (hM : lyM B P m) (hR : I m 36 = nI R) (h43 : R < 4300) (hs : s ≤ 1) : Ct g mX12_newRow [.ref m, .int (nI n), .int (nI s)] B I J P
    (some (.int (nI R)), B, va_up (va_up (va_up I (m + 31) (va_up (I (m + 31)) R (nI n))) (m + 32) (va_up (I (m + 32)) R (nI s))) m (va_up (I m) 36 (nI (R + 1))), J, P) := by
  have hs' : narrow .boolean (.int (nI s)) = .int (nI s) := by
    rcases (show s = 0 ∨ s = 1 by omega) with rfl | rfl <;> rfl
  refine ct_of (lv := [some (.ref m), some (.int (nI n)), some (.int (nI s))]) (by decide +kernel) (Nat.le_of_ble_eq_true rfl) rfl ?_
  refine ev_aload_n 1 dX12_newRow_0 rfl rfl ?_
  refine ev_getP 4 mm_cl12 (j := 37) (Nat.le_of_ble_eq_true rfl) dX12_newRow_1 lk1322 (fun _ _ _ => rfl) (hM.1 0 _ rfl) (a := (m + 31)) (hM.2.2 30 _ _ _ rfl) rfl ?_
  refine ev_aload_n 5 dX12_newRow_4 rfl rfl ?_
  refine ev_getI 8 mm_cl12 (j := 36) (Nat.le_of_ble_eq_true rfl) dX12_newRow_5 lk1321 (fun _ _ _ => rfl) (hM.1 0 _ rfl) rfl ?_
  refine ev_eqI (y := nI (R)) (hR) ?_
  refine ev_iload_n 9 dX12_newRow_8 rfl rfl ?_
  refine ev_iast 10 _ dX12_newRow_9 (hM.1 31 _ rfl) rfl (by have hNN := hM.2.1 31 _ rfl; omega) rfl ?_
  refine ev_aload_n 11 dX12_newRow_10 rfl rfl ?_
  refine ev_getP 14 mm_cl12 (j := 38) (Nat.le_of_ble_eq_true rfl) dX12_newRow_11 lk1323 (fun _ _ _ => rfl) (hM.1 0 _ rfl) (a := (m + 32)) (hM.2.2 31 _ _ _ rfl) rfl ?_
  refine ev_aload_n 15 dX12_newRow_14 rfl rfl ?_
  refine ev_getI 18 mm_cl12 (j := 36) (Nat.le_of_ble_eq_true rfl) dX12_newRow_15 lk1321 (fun _ _ _ => rfl) (hM.1 0 _ rfl) rfl ?_
  refine ev_eqI (y := nI (R)) ((by rw [va_up_n _ _ (by omega)]; exact hR)) ?_
  refine ev_iload_n 19 dX12_newRow_18 rfl rfl ?_
  refine ev_zast 20 _ dX12_newRow_19 (hM.1 32 _ rfl) rfl (by have hNN := hM.2.1 32 _ rfl; omega) (by assumption) rfl ?_
  refine ev_aload_n 21 dX12_newRow_20 rfl rfl ?_
  refine ev_dup 22 dX12_newRow_21 rfl rfl ?_
  refine ev_getI 25 mm_cl12 (j := 36) (Nat.le_of_ble_eq_true rfl) dX12_newRow_22 lk1321 (fun _ _ _ => rfl) (hM.1 0 _ rfl) rfl ?_
  refine ev_eqI (y := nI (R)) ((by rw [va_up_n _ _ (by omega), va_up_n _ _ (by omega)]; exact hR)) ?_
  refine ev_iconstN 26 1 dX12_newRow_25 rfl ?_
  refine ev_iaddN 27 dX12_newRow_26 rfl ?_
  refine ev_putI 30 mm_cl12 (j := 36) (Nat.le_of_ble_eq_true rfl) dX12_newRow_27 lk1321 rfl (fun _ _ _ => rfl) rfl rfl (hM.1 0 _ rfl) rfl ?_
  refine ev_aload_n 31 dX12_newRow_30 rfl rfl ?_
  refine ev_getI 34 mm_cl12 (j := 36) (Nat.le_of_ble_eq_true rfl) dX12_newRow_31 lk1321 (fun _ _ _ => rfl) (hM.1 0 _ rfl) rfl ?_
  refine ev_eqI (y := nI ((R+1))) ((by rw [va_up_s, va_up_s])) ?_
  refine ev_iconstN 35 1 dX12_newRow_34 rfl ?_
  refine ev_isubN 36 dX12_newRow_35 (by omega) rfl ?_
  rw [va_up_n _ _ (show m ≠ m + 32 by omega), va_up_n _ _ (show m ≠ m + 31 by omega), va_up_n _ _ (show m + 32 ≠ m + 31 by omega), show R + 1 - 1 = R from rfl]
  exact ev_iret dX12_newRow_36 rfl (rfl)
theorem ct_X12_append {c L : Nat} {v rw : Int32} (hM : lyM B P m) (hc8 : c < 8) (hL : I (m + 28) c = nI L) (h250 : L < 250) : Ct g mX12_append [.ref m, .int (nI c), .int v, .int rw] B I J P
    (none, B, va_up (va_up (va_up I (m + 29) (va_up (I (m + 29)) (250 * c + L) v)) (m + 30) (va_up (I (m + 30)) (250 * c + L) (rw + nI 1))) (m + 28) (va_up (I (m + 28)) c (nI (L + 1))), J, P) := by
  refine ct_of (lv := [some (.ref m), some (.int (nI c)), some (.int v), some (.int rw)]) (by decide +kernel) (Nat.le_of_ble_eq_true rfl) rfl ?_
  refine ev_aload_n 1 dX12_append_0 rfl rfl ?_
  refine ev_getP 4 mm_cl12 (j := 34) (Nat.le_of_ble_eq_true rfl) dX12_append_1 lk1319 (fun _ _ _ => rfl) (hM.1 0 _ rfl) (a := (m + 29)) (hM.2.2 28 _ _ _ rfl) rfl ?_
  refine ev_sipushN 7 250 dX12_append_4 (by decide +kernel) rfl ?_
  refine ev_iload_n 8 dX12_append_7 rfl rfl ?_
  refine ev_imulN 9 dX12_append_8 rfl ?_
  refine ev_aload_n 10 dX12_append_9 rfl rfl ?_
  refine ev_getP 13 mm_cl12 (j := 33) (Nat.le_of_ble_eq_true rfl) dX12_append_10 lk1318 (fun _ _ _ => rfl) (hM.1 0 _ rfl) (a := (m + 28)) (hM.2.2 27 _ _ _ rfl) rfl ?_
  refine ev_iload_n 14 dX12_append_13 rfl rfl ?_
  refine ev_iald 15 _ dX12_append_14 (hM.1 28 _ rfl) rfl (by have hNN := hM.2.1 28 _ rfl; omega) rfl ?_
  refine ev_eqI (y := nI (L)) (hL) ?_
  refine ev_iaddN 16 dX12_append_15 rfl ?_
  refine ev_iload_n 17 dX12_append_16 rfl rfl ?_
  refine ev_iast 18 _ dX12_append_17 (hM.1 29 _ rfl) rfl (by have hNN := hM.2.1 29 _ rfl; omega) rfl ?_
  refine ev_aload_n 19 dX12_append_18 rfl rfl ?_
  refine ev_getP 22 mm_cl12 (j := 35) (Nat.le_of_ble_eq_true rfl) dX12_append_19 lk1320 (fun _ _ _ => rfl) (hM.1 0 _ rfl) (a := (m + 30)) (hM.2.2 29 _ _ _ rfl) rfl ?_
  refine ev_sipushN 25 250 dX12_append_22 (by decide +kernel) rfl ?_
  refine ev_iload_n 26 dX12_append_25 rfl rfl ?_
  refine ev_imulN 27 dX12_append_26 rfl ?_
  refine ev_aload_n 28 dX12_append_27 rfl rfl ?_
  refine ev_getP 31 mm_cl12 (j := 33) (Nat.le_of_ble_eq_true rfl) dX12_append_28 lk1318 (fun _ _ _ => rfl) (hM.1 0 _ rfl) (a := (m + 28)) (hM.2.2 27 _ _ _ rfl) rfl ?_
  refine ev_iload_n 32 dX12_append_31 rfl rfl ?_
  refine ev_iald 33 _ dX12_append_32 (hM.1 28 _ rfl) rfl (by have hNN := hM.2.1 28 _ rfl; omega) rfl ?_
  refine ev_eqI (y := nI (L)) ((by rw [va_up_n _ _ (by omega)]; exact hL)) ?_
  refine ev_iaddN 34 dX12_append_33 rfl ?_
  refine ev_iload_n 35 dX12_append_34 rfl rfl ?_
  refine ev_iconstN 36 1 dX12_append_35 rfl ?_
  refine ev_iadd 37 dX12_append_36 rfl ?_
  refine ev_iast 38 _ dX12_append_37 (hM.1 30 _ rfl) rfl (by have hNN := hM.2.1 30 _ rfl; omega) rfl ?_
  refine ev_aload_n 39 dX12_append_38 rfl rfl ?_
  refine ev_getP 42 mm_cl12 (j := 33) (Nat.le_of_ble_eq_true rfl) dX12_append_39 lk1318 (fun _ _ _ => rfl) (hM.1 0 _ rfl) (a := (m + 28)) (hM.2.2 27 _ _ _ rfl) rfl ?_
  refine ev_iload_n 43 dX12_append_42 rfl rfl ?_
  refine ev_dup2_11 44 dX12_append_43 rfl rfl rfl ?_
  refine ev_iald 45 _ dX12_append_44 (hM.1 28 _ rfl) rfl (by have hNN := hM.2.1 28 _ rfl; omega) rfl ?_
  refine ev_eqI (y := nI (L)) ((by rw [va_up_n _ _ (by omega), va_up_n _ _ (by omega)]; exact hL)) ?_
  refine ev_iconstN 46 1 dX12_append_45 rfl ?_
  refine ev_iaddN 47 dX12_append_46 rfl ?_
  refine ev_iast 48 _ dX12_append_47 (hM.1 28 _ rfl) rfl (by have hNN := hM.2.1 28 _ rfl; omega) rfl ?_
  rw [va_up_n _ _ (show m + 28 ≠ m + 30 by omega), va_up_n _ _ (show m + 28 ≠ m + 29 by omega), va_up_n _ _ (show m + 30 ≠ m + 29 by omega)]
  exact ev_vret dX12_append_48 rfl (rfl)
end MRW
/-! new cells leave the layouts -/
section ALY
variable {g : mm_G} {B : mm_B} {P : mm_TP} {t n sl : Nat} {f : Nat → Option Nat}
theorem ly_T_al {b : Nat} {TL : List (Option Nat)} (h : ly_T B b TL) (hb : b + TL.length ≤ mm_nx B) : ly_T (mm_al B t n sl) b TL := fun k t' e => by
  have hk : k < TL.length := (List.getElem?_eq_some_iff.mp e).1
  show va_up (mm_T B) (mm_nx B) t (b + k) = t'
  rw [va_up_n _ _ (by omega)]; exact h k t' e
theorem ly_N_al {b : Nat} {TL : List (Option Nat)} (h : ly_N B b TL) (hb : b + TL.length ≤ mm_nx B) : ly_N (mm_al B t n sl) b TL := fun k t' e => by
  have hk : k < TL.length := (List.getElem?_eq_some_iff.mp e).1
  show va_up (mm_N B) (mm_nx B) n (b + k) = t'
  rw [va_up_n _ _ (by omega)]; exact h k t' e
theorem ly_P_al {b c q W : Nat} {PL : List (Nat × Nat × Nat)} (h : ly_P P b c PL) (ha : PL.all (fun r => decide (r.1 < W)) = true) (hb : b + W ≤ q) : ly_P (va_up P q f) b c PL := fun i k j t' e => by
  have hk := List.all_eq_true.mp ha _ (List.mem_of_getElem? e)
  have hk' : k < W := by simpa using hk
  rw [va_up_n _ _ (by omega)]; exact h i k j t' e
theorem ly_P_up {b c q W : Nat} {PL : List (Nat × Nat × Nat)} (h : ly_P P b c PL) (ha : PL.all (fun r => decide (r.1 < W)) = true) (hb : q < b ∨ b + W ≤ q) : ly_P (va_up P q f) b c PL := fun i k j t' e => by
  have hk := List.all_eq_true.mp ha _ (List.mem_of_getElem? e)
  have hk' : k < W := by simpa using hk
  rw [va_up_n _ _ (by omega)]; exact h i k j t' e
theorem lyV_al {x : Nat} (h : lyV B P x) (hb : x + 22 ≤ mm_nx B) : lyV (mm_al B t n sl) (va_up P (mm_nx B) f) x :=
  ⟨ly_T_al h.1 hb, ly_N_al h.2.1 hb, ly_P_al (W := 22) h.2.2 (by decide) hb⟩
theorem lyC_al {x o : Nat} (h : lyC B P x o) (hb : o + 33 ≤ mm_nx B) : lyC (mm_al B t n sl) (va_up P (mm_nx B) f) x o :=
  ⟨ly_T_al h.1 hb, ly_N_al h.2.1 hb, ly_P_al (W := 33) h.2.2.1 (by decide) hb, ly_P_al (W := 33) h.2.2.2 (by decide) hb⟩
theorem lyM_al {m : Nat} (h : lyM B P m) (hb : m + 64 ≤ mm_nx B) : lyM (mm_al B t n sl) (va_up P (mm_nx B) f) m :=
  ⟨ly_T_al h.1 hb, ly_N_al h.2.1 hb, ly_P_al (W := 64) h.2.2 (by decide) hb⟩
theorem ly_G_al (h : ly_G g B) (hb : ∀ i, i < 3 → g.2.2 i < mm_nx B) : ly_G g (mm_al B t n sl) := fun i k e => by
  have hi : i < 3 := (List.getElem?_eq_some_iff.mp e).1
  have := hb i hi
  refine ⟨?_, ?_⟩
  · show va_up (mm_T B) (mm_nx B) t (g.2.2 i) = 1
    rw [va_up_n _ _ (by omega)]; exact (h i k e).1
  · show va_up (mm_N B) (mm_nx B) n (g.2.2 i) = k
    rw [va_up_n _ _ (by omega)]; exact (h i k e).2
theorem al_T {q : Nat} (h : q ≠ mm_nx B) : mm_T (mm_al B t n sl) q = mm_T B q := va_up_n _ _ h
theorem al_N {q : Nat} (h : q ≠ mm_nx B) : mm_N (mm_al B t n sl) q = mm_N B q := va_up_n _ _ h
theorem al_Ts : mm_T (mm_al B t n sl) (mm_nx B) = t := va_up_s _ _ _
theorem al_Ns : mm_N (mm_al B t n sl) (mm_nx B) = n := va_up_s _ _ _
theorem al_x : mm_nx (mm_al B t n sl) = mm_nx B + 1 := rfl
end ALY
section VRW
variable {g : mm_G} {B : mm_B} {I : mm_TI} {J : mm_TJ} {P : mm_TP} {x o : Nat}
theorem lp_X11_sumOf {q n : Nat} {F : Nat → Int32} (tq : mm_T B q = 201) (nq : mm_N B q = n + 1) (h31 : n + 1 < 2 ^ 31) (hF : ∀ k, k < n → I q k = F k) : ∀ (d i : Nat), i + d = n →
    Ev g mX11_sumOf 6 [some (.ref q), some (.int (sp_xs F i)), some (.int (nI i))] [] B I J P (some (.int (b8 (sp_xs F n))), B, I, J, P) := by
  have hb := b8_n (sp_xs F n)
  intro d
  induction d with
  | zero =>
    intro i hi
    obtain rfl : i = n := by omega
    refine ev_iload_n 7 dX11_sumOf_6 rfl rfl ?_
    refine ev_aload_n 8 dX11_sumOf_7 rfl rfl ?_
    refine ev_alen 9 1 dX11_sumOf_8 tq rfl ?_
    refine ev_iconstN 10 1 dX11_sumOf_9 rfl ?_
    refine ev_isubN 11 dX11_sumOf_10 (by omega) rfl ?_
    refine ev_icmp_geN 14 26 dX11_sumOf_11 (by decide) (by omega) (by omega) rfl (fun hbr => ?_) (fun hx => absurd ((by omega)) hx)
    refine ev_iload_n 27 dX11_sumOf_26 rfl rfl ?_
    refine ev_i2b 28 dX11_sumOf_27 rfl ?_
    exact ev_zret dX11_sumOf_28 rfl (by first | rfl | assumption) (rfl)
  | succ d ih =>
    intro i hi
    have e := ih (i + 1) (by omega)
    refine ev_iload_n 7 dX11_sumOf_6 rfl rfl ?_
    refine ev_aload_n 8 dX11_sumOf_7 rfl rfl ?_
    refine ev_alen 9 1 dX11_sumOf_8 tq rfl ?_
    refine ev_iconstN 10 1 dX11_sumOf_9 rfl ?_
    refine ev_isubN 11 dX11_sumOf_10 (by omega) rfl ?_
    refine ev_icmp_geN 14 26 dX11_sumOf_11 (by decide) (by omega) (by omega) rfl (fun hx => absurd hx ((by omega))) (fun hbr => ?_)
    refine ev_iload_n 15 dX11_sumOf_14 rfl rfl ?_
    refine ev_aload_n 16 dX11_sumOf_15 rfl rfl ?_
    refine ev_iload_n 17 dX11_sumOf_16 rfl rfl ?_
    refine ev_bald 18 _ dX11_sumOf_17 tq rfl (by omega) rfl ?_
    refine ev_eqI (y := (F i)) ((hF i (by omega))) ?_
    refine ev_ixor 19 dX11_sumOf_18 rfl ?_
    refine ev_istore_n 20 (lv' := [some (.ref _), _, _]) dX11_sumOf_19 (Nat.le_of_ble_eq_true rfl) rfl rfl ?_
    refine ev_iincN 23 (lv' := [_, some (.int _), _]) 1 dX11_sumOf_20 rfl (Nat.le_of_ble_eq_true rfl) rfl rfl ?_
    refine ev_goto 6 dX11_sumOf_23 (by decide) ?_
    exact e
theorem ct_X11_sumOf {q n : Nat} {F : Nat → Int32} (tq : mm_T B q = 201) (nq : mm_N B q = n + 1) (h31 : n + 1 < 2 ^ 31) (hF : ∀ k, k < n → I q k = F k) : Ct g mX11_sumOf [.ref q] B I J P (some (.int (b8 (sp_xs F n))), B, I, J, P) := by
  have e := lp_X11_sumOf (g := g) (J := J) (P := P) tq nq h31 hF n 0 (by omega)
  refine ct_of (lv := [some (.ref q), none, none]) (by decide +kernel) (Nat.le_of_ble_eq_true rfl) rfl ?_
  refine ev_sipushN 3 165 dX11_sumOf_0 (by decide +kernel) rfl ?_
  refine ev_istore_n 4 (lv' := [some (.ref _), _, _]) dX11_sumOf_3 (Nat.le_of_ble_eq_true rfl) rfl rfl ?_
  refine ev_iconstN 5 0 dX11_sumOf_4 rfl ?_
  refine ev_istore_n 6 (lv' := [_, some (.int _), _]) dX11_sumOf_5 (Nat.le_of_ble_eq_true rfl) rfl rfl ?_
  exact e
theorem lx_fillJ {q N : Nat} {v : Int64} (ht : mm_T B q = 204) (nq : mm_N B q = N) (h31 : N < 2 ^ 31) : ∀ (d i : Nat), i + d = N → ∀ F : Nat → Int64, (∀ k, k < i → F k = v) → ∃ F' : Nat → Int64, (∀ k, k < N → F' k = v) ∧
    Ev g mJ7_fill_d0a16 6 [some (.ref q), some (.long v), none, some (.int (nI i)), some (.int (nI N))] [] B I (va_up J q F) P (none, B, I, va_up J q F', P) := by
  intro d
  induction d with
  | zero =>
    intro i hi F hF
    obtain rfl : i = N := by omega
    refine ⟨F, hF, ?_⟩
    refine ev_iload_n 7 dJ7_fill_d0a16_6 rfl rfl ?_
    refine ev_iload 9 dJ7_fill_d0a16_7 rfl rfl ?_
    refine ev_icmp_geN 12 22 dJ7_fill_d0a16_9 (by decide) (by omega) (by omega) rfl (fun hbr => ?_) (fun hx => absurd ((by omega)) hx)
    exact ev_vret dJ7_fill_d0a16_22 rfl (rfl)
  | succ d ih =>
    intro i hi F hF
    obtain ⟨F', h1, h2⟩ := ih (i + 1) (by omega) (va_up F i v) (fun k hk => by
      by_cases c : k = i
      · subst c; rw [va_up_s]
      · rw [va_up_n _ _ c]; exact hF k (by omega))
    refine ⟨F', h1, ?_⟩
    refine ev_iload_n 7 dJ7_fill_d0a16_6 rfl rfl ?_
    refine ev_iload 9 dJ7_fill_d0a16_7 rfl rfl ?_
    refine ev_icmp_geN 12 22 dJ7_fill_d0a16_9 (by decide) (by omega) (by omega) rfl (fun hx => absurd hx ((by omega))) (fun hbr => ?_)
    refine ev_aload_n 13 dJ7_fill_d0a16_12 rfl rfl ?_
    refine ev_iload_n 14 dJ7_fill_d0a16_13 rfl rfl ?_
    refine ev_lload_n 15 dJ7_fill_d0a16_14 rfl rfl ?_
    refine ev_last 16 _ dJ7_fill_d0a16_15 ht rfl (by omega) rfl ?_
    refine ev_iincN 19 (lv' := [_, _, none, _, _]) 1 dJ7_fill_d0a16_16 rfl (Nat.le_of_ble_eq_true rfl) rfl rfl ?_
    refine ev_goto 6 dJ7_fill_d0a16_19 (by decide) ?_
    rw [va_up_s, bx_uu]
    exact h2
theorem cx_fillJ {q N : Nat} {v : Int64} (ht : mm_T B q = 204) (nq : mm_N B q = N) (h31 : N < 2 ^ 31) : ∃ F' : Nat → Int64, (∀ k, k < N → F' k = v) ∧ Ct g mJ7_fill_d0a16 [.ref q, .long v] B I J P (none, B, I, va_up J q F', P) := by
  obtain ⟨F', h1, h2⟩ := lx_fillJ (g := g) (I := I) (J := J) (P := P) (v := v) ht nq h31 N 0 (by omega) (J q) (fun k hk => by omega)
  rw [va_up_id] at h2
  refine ⟨F', h1, ?_⟩
  refine ct_of (lv := [some (.ref q), some (.long v), none, none, none]) (by decide +kernel) (Nat.le_of_ble_eq_true rfl) rfl ?_
  refine ev_iconstN 1 0 dJ7_fill_d0a16_0 rfl ?_
  refine ev_istore_n 2 (lv' := [_, _, none, _, _]) dJ7_fill_d0a16_1 (Nat.le_of_ble_eq_true rfl) rfl rfl ?_
  refine ev_aload_n 3 dJ7_fill_d0a16_2 rfl rfl ?_
  refine ev_alen 4 4 dJ7_fill_d0a16_3 ht rfl ?_
  rw [nq]
  refine ev_istore 6 (lv' := [_, _, _, some (.int _), _]) dJ7_fill_d0a16_4 (Nat.le_of_ble_eq_true rfl) rfl rfl ?_
  exact h2
theorem cx_X8_wipe (hV : lyV B P x) : ∃ (I' : mm_TI) (J' : mm_TJ), Ct g mX8_wipe [.ref (x + 4)] B I J P (none, B, I', J', P) ∧ (∀ k, 5 ≤ k → k ≤ 14 → I' (x + k) = fun _ => 0) ∧ (∀ q, q < x + 5 ∨ x + 14 < q → I' q = I q) ∧ (∀ n, n < 9 → J' (x + 15) n = 0) ∧ (∀ n, n < 8 → J' (x + 16) n = 0) ∧ (∀ q, q ≠ x + 15 → q ≠ x + 16 → J' q = J q) := by
  have hN := fun k t e => hV.2.1 k t e
  have n5 := hN 5 _ rfl
  have n6 := hN 6 _ rfl
  have n7 := hN 7 _ rfl
  have n8 := hN 8 _ rfl
  have n9 := hN 9 _ rfl
  have n10 := hN 10 _ rfl
  have n11 := hN 11 _ rfl
  have n12 := hN 12 _ rfl
  have n13 := hN 13 _ rfl
  have n14 := hN 14 _ rfl
  have n15 := hN 15 _ rfl
  have n16 := hN 16 _ rfl
  generalize hI' : va_up (va_up (va_up (va_up (va_up (va_up (va_up (va_up (va_up (va_up I (x + 5) (fun _ => 0)) (x + 6) (fun _ => 0)) (x + 7) (fun _ => 0)) (x + 8) (fun _ => 0)) (x + 9) (fun _ => 0)) (x + 10) (fun _ => 0)) (x + 11) (fun _ => 0)) (x + 12) (fun _ => 0)) (x + 13) (fun _ => 0)) (x + 14) (fun _ => 0) = I'
  obtain ⟨F1, f1, c1⟩ := cx_fillJ (g := g) (I := I') (J := J) (P := P) (v := 0) (hV.1 15 _ rfl) n15 (by omega)
  obtain ⟨F2, f2, c2⟩ := cx_fillJ (g := g) (I := I') (J := va_up J (x + 15) F1) (P := P) (v := 0) (hV.1 16 _ rfl) n16 (by omega)
  refine ⟨I', va_up (va_up J (x + 15) F1) (x + 16) F2, ?_, ?_, ?_, ?_, ?_, ?_⟩
  · refine ct_of (lv := [some (.ref (x + 4))]) (by decide +kernel) (Nat.le_of_ble_eq_true rfl) rfl ?_
    refine ev_aload_n 1 dX8_wipe_0 rfl rfl ?_
    refine ev_getP 4 mm_cl8 (j := 0) (Nat.le_of_ble_eq_true rfl) dX8_wipe_1 lk132 (fun _ _ _ => rfl) (hV.1 4 _ rfl) (a := (x + 5)) (hV.2.2 8 _ _ _ rfl) rfl ?_
    refine ev_iconstN 5 0 dX8_wipe_4 rfl ?_
    refine ev_invSv 8 (Mc := mJ7_fill_53178) ⟨lk687, lk90, hdJ7_fill_53178, (Nat.le_of_ble_eq_true rfl), (Nat.le_of_ble_eq_true rfl)⟩ lk852 lk686 dX8_wipe_5 (ct_fill0 (hV.1 5 _ rfl) (by omega)) rfl (Nat.le_of_ble_eq_true rfl) rfl rfl ?_
    refine ev_aload_n 9 dX8_wipe_8 rfl rfl ?_
    refine ev_getP 12 mm_cl8 (j := 1) (Nat.le_of_ble_eq_true rfl) dX8_wipe_9 lk135 (fun _ _ _ => rfl) (hV.1 4 _ rfl) (a := (x + 6)) (hV.2.2 9 _ _ _ rfl) rfl ?_
    refine ev_iconstN 13 0 dX8_wipe_12 rfl ?_
    refine ev_invSv 16 (Mc := mJ7_fill_53178) ⟨lk687, lk90, hdJ7_fill_53178, (Nat.le_of_ble_eq_true rfl), (Nat.le_of_ble_eq_true rfl)⟩ lk852 lk686 dX8_wipe_13 (ct_fill0 (hV.1 6 _ rfl) (by omega)) rfl (Nat.le_of_ble_eq_true rfl) rfl rfl ?_
    refine ev_aload_n 17 dX8_wipe_16 rfl rfl ?_
    refine ev_getP 20 mm_cl8 (j := 2) (Nat.le_of_ble_eq_true rfl) dX8_wipe_17 lk138 (fun _ _ _ => rfl) (hV.1 4 _ rfl) (a := (x + 7)) (hV.2.2 10 _ _ _ rfl) rfl ?_
    refine ev_iconstN 21 0 dX8_wipe_20 rfl ?_
    refine ev_invSv 24 (Mc := mJ7_fill_53178) ⟨lk687, lk90, hdJ7_fill_53178, (Nat.le_of_ble_eq_true rfl), (Nat.le_of_ble_eq_true rfl)⟩ lk852 lk686 dX8_wipe_21 (ct_fill0 (hV.1 7 _ rfl) (by omega)) rfl (Nat.le_of_ble_eq_true rfl) rfl rfl ?_
    refine ev_aload_n 25 dX8_wipe_24 rfl rfl ?_
    refine ev_getP 28 mm_cl8 (j := 3) (Nat.le_of_ble_eq_true rfl) dX8_wipe_25 lk141 (fun _ _ _ => rfl) (hV.1 4 _ rfl) (a := (x + 8)) (hV.2.2 11 _ _ _ rfl) rfl ?_
    refine ev_iconstN 29 0 dX8_wipe_28 rfl ?_
    refine ev_invSv 32 (Mc := mJ7_fill_53178) ⟨lk687, lk90, hdJ7_fill_53178, (Nat.le_of_ble_eq_true rfl), (Nat.le_of_ble_eq_true rfl)⟩ lk852 lk686 dX8_wipe_29 (ct_fill0 (hV.1 8 _ rfl) (by omega)) rfl (Nat.le_of_ble_eq_true rfl) rfl rfl ?_
    refine ev_aload_n 33 dX8_wipe_32 rfl rfl ?_
    refine ev_getP 36 mm_cl8 (j := 4) (Nat.le_of_ble_eq_true rfl) dX8_wipe_33 lk143 (fun _ _ _ => rfl) (hV.1 4 _ rfl) (a := (x + 9)) (hV.2.2 12 _ _ _ rfl) rfl ?_
    refine ev_iconstN 37 0 dX8_wipe_36 rfl ?_
    refine ev_invSv 40 (Mc := mJ7_fill_53178) ⟨lk687, lk90, hdJ7_fill_53178, (Nat.le_of_ble_eq_true rfl), (Nat.le_of_ble_eq_true rfl)⟩ lk852 lk686 dX8_wipe_37 (ct_fill0 (hV.1 9 _ rfl) (by omega)) rfl (Nat.le_of_ble_eq_true rfl) rfl rfl ?_
    refine ev_aload_n 41 dX8_wipe_40 rfl rfl ?_
    refine ev_getP 44 mm_cl8 (j := 5) (Nat.le_of_ble_eq_true rfl) dX8_wipe_41 lk146 (fun _ _ _ => rfl) (hV.1 4 _ rfl) (a := (x + 10)) (hV.2.2 13 _ _ _ rfl) rfl ?_
    refine ev_iconstN 45 0 dX8_wipe_44 rfl ?_
    refine ev_invSv 48 (Mc := mJ7_fill_53178) ⟨lk687, lk90, hdJ7_fill_53178, (Nat.le_of_ble_eq_true rfl), (Nat.le_of_ble_eq_true rfl)⟩ lk852 lk686 dX8_wipe_45 (ct_fill0 (hV.1 10 _ rfl) (by omega)) rfl (Nat.le_of_ble_eq_true rfl) rfl rfl ?_
    refine ev_aload_n 49 dX8_wipe_48 rfl rfl ?_
    refine ev_getP 52 mm_cl8 (j := 6) (Nat.le_of_ble_eq_true rfl) dX8_wipe_49 lk148 (fun _ _ _ => rfl) (hV.1 4 _ rfl) (a := (x + 11)) (hV.2.2 14 _ _ _ rfl) rfl ?_
    refine ev_iconstN 53 0 dX8_wipe_52 rfl ?_
    refine ev_invSv 56 (Mc := mJ7_fill_53178) ⟨lk687, lk90, hdJ7_fill_53178, (Nat.le_of_ble_eq_true rfl), (Nat.le_of_ble_eq_true rfl)⟩ lk852 lk686 dX8_wipe_53 (ct_fill0 (hV.1 11 _ rfl) (by omega)) rfl (Nat.le_of_ble_eq_true rfl) rfl rfl ?_
    refine ev_aload_n 57 dX8_wipe_56 rfl rfl ?_
    refine ev_getP 60 mm_cl8 (j := 7) (Nat.le_of_ble_eq_true rfl) dX8_wipe_57 lk150 (fun _ _ _ => rfl) (hV.1 4 _ rfl) (a := (x + 12)) (hV.2.2 15 _ _ _ rfl) rfl ?_
    refine ev_iconstN 61 0 dX8_wipe_60 rfl ?_
    refine ev_invSv 64 (Mc := mJ7_fill_53178) ⟨lk687, lk90, hdJ7_fill_53178, (Nat.le_of_ble_eq_true rfl), (Nat.le_of_ble_eq_true rfl)⟩ lk852 lk686 dX8_wipe_61 (ct_fill0 (hV.1 12 _ rfl) (by omega)) rfl (Nat.le_of_ble_eq_true rfl) rfl rfl ?_
    refine ev_aload_n 65 dX8_wipe_64 rfl rfl ?_
    refine ev_getP 68 mm_cl8 (j := 8) (Nat.le_of_ble_eq_true rfl) dX8_wipe_65 lk152 (fun _ _ _ => rfl) (hV.1 4 _ rfl) (a := (x + 13)) (hV.2.2 16 _ _ _ rfl) rfl ?_
    refine ev_iconstN 69 0 dX8_wipe_68 rfl ?_
    refine ev_invSv 72 (Mc := mJ7_fill_53178) ⟨lk687, lk90, hdJ7_fill_53178, (Nat.le_of_ble_eq_true rfl), (Nat.le_of_ble_eq_true rfl)⟩ lk852 lk686 dX8_wipe_69 (ct_fill0 (hV.1 13 _ rfl) (by omega)) rfl (Nat.le_of_ble_eq_true rfl) rfl rfl ?_
    refine ev_aload_n 73 dX8_wipe_72 rfl rfl ?_
    refine ev_getP 76 mm_cl8 (j := 9) (Nat.le_of_ble_eq_true rfl) dX8_wipe_73 lk154 (fun _ _ _ => rfl) (hV.1 4 _ rfl) (a := (x + 14)) (hV.2.2 17 _ _ _ rfl) rfl ?_
    refine ev_iconstN 77 0 dX8_wipe_76 rfl ?_
    refine ev_invSv 80 (Mc := mJ7_fill_53178) ⟨lk687, lk90, hdJ7_fill_53178, (Nat.le_of_ble_eq_true rfl), (Nat.le_of_ble_eq_true rfl)⟩ lk852 lk686 dX8_wipe_77 (ct_fill0 (hV.1 14 _ rfl) (by omega)) rfl (Nat.le_of_ble_eq_true rfl) rfl rfl ?_
    rw [hI']
    refine ev_aload_n 81 dX8_wipe_80 rfl rfl ?_
    refine ev_getP 84 mm_cl8 (j := 10) (Nat.le_of_ble_eq_true rfl) dX8_wipe_81 lk156 (fun _ _ _ => rfl) (hV.1 4 _ rfl) (a := (x + 15)) (hV.2.2 18 _ _ _ rfl) rfl ?_
    refine ev_lconst 85 (v := 0) dX8_wipe_84 (by decide +kernel) rfl ?_
    refine ev_invSv 88 (Mc := mJ7_fill_d0a16) ⟨lk855, lk90, hdJ7_fill_d0a16, (Nat.le_of_ble_eq_true rfl), (Nat.le_of_ble_eq_true rfl)⟩ lk853 lk854 dX8_wipe_85 (c1) rfl (Nat.le_of_ble_eq_true rfl) rfl rfl ?_
    refine ev_aload_n 89 dX8_wipe_88 rfl rfl ?_
    refine ev_getP 92 mm_cl8 (j := 11) (Nat.le_of_ble_eq_true rfl) dX8_wipe_89 lk158 (fun _ _ _ => rfl) (hV.1 4 _ rfl) (a := (x + 16)) (hV.2.2 19 _ _ _ rfl) rfl ?_
    refine ev_lconst 93 (v := 0) dX8_wipe_92 (by decide +kernel) rfl ?_
    refine ev_invSv 96 (Mc := mJ7_fill_d0a16) ⟨lk855, lk90, hdJ7_fill_d0a16, (Nat.le_of_ble_eq_true rfl), (Nat.le_of_ble_eq_true rfl)⟩ lk853 lk854 dX8_wipe_93 (c2) rfl (Nat.le_of_ble_eq_true rfl) rfl rfl ?_
    exact ev_vret dX8_wipe_96 rfl (rfl)
  · intro k h1 h2
    rw [← hI']
    rcases (show k = 5 ∨ k = 6 ∨ k = 7 ∨ k = 8 ∨ k = 9 ∨ k = 10 ∨ k = 11 ∨ k = 12 ∨ k = 13 ∨ k = 14 by omega) with rfl | rfl | rfl | rfl | rfl | rfl | rfl | rfl | rfl | rfl <;> simp (disch := omega) only [va_up_s, va_up_n]
  · intro q h
    rw [← hI']
    rw [va_up_n _ _ (by omega), va_up_n _ _ (by omega), va_up_n _ _ (by omega), va_up_n _ _ (by omega), va_up_n _ _ (by omega), va_up_n _ _ (by omega), va_up_n _ _ (by omega), va_up_n _ _ (by omega), va_up_n _ _ (by omega), va_up_n _ _ (by omega)]
  · intro n hn
    rw [va_up_n _ _ (by omega), va_up_s]; exact f1 n hn
  · intro n hn
    rw [va_up_s]; exact f2 n hn
  · intro q h1 h2
    rw [va_up_n _ _ h2, va_up_n _ _ h1]
theorem ct_X7_write {q at_ N pt : Nat} (tq : mm_T B q = 201) (tp : mm_T B pt = 107) (nq : mm_N B q = N) (ha : at_ + 5 ≤ N) (hne : pt ≠ q) : Ct g mX7_write [.ref pt, .ref q, .int (nI at_)] B I J P
    (none, B, va_up I q (va_up (va_up (va_up (va_up (va_up (I q) at_ (b8 (I pt 0 - nI 20))) (at_ + 1) (b8 (I pt 1))) (at_ + 2) (b8 (I pt 2 + I pt 3))) (at_ + 3) (b8 (I pt 4 - nI 1 + I pt 5))) (at_ + 4) (b8 (I pt 6))), J, P) := by
  refine ct_of (lv := [some (.ref pt), some (.ref q), some (.int (nI at_))]) (by decide +kernel) (Nat.le_of_ble_eq_true rfl) rfl ?_
  refine ev_aload_n 1 dX7_write_0 rfl rfl ?_
  refine ev_iload_n 2 dX7_write_1 rfl rfl ?_
  refine ev_aload_n 3 dX7_write_2 rfl rfl ?_
  refine ev_getI 6 mm_cl7 (j := 0) (Nat.le_of_ble_eq_true rfl) dX7_write_3 lk198 (fun _ _ _ => rfl) tp rfl ?_
  refine ev_bipushN 8 20 dX7_write_6 (by decide +kernel) rfl ?_
  refine ev_isub 9 dX7_write_8 rfl ?_
  refine ev_i2b 10 dX7_write_9 rfl ?_
  refine ev_bast 11 _ dX7_write_10 tq rfl (by omega) rfl ?_
  refine ev_aload_n 12 dX7_write_11 rfl rfl ?_
  refine ev_iload_n 13 dX7_write_12 rfl rfl ?_
  refine ev_iconstN 14 1 dX7_write_13 rfl ?_
  refine ev_iaddN 15 dX7_write_14 rfl ?_
  refine ev_aload_n 16 dX7_write_15 rfl rfl ?_
  refine ev_getI 19 mm_cl7 (j := 1) (Nat.le_of_ble_eq_true rfl) dX7_write_16 lk204 (fun _ _ _ => rfl) tp rfl ?_
  refine ev_i2b 20 dX7_write_19 rfl ?_
  refine ev_bast 21 _ dX7_write_20 tq rfl (by omega) rfl ?_
  refine ev_aload_n 22 dX7_write_21 rfl rfl ?_
  refine ev_iload_n 23 dX7_write_22 rfl rfl ?_
  refine ev_iconstN 24 2 dX7_write_23 rfl ?_
  refine ev_iaddN 25 dX7_write_24 rfl ?_
  refine ev_aload_n 26 dX7_write_25 rfl rfl ?_
  refine ev_getI 29 mm_cl7 (j := 2) (Nat.le_of_ble_eq_true rfl) dX7_write_26 lk207 (fun _ _ _ => rfl) tp rfl ?_
  refine ev_aload_n 30 dX7_write_29 rfl rfl ?_
  refine ev_getI 33 mm_cl7 (j := 3) (Nat.le_of_ble_eq_true rfl) dX7_write_30 lk209 (fun _ _ _ => rfl) tp rfl ?_
  refine ev_iadd 34 dX7_write_33 rfl ?_
  refine ev_i2b 35 dX7_write_34 rfl ?_
  refine ev_bast 36 _ dX7_write_35 tq rfl (by omega) rfl ?_
  refine ev_aload_n 37 dX7_write_36 rfl rfl ?_
  refine ev_iload_n 38 dX7_write_37 rfl rfl ?_
  refine ev_iconstN 39 3 dX7_write_38 rfl ?_
  refine ev_iaddN 40 dX7_write_39 rfl ?_
  refine ev_aload_n 41 dX7_write_40 rfl rfl ?_
  refine ev_getI 44 mm_cl7 (j := 4) (Nat.le_of_ble_eq_true rfl) dX7_write_41 lk211 (fun _ _ _ => rfl) tp rfl ?_
  refine ev_iconstN 45 1 dX7_write_44 rfl ?_
  refine ev_isub 46 dX7_write_45 rfl ?_
  refine ev_aload_n 47 dX7_write_46 rfl rfl ?_
  refine ev_getI 50 mm_cl7 (j := 5) (Nat.le_of_ble_eq_true rfl) dX7_write_47 lk213 (fun _ _ _ => rfl) tp rfl ?_
  refine ev_iadd 51 dX7_write_50 rfl ?_
  refine ev_i2b 52 dX7_write_51 rfl ?_
  refine ev_bast 53 _ dX7_write_52 tq rfl (by omega) rfl ?_
  refine ev_aload_n 54 dX7_write_53 rfl rfl ?_
  refine ev_iload_n 55 dX7_write_54 rfl rfl ?_
  refine ev_iconstN 56 4 dX7_write_55 rfl ?_
  refine ev_iaddN 57 dX7_write_56 rfl ?_
  refine ev_aload_n 58 dX7_write_57 rfl rfl ?_
  refine ev_getI 61 mm_cl7 (j := 6) (Nat.le_of_ble_eq_true rfl) dX7_write_58 lk216 (fun _ _ _ => rfl) tp rfl ?_
  refine ev_i2b 62 dX7_write_61 rfl ?_
  refine ev_bast 63 _ dX7_write_62 tq rfl (by omega) rfl ?_
  simp only [va_up_s, bx_uu, va_up_n _ _ hne]
  exact ev_vret dX7_write_63 rfl ((by simp only [show ∀ v : Int32, v.toInt8.toInt32.toInt8.toInt32 = b8 v from fun v => b8_b8 v]))
theorem cx_X2_headed {vo rd sp bd spr : Nat} {rt nu : Int32} (hC : lyC B P x o) (hnx : o + 33 ≤ mm_nx B) (hvo : vo ≤ 1) (hrd : rd ≤ 1) (hsp : sp ≤ 1) (r1 : I (o + 4) 14 = nI rd) (r2 : I (o + 4) 9 = nI sp) (r3 : I (o + 4) 10 = rt) (r4 : I (o + 4) 16 = nu) (hbd : bd = if vo = 1 then 28 else 2) (hspr : spr = if rd = 1 ∧ sp = 1 then 2 else 0) :
    Ct g mX2_headed [.ref (o + 4), .int (nI vo)] B I J P (some (.ref (mm_nx B)), mm_al B 201 (6 + bd + spr + 1) (6 + bd + spr + 1),
      va_up I (mm_nx B) (va_up (va_up (va_up (va_up (va_up (va_up (fun _ => 0) 0 (b8 (nI (if vo = 1 then 1 else 2)))) 1 (b8 rt)) 2 (b8 (nI bd))) 3 (b8 (nu >>> (nI 8 &&& 31)))) 4 (b8 nu)) 5 (b8 (nI spr))), va_up J (mm_nx B) (fun _ => 0), va_up P (mm_nx B) (fun _ => none)) := by
  obtain ⟨q, hq⟩ : ∃ q, mm_nx B = q := ⟨_, rfl⟩
  have hb' : bd = 28 ∨ bd = 2 := by rw [hbd]; split <;> omega
  have hs' : spr = 2 ∨ spr = 0 := by rw [hspr]; split <;> omega
  have k3 : Ev g mX2_headed 31 [some (.ref (o + 4)), some (.int (nI vo)), some (.int (nI bd)), some (.int (nI spr)), none] [] B I J P (some (.ref q), mm_al B 201 (6 + bd + spr + 1) (6 + bd + spr + 1),
      va_up I q (va_up (va_up (va_up (va_up (va_up (va_up (fun _ => 0) 0 (b8 (nI (if vo = 1 then 1 else 2)))) 1 (b8 rt)) 2 (b8 (nI bd))) 3 (b8 (nu >>> (nI 8 &&& 31)))) 4 (b8 nu)) 5 (b8 (nI spr))), va_up J q (fun _ => 0), va_up P q (fun _ => none)) := by
    refine ev_bipushN 33 6 dX2_headed_31 (by decide +kernel) rfl ?_
    refine ev_iload_n 34 dX2_headed_33 rfl rfl ?_
    refine ev_iaddN 35 dX2_headed_34 rfl ?_
    refine ev_iload_n 36 dX2_headed_35 rfl rfl ?_
    refine ev_iaddN 37 dX2_headed_36 rfl ?_
    refine ev_iconstN 38 1 dX2_headed_37 rfl ?_
    refine ev_iaddN 39 dX2_headed_38 rfl ?_
    refine ev_newa 41 (6 + bd + spr + 1) 1 dX2_headed_39 rfl (by decide) lk292 rfl (by omega) rfl ?_
    have hC1 := lyC_al (t := 201) (n := 6 + bd + spr + 1) (sl := 6 + bd + spr + 1) (f := fun _ => none) hC hnx
    have tq : mm_T (mm_al B 201 (6 + bd + spr + 1) (6 + bd + spr + 1)) (mm_nx B) = 201 := al_Ts
    have nq : mm_N (mm_al B 201 (6 + bd + spr + 1) (6 + bd + spr + 1)) (mm_nx B) = 6 + bd + spr + 1 := al_Ns
    rw [hq] at hC1 tq nq ⊢
    generalize mm_al B 201 (6 + bd + spr + 1) (6 + bd + spr + 1) = B1 at hC1 tq nq ⊢
    generalize va_up P q (fun _ => none) = P1 at hC1 ⊢
    have hC := hC1
    have hqo : o + 4 ≠ q := by omega
    have k4 : Ev g mX2_headed 56 [some (.ref (o + 4)), some (.int (nI vo)), some (.int (nI bd)), some (.int (nI spr)), some (.ref q)] [.int (b8 (nI (if vo = 1 then 1 else 2))), .int (nI 0), .ref q] B1 (va_up I q (fun _ => 0)) (va_up J q (fun _ => 0)) P1 (some (.ref q), B1, va_up I q (va_up (va_up (va_up (va_up (va_up (va_up (fun _ => 0) 0 (b8 (nI (if vo = 1 then 1 else 2)))) 1 (b8 rt)) 2 (b8 (nI bd))) 3 (b8 (nu >>> (nI 8 &&& 31)))) 4 (b8 nu)) 5 (b8 (nI spr))), va_up J q (fun _ => 0), P1) := by
      refine ev_bast 57 _ dX2_headed_56 tq rfl (by omega) rfl ?_
      refine ev_aload 59 dX2_headed_57 rfl rfl ?_
      refine ev_iconstN 60 1 dX2_headed_59 rfl ?_
      refine ev_aload_n 61 dX2_headed_60 rfl rfl ?_
      refine ev_getI 64 mm_cl2 (j := 10) (Nat.le_of_ble_eq_true rfl) dX2_headed_61 lk382 (fun _ _ _ => rfl) (hC.1 4 _ rfl) rfl ?_
      refine ev_eqI (y := (rt)) ((by simp only [va_up_n _ _ hqo]; exact r3)) ?_
      refine ev_i2b 65 dX2_headed_64 rfl ?_
      refine ev_bast 66 _ dX2_headed_65 tq rfl (by omega) rfl ?_
      simp only [va_up_s, bx_uu]
      refine ev_aload 68 dX2_headed_66 rfl rfl ?_
      refine ev_iconstN 69 2 dX2_headed_68 rfl ?_
      refine ev_iload_n 70 dX2_headed_69 rfl rfl ?_
      refine ev_i2b 71 dX2_headed_70 rfl ?_
      refine ev_bast 72 _ dX2_headed_71 tq rfl (by omega) rfl ?_
      refine ev_aload 74 dX2_headed_72 rfl rfl ?_
      refine ev_iconstN 75 3 dX2_headed_74 rfl ?_
      refine ev_aload_n 76 dX2_headed_75 rfl rfl ?_
      refine ev_getI 79 mm_cl2 (j := 16) (Nat.le_of_ble_eq_true rfl) dX2_headed_76 lk394 (fun _ _ _ => rfl) (hC.1 4 _ rfl) rfl ?_
      refine ev_eqI (y := (nu)) ((by simp only [va_up_n _ _ hqo]; exact r4)) ?_
      refine ev_bipushN 81 8 dX2_headed_79 (by decide +kernel) rfl ?_
      refine ev_ishr 82 dX2_headed_81 rfl ?_
      refine ev_i2b 83 dX2_headed_82 rfl ?_
      refine ev_bast 84 _ dX2_headed_83 tq rfl (by omega) rfl ?_
      simp only [va_up_s, bx_uu]
      refine ev_aload 86 dX2_headed_84 rfl rfl ?_
      refine ev_iconstN 87 4 dX2_headed_86 rfl ?_
      refine ev_aload_n 88 dX2_headed_87 rfl rfl ?_
      refine ev_getI 91 mm_cl2 (j := 16) (Nat.le_of_ble_eq_true rfl) dX2_headed_88 lk394 (fun _ _ _ => rfl) (hC.1 4 _ rfl) rfl ?_
      refine ev_eqI (y := (nu)) ((by simp only [va_up_n _ _ hqo]; exact r4)) ?_
      refine ev_i2b 92 dX2_headed_91 rfl ?_
      refine ev_bast 93 _ dX2_headed_92 tq rfl (by omega) rfl ?_
      refine ev_aload 95 dX2_headed_93 rfl rfl ?_
      refine ev_iconstN 96 5 dX2_headed_95 rfl ?_
      refine ev_iload_n 97 dX2_headed_96 rfl rfl ?_
      refine ev_i2b 98 dX2_headed_97 rfl ?_
      refine ev_bast 99 _ dX2_headed_98 tq rfl (by omega) rfl ?_
      refine ev_aload 101 dX2_headed_99 rfl rfl ?_
      simp only [va_up_s, bx_uu]
      exact ev_aret dX2_headed_101 rfl (Or.inr ⟨_, rfl⟩) ((by simp only [show ∀ v : Int32, v.toInt8.toInt32.toInt8.toInt32 = b8 v from fun v => b8_b8 v, show ∀ v : Int32, (b8 v).toInt8.toInt32 = b8 v from fun v => b8_b8 v]))
    refine ev_astore 43 (lv' := [_, _, _, some (.int _), _]) dX2_headed_41 (Nat.le_of_ble_eq_true rfl) rfl rfl ?_
    refine ev_aload 45 dX2_headed_43 rfl rfl ?_
    refine ev_iconstN 46 0 dX2_headed_45 rfl ?_
    refine ev_iload_n 47 dX2_headed_46 rfl rfl ?_
    refine ev_if_eqN 50 54 dX2_headed_47 (by decide) (by omega) rfl (fun hz => ?_) (fun hz => ?_)
    · rw [show (if vo = 1 then 1 else 2) = 2 by rw [if_neg (by omega)]] at k4 ⊢
      refine ev_iconstN 55 2 dX2_headed_54 rfl ?_
      refine ev_i2b 56 dX2_headed_55 rfl ?_
      exact k4
    · rw [show (if vo = 1 then 1 else 2) = 1 by rw [if_pos (by omega)]] at k4 ⊢
      refine ev_iconstN 51 1 dX2_headed_50 rfl ?_
      refine ev_goto 55 dX2_headed_51 (by decide) ?_
      refine ev_i2b 56 dX2_headed_55 rfl ?_
      exact k4
  have k2 : Ev g mX2_headed 11 [some (.ref (o + 4)), some (.int (nI vo)), some (.int (nI bd)), none, none] [] B I J P (some (.ref q), mm_al B 201 (6 + bd + spr + 1) (6 + bd + spr + 1),
      va_up I q (va_up (va_up (va_up (va_up (va_up (va_up (fun _ => 0) 0 (b8 (nI (if vo = 1 then 1 else 2)))) 1 (b8 rt)) 2 (b8 (nI bd))) 3 (b8 (nu >>> (nI 8 &&& 31)))) 4 (b8 nu)) 5 (b8 (nI spr))), va_up J q (fun _ => 0), va_up P q (fun _ => none)) := by
    refine ev_aload_n 12 dX2_headed_11 rfl rfl ?_
    refine ev_getI 15 mm_cl2 (j := 14) (Nat.le_of_ble_eq_true rfl) dX2_headed_12 lk391 (fun _ _ _ => rfl) (hC.1 4 _ rfl) rfl ?_
    refine ev_eqI (y := nI (rd)) (r1) ?_
    refine ev_if_eqN 18 29 dX2_headed_15 (by decide) (by omega) rfl (fun hz => ?_) (fun hz => ?_)
    · rw [show spr = 0 by rw [hspr, if_neg (by omega)]] at k3 ⊢
      refine ev_iconstN 30 0 dX2_headed_29 rfl ?_
      refine ev_istore_n 31 (lv' := [_, _, some (.int _), _, _]) dX2_headed_30 (Nat.le_of_ble_eq_true rfl) rfl rfl ?_
      exact k3
    · refine ev_aload_n 19 dX2_headed_18 rfl rfl ?_
      refine ev_getI 22 mm_cl2 (j := 9) (Nat.le_of_ble_eq_true rfl) dX2_headed_19 lk380 (fun _ _ _ => rfl) (hC.1 4 _ rfl) rfl ?_
      refine ev_eqI (y := nI (sp)) (r2) ?_
      refine ev_if_eqN 25 29 dX2_headed_22 (by decide) (by omega) rfl (fun hz2 => ?_) (fun hz2 => ?_)
      · rw [show spr = 0 by rw [hspr, if_neg (by omega)]] at k3 ⊢
        refine ev_iconstN 30 0 dX2_headed_29 rfl ?_
        refine ev_istore_n 31 (lv' := [_, _, some (.int _), _, _]) dX2_headed_30 (Nat.le_of_ble_eq_true rfl) rfl rfl ?_
        exact k3
      · rw [show spr = 2 by rw [hspr, if_pos (by omega)]] at k3 ⊢
        refine ev_iconstN 26 2 dX2_headed_25 rfl ?_
        refine ev_goto 30 dX2_headed_26 (by decide) ?_
        refine ev_istore_n 31 (lv' := [_, _, some (.int _), _, _]) dX2_headed_30 (Nat.le_of_ble_eq_true rfl) rfl rfl ?_
        exact k3
  rw [hq]
  refine ct_of (lv := [some (.ref (o + 4)), some (.int (nI vo)), none, none, none]) (by decide +kernel) (Nat.le_of_ble_eq_true rfl) rfl ?_
  refine ev_iload_n 1 dX2_headed_0 rfl rfl ?_
  refine ev_if_eqN 4 9 dX2_headed_1 (by decide) (by omega) rfl (fun hz => ?_) (fun hz => ?_)
  · rw [show bd = 2 by rw [hbd, if_neg (by omega)]] at k2 ⊢
    refine ev_iconstN 10 2 dX2_headed_9 rfl ?_
    refine ev_istore_n 11 (lv' := [_, some (.int _), _, _, _]) dX2_headed_10 (Nat.le_of_ble_eq_true rfl) rfl rfl ?_
    exact k2
  · rw [show bd = 28 by rw [hbd, if_pos (by omega)]] at k2 ⊢
    refine ev_bipushN 6 28 dX2_headed_4 (by decide +kernel) rfl ?_
    refine ev_goto 10 dX2_headed_6 (by decide) ?_
    refine ev_istore_n 11 (lv' := [_, some (.int _), _, _, _]) dX2_headed_10 (Nat.le_of_ble_eq_true rfl) rfl rfl ?_
    exact k2
end VRW
