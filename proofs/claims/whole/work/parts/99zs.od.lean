/-! DECODE: opening, both sides -/
def fnd (w : Nat) (F : Nat → Int32) : Nat → Int32 := if w = 0 then F else va_up F w (F w + nI 1)
def mk2 (t : Nat) (F : Nat → Int32) : Nat → Int32 := va_up (va_up F t (nI 20)) (t + 1) (nI 21)
def OPm (m t w : Nat) (M' : Nat → Int32) (I : mm_TI) : mm_TI := va_up (va_up (va_up I (m + 2) (mk2 t (I (m + 2)))) m (va_up M' 5 (nI (t + 2)))) (m + 1) (fnd w (I (m + 1)))
/-- the row of an opened frame -/
def OPr (B : mm_B) (I : mm_TI) (P : mm_TP) (m R : Nat) (ρ : Nat → Nat) (f r n : Nat) (F : Nat → Int32) : Prop := r < R ∧ P f 1 = some (ρ r) ∧ mm_T B (ρ r) = 201 ∧ mm_N B (ρ r) = n ∧ n ≤ 64 ∧ (∀ k, k < n → I (ρ r) k = F k) ∧ (∀ k, k < n → I (m + 33) (64 * r + k) = F k) ∧ (∀ k, k < n → b8 (F k) = F k) ∧ sp_op n F = 0
section OD0
variable {g : mm_G} {B : mm_B} {I : mm_TI} {J : mm_TJ} {P : mm_TP} {m : Nat}
theorem cx_X12_open2 {w t : Nat} {v : Int32} {M' : Nat → Int32} (hM : lyM B P m) (ht : I m 5 = nI t) (h64 : t + 1 < 64) (hw : w ≤ 6) (hM5 : M' 5 = nI (t + 1)) (c1 : Ct g mX12_opened [.ref m, .int v] B (va_up (va_up I (m + 2) (va_up (I (m + 2)) t (nI 20))) m (va_up (I m) 5 (nI (t + 1)))) J P (some (.int (nI w)), B, va_up (va_up (va_up I (m + 2) (va_up (I (m + 2)) t (nI 20))) m (va_up (I m) 5 (nI (t + 1)))) m M', J, P)) :
    Ct g mX12_open [.ref m, .int v] B I J P (some (.int (nI w)), B, OPm m t w M' I, J, P) := by
  unfold OPm mk2 fnd
  have m1 := ct_X12_tell (g := g) (B := B) (I := I) (J := J) (P := P) (m := m) (a := nI 20) (t := t) hM ht (by omega)
  generalize hI1 : va_up (va_up I (m + 2) (va_up (I (m + 2)) t (nI 20))) m (va_up (I m) 5 (nI (t + 1))) = I1 at m1 c1
  have e1 : I1 m = va_up (I m) 5 (nI (t + 1)) := by rw [← hI1, va_up_s]
  have m2 := ct_X12_tell (g := g) (B := B) (I := va_up I1 m M') (J := J) (P := P) (m := m) (a := nI 21) (t := t + 1) hM (by rw [va_up_s]; exact hM5) (by omega)
  rw [va_up_n _ _ (show m + 2 ≠ m by omega), va_up_s, va_3 I1 (a := m) (b := m + 2) _ _ _ (by omega)] at m2
  have eq1 : va_up (va_up I1 m (va_up M' 5 (nI (t + 1 + 1)))) (m + 2) (va_up (I1 (m + 2)) (t + 1) (nI 21)) = va_up (va_up I (m + 2) (va_up (va_up (I (m + 2)) t (nI 20)) (t + 1) (nI 21))) m (va_up M' 5 (nI (t + 2))) := by
    rw [← hI1, bx_uu, va_up_n _ _ (show m + 2 ≠ m by omega), va_up_s, va_3 I (a := m + 2) (b := m) _ _ _ (by omega)]
  rw [eq1] at m2
  generalize hI2 : va_up (va_up I (m + 2) (va_up (va_up (I (m + 2)) t (nI 20)) (t + 1) (nI 21))) m (va_up M' 5 (nI (t + 2))) = I2 at m2 ⊢
  have a2 : I2 (m + 1) = I (m + 1) := by rw [← hI2, va_up_n _ _ (by omega), va_up_n _ _ (by omega)]
  have n1 := hM.2.1 1 _ rfl
  refine ct_of (lv := [some (.ref m), some (.int v), none]) (by decide +kernel) (Nat.le_of_ble_eq_true rfl) rfl ?_
  refine ev_aload_n 1 dX12_open_0 rfl rfl ?_
  refine ev_bipushN 3 20 dX12_open_1 (by decide +kernel) rfl ?_
  refine ev_invVv 6 (Mc := mX12_tell) ⟨lk1599, lk80, hdX12_tell, (Nat.le_of_ble_eq_true rfl), (Nat.le_of_ble_eq_true rfl)⟩ lk1596 lk1598 lk41 mm_cl12 rfl dX12_open_3 (m1) rfl (hM.1 0 _ rfl) (Nat.le_of_ble_eq_true rfl) rfl rfl ?_
  refine ev_aload_n 7 dX12_open_6 rfl rfl ?_
  refine ev_iload_n 8 dX12_open_7 rfl rfl ?_
  refine ev_invV 11 (Mc := mX12_opened) ⟨lk1797, lk80, hdX12_opened, (Nat.le_of_ble_eq_true rfl), (Nat.le_of_ble_eq_true rfl)⟩ lk1794 lk1796 lk66 mm_cl12 rfl dX12_open_8 (c1) rfl (hM.1 0 _ rfl) (Nat.le_of_ble_eq_true rfl) rfl rfl ?_
  refine ev_istore_n 12 (lv' := [_, some (.int _), _]) dX12_open_11 (Nat.le_of_ble_eq_true rfl) rfl rfl ?_
  refine ev_aload_n 13 dX12_open_12 rfl rfl ?_
  refine ev_bipushN 15 21 dX12_open_13 (by decide +kernel) rfl ?_
  refine ev_invVv 18 (Mc := mX12_tell) ⟨lk1599, lk80, hdX12_tell, (Nat.le_of_ble_eq_true rfl), (Nat.le_of_ble_eq_true rfl)⟩ lk1596 lk1598 lk41 mm_cl12 rfl dX12_open_15 (m2) rfl (hM.1 0 _ rfl) (Nat.le_of_ble_eq_true rfl) rfl rfl ?_
  refine ev_iload_n 19 dX12_open_18 rfl rfl ?_
  by_cases cz : w = 0
  · rw [if_pos cz, ← a2, va_up_id]
    refine ev_if_leN 22 32 dX12_open_19 (by decide) (by omega) rfl (fun hbr => ?_) (fun hx => absurd ((by omega)) hx)
    refine ev_iload_n 33 dX12_open_32 rfl rfl ?_
    exact ev_iret dX12_open_33 rfl (rfl)
  · rw [if_neg cz]
    refine ev_if_leN 22 32 dX12_open_19 (by decide) (by omega) rfl (fun hx => absurd hx ((by omega))) (fun hbr => ?_)
    refine ev_aload_n 23 dX12_open_22 rfl rfl ?_
    refine ev_getP 26 mm_cl12 (j := 3) (Nat.le_of_ble_eq_true rfl) dX12_open_23 lk1288 (fun _ _ _ => rfl) (hM.1 0 _ rfl) (a := (m + 1)) (hM.2.2 0 _ _ _ rfl) rfl ?_
    refine ev_iload_n 27 dX12_open_26 rfl rfl ?_
    refine ev_dup2_11 28 dX12_open_27 rfl rfl rfl ?_
    refine ev_iald 29 _ dX12_open_28 (hM.1 1 _ rfl) rfl (by have hNN := hM.2.1 1 _ rfl; omega) rfl ?_
    refine ev_iconstN 30 1 dX12_open_29 rfl ?_
    refine ev_iadd 31 dX12_open_30 rfl ?_
    refine ev_iast 32 _ dX12_open_31 (hM.1 1 _ rfl) rfl (by have hNN := hM.2.1 1 _ rfl; omega) rfl ?_
    refine ev_iload_n 33 dX12_open_32 rfl rfl ?_
    rw [a2]
    exact ev_iret dX12_open_33 rfl (rfl)
end OD0
theorem ite_le {c : Prop} [Decidable c] {a b k : Nat} (h1 : a ≤ k) (h2 : b ≤ k) : (if c then a else b) ≤ k := by
  by_cases h : c
  · rw [if_pos h]; exact h1
  · rw [if_neg h]; exact h2
theorem sp_op_6 (n : Nat) (F : Nat → Int32) : sp_op n F ≤ 6 := by
  unfold sp_op
  exact ite_le (by omega) (ite_le (ite_le (by omega) (ite_le (by omega) (ite_le (by omega) (ite_le (by omega) (ite_le (by omega) (by omega)))))) (by omega))
section OD1
variable {g : mm_G} {B : mm_B} {I : mm_TI} {J : mm_TJ} {P : mm_TP} {x m n R K f q : Nat} {o : Nat → Nat} {fl φ : Nat → Nat → Nat} {ρ : Nat → Nat}
theorem op_fr (h : RC g B I J P x m n R K o fl φ ρ) (hR : R < 4300) (v : VFr B I P m R ρ f q) :
    ∃ (w r n : Nat) (F : Nat → Int32), w ≤ 6 ∧ (w = 0 → OPr B I P m R ρ f r n F) ∧ (∀ (I0 : mm_TI) (J0 : mm_TJ) (P0 : mm_TP), P0 f = P f → (∀ r, r < R → I0 (ρ r) = I (ρ r)) → Ct g mX4_openingFinding [.ref f] B I0 J0 P0 (some (.int (nI w)), B, I0, J0, P0)) ∧
    ∀ (I1 : mm_TI) (J1 : mm_TJ) (P1 : mm_TP) (t : Nat), lyM B P1 m → (∀ i, i = 31 ∨ i = 32 ∨ i = 33 → I1 (m + i) = I (m + i)) → I1 m 5 = nI t → t + 1 < 64 →
      ∃ M' : Nat → Int32, (∀ i, i ≠ 5 → i < 78 ∨ 80 < i → M' i = I1 m i) ∧ (w = 0 → M' 78 = nI r ∧ M' 79 = F 2 ∧ M' 80 = F 5) ∧ Ct g mX12_open [.ref m, .int (I (m + 30) q - nI 1)] B I1 J1 P1 (some (.int (nI w)), B, OPm m t w M' I1, J1, P1) := by
  have tf := v.1
  rcases fr_row h v with ⟨e1, e2, e3⟩ | ⟨r, s, r1, r2, r3, r4, r5, r6, r7, r8, ⟨t1, t2, t3, t4, t5⟩ | ⟨t1, t2, t3, t4, t5⟩⟩
  · refine ⟨1, 0, 0, fun _ => 0, by omega, fun e => absurd e (by omega), fun I0 J0 P0 p0 _ => ct_X4_open1 tf (by rw [p0]; exact e2) (by rw [p0]; exact e3), fun I1 J1 P1 t hM hi ht h64 => ⟨va_up (I1 m) 5 (nI (t + 1)), fun i i1 _ => va_up_n _ _ i1, fun e => absurd e (by omega), cx_X12_open2 hM ht h64 (by omega) (va_up_s _ _ _) ?_⟩⟩
    rw [bx_uu, e1]
    exact ct_X12_opened1 nI_01
  · have ts : ∀ k, k < s → b8 (I (ρ r) k) = I (ρ r) k := t5
    have w6 := sp_op_6 s (I (ρ r))
    refine ⟨sp_op s (I (ρ r)), r, s, I (ρ r), w6, fun e => ⟨r1, t2, t4, r4, r3, fun _ _ => rfl, fun k hk => (r6 k hk).symm, ts, e⟩, fun I0 J0 P0 p0 i0 => ct_X4_open3 tf t4 r4 r3 (by rw [p0]; exact t2) (fun k _ => by rw [i0 r r1]) ts, fun I1 J1 P1 t hM hi ht h64 => ?_⟩
    obtain ⟨M', c, m1, m2⟩ := cx_X12_opened3 (g := g) (B := B) (I := va_up (va_up I1 (m + 2) (va_up (I1 (m + 2)) t (nI 20))) m (va_up (I1 m) 5 (nI (t + 1)))) (J := J1) (P := P1) (m := m) (R := r) (n := s) (F := I (ρ r)) hM (by omega) (by rw [va_up_n _ _ (by omega), va_up_n _ _ (by omega), hi 32 (by omega)]; exact t1) (by rw [va_up_n _ _ (by omega), va_up_n _ _ (by omega), hi 31 (by omega)]; exact r5) r3 (fun k hk => by rw [va_up_n _ _ (by omega), va_up_n _ _ (by omega), hi 33 (by omega)]; exact (r6 k hk).symm)
    rw [va_up_s] at m1
    refine ⟨M', fun i i1 i2 => by rw [m1 i i2, va_up_n _ _ i1], m2, cx_X12_open2 hM ht h64 w6 (by rw [m1 5 (by omega), va_up_s]) ?_⟩
    rw [r2, nI_s1]
    exact c
  · refine ⟨2, 0, 0, fun _ => 0, by omega, fun e => absurd e (by omega), fun I0 J0 P0 p0 _ => ct_X4_open2 tf t4 (by rw [p0]; exact t2) (by rw [p0]; exact t3), fun I1 J1 P1 t hM hi ht h64 => ⟨va_up (I1 m) 5 (nI (t + 1)), fun i i1 _ => va_up_n _ _ i1, fun e => absurd e (by omega), cx_X12_open2 hM ht h64 (by omega) (va_up_s _ _ _) ?_⟩⟩
    rw [bx_uu, r2, nI_s1]
    exact ct_X12_opened2 hM (by omega) (by rw [va_up_n _ _ (by omega), va_up_n _ _ (by omega), hi 32 (by omega)]; exact t1)
end OD1
