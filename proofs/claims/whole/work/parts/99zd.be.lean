/-! CLEAR; THE BENCH -/
section CR0
variable {g : mm_G} {B : mm_B} {I : mm_TI} {J : mm_TJ} {P : mm_TP} {x m : Nat}
theorem lyV_P19 {F : Nat → Option Nat} (h : lyV B P x) : lyV B (va_up P (x + 19) F) x := by
  refine ⟨h.1, h.2.1, fun i k j t e => ?_⟩
  have key : ∀ r ∈ lyV_P, r.1 ≠ 19 := by decide
  have := key _ (List.mem_of_getElem? e)
  simp only at this
  rw [va_up_n _ _ (by omega)]; exact h.2.2 i k j t e
theorem lx_clear {v : Int32} {I0 : mm_TI} {Z : mm_TI} (hV : lyV B P x) (hZ : va_up (va_up (va_up (va_up I0 x (va_up (I0 x) 4 (nI 0))) x (va_up (va_up (I0 x) 4 (nI 0)) 6 (nI 0))) x (va_up (va_up (va_up (I0 x) 4 (nI 0)) 6 (nI 0)) 8 (nI 0))) (x + 1) (va_up (I0 (x + 1)) 2 (nI 0)) = Z) : ∀ (d i : Nat), i + d = 8 → ∀ F : Nat → Option Nat, ∃ F' : Nat → Option Nat,
    Ev g mX11_clear 12 [some (.ref x), some (.int v), some (.int (nI i))] [] B I0 J (va_up P (x + 19) F) (some (.int v), B, Z, J, va_up P (x + 19) F') := by
  intro d
  induction d with
  | zero =>
    intro i hi F
    obtain rfl : i = 8 := by omega
    refine ⟨F, ?_⟩
    have hV := lyV_P19 (F := F) hV
    refine ev_iload_n 13 dX11_clear_12 rfl rfl ?_
    refine ev_bipushN 15 8 dX11_clear_13 (by decide +kernel) rfl ?_
    refine ev_icmp_geN 18 31 dX11_clear_15 (by decide) (by omega) (by omega) rfl (fun hbr => ?_) (fun hx => absurd ((by omega)) hx)
    refine ev_aload_n 32 dX11_clear_31 rfl rfl ?_
    refine ev_iconstN 33 0 dX11_clear_32 rfl ?_
    refine ev_putI 36 mm_cl11 (j := 4) (Nat.le_of_ble_eq_true rfl) dX11_clear_33 lk265 rfl (fun _ _ _ => rfl) rfl rfl (hV.1 0 _ rfl) rfl ?_
    refine ev_aload_n 37 dX11_clear_36 rfl rfl ?_
    refine ev_iconstN 38 0 dX11_clear_37 rfl ?_
    refine ev_putI 41 mm_cl11 (j := 6) (Nat.le_of_ble_eq_true rfl) dX11_clear_38 lk267 rfl (fun _ _ _ => rfl) rfl rfl (hV.1 0 _ rfl) rfl ?_
    rw [va_up_s]
    refine ev_aload_n 42 dX11_clear_41 rfl rfl ?_
    refine ev_iconstN 43 0 dX11_clear_42 rfl ?_
    refine ev_putI 46 mm_cl11 (j := 8) (Nat.le_of_ble_eq_true rfl) dX11_clear_43 lk269 rfl (fun _ _ _ => rfl) rfl rfl (hV.1 0 _ rfl) rfl ?_
    rw [va_up_s]
    refine ev_aload_n 47 dX11_clear_46 rfl rfl ?_
    refine ev_getP 50 mm_cl11 (j := 0) (Nat.le_of_ble_eq_true rfl) dX11_clear_47 lk261 (fun _ _ _ => rfl) (hV.1 0 _ rfl) (a := (x + 1)) (hV.2.2 0 _ _ _ rfl) rfl ?_
    refine ev_iconstN 51 0 dX11_clear_50 rfl ?_
    refine ev_putI 54 mm_cl10 (j := 2) (Nat.le_of_ble_eq_true rfl) dX11_clear_51 lk113 rfl (fun _ _ _ => rfl) rfl rfl (hV.1 1 _ rfl) rfl ?_
    rw [va_up_n _ _ (show x + 1 ≠ x by omega), va_up_n _ _ (show x + 1 ≠ x by omega), va_up_n _ _ (show x + 1 ≠ x by omega), hZ]
    refine ev_iload_n 55 dX11_clear_54 rfl rfl ?_
    exact ev_iret dX11_clear_55 rfl (rfl)
  | succ d ih =>
    intro i hi F
    obtain ⟨F', e⟩ := ih (i + 1) (by omega) (va_up F i none)
    refine ⟨F', ?_⟩
    have hV := lyV_P19 (F := F) hV
    refine ev_iload_n 13 dX11_clear_12 rfl rfl ?_
    refine ev_bipushN 15 8 dX11_clear_13 (by decide +kernel) rfl ?_
    refine ev_icmp_geN 18 31 dX11_clear_15 (by decide) (by omega) (by omega) rfl (fun hx => absurd hx ((by omega))) (fun hbr => ?_)
    refine ev_aload_n 19 dX11_clear_18 rfl rfl ?_
    refine ev_getP 22 mm_cl11 (j := 3) (Nat.le_of_ble_eq_true rfl) dX11_clear_19 lk264 (fun _ _ _ => rfl) (hV.1 0 _ rfl) (a := (x + 19)) (hV.2.2 3 _ _ _ rfl) rfl ?_
    refine ev_iload_n 23 dX11_clear_22 rfl rfl ?_
    refine ev_null 24 dX11_clear_23 rfl ?_
    refine ev_aastN 25 _ 0 dX11_clear_24 (hV.1 19 _ rfl) rfl (by have hNN := hV.2.1 19 _ rfl; omega) rfl ?_
    rw [va_up_s, bx_uu]
    refine ev_iincN 28 (lv' := [_, some (.int _), _]) 1 dX11_clear_25 rfl (Nat.le_of_ble_eq_true rfl) rfl rfl ?_
    refine ev_goto 12 dX11_clear_28 (by decide) ?_
    exact e
theorem cx_clear {v : Int32} (hV : lyV B P x) (hv : I x 4 = v) : ∃ (I1 : mm_TI) (F' : Nat → Option Nat), I1 x = va_up (va_up (va_up (va_up (I x) 9 (nI 0)) 4 (nI 0)) 6 (nI 0)) 8 (nI 0) ∧ I1 (x + 1) = va_up (I (x + 1)) 2 (nI 0) ∧ (∀ q, q ≠ x → q ≠ x + 1 → I1 q = I q) ∧ Ct g mX11_clear [.ref x] B I J P (some (.int v), B, I1, J, va_up P (x + 19) F') := by
  obtain ⟨F', e⟩ := lx_clear (g := g) (J := J) (v := v) (I0 := vz I x) hV rfl 8 0 (by omega) (P (x + 19))
  rw [va_up_id] at e
  generalize hI1 : va_up (va_up (va_up (va_up (vz I x) x (va_up (vz I x x) 4 (nI 0))) x (va_up (va_up (vz I x x) 4 (nI 0)) 6 (nI 0))) x (va_up (va_up (va_up (vz I x x) 4 (nI 0)) 6 (nI 0)) 8 (nI 0))) (x + 1) (va_up (vz I x (x + 1)) 2 (nI 0)) = I1 at e
  refine ⟨I1, F', ?_, ?_, fun q q1 q2 => ?_, ?_⟩
  · rw [← hI1, va_up_n _ _ (by omega), va_up_s, show vz I x x = va_up (I x) 9 (nI 0) from va_up_s _ _ _]
  · rw [← hI1, va_up_s, show vz I x (x + 1) = I (x + 1) from va_up_n _ _ (by omega)]
  · rw [← hI1, va_up_n _ _ q2, va_up_n _ _ q1, va_up_n _ _ q1, va_up_n _ _ q1]; exact va_up_n _ _ q1
  · refine ct_of (lv := [some (.ref x), none, none]) (by decide +kernel) (Nat.le_of_ble_eq_true rfl) rfl ?_
    refine ev_aload_n 1 dX11_clear_0 rfl rfl ?_
    refine ev_iconstN 2 0 dX11_clear_1 rfl ?_
    refine ev_putI 5 mm_cl11 (j := 9) (Nat.le_of_ble_eq_true rfl) dX11_clear_2 lk270 rfl (fun _ _ _ => rfl) rfl rfl (hV.1 0 _ rfl) rfl ?_
    refine ev_aload_n 6 dX11_clear_5 rfl rfl ?_
    refine ev_getI 9 mm_cl11 (j := 4) (Nat.le_of_ble_eq_true rfl) dX11_clear_6 lk265 (fun _ _ _ => rfl) (hV.1 0 _ rfl) rfl ?_
    refine ev_eqI (y := (v)) ((vzx hv (by omega))) ?_
    refine ev_istore_n 10 (lv' := [some (.ref _), _, _]) dX11_clear_9 (Nat.le_of_ble_eq_true rfl) rfl rfl ?_
    refine ev_iconstN 11 0 dX11_clear_10 rfl ?_
    refine ev_istore_n 12 (lv' := [_, some (.int _), _]) dX11_clear_11 (Nat.le_of_ble_eq_true rfl) rfl rfl ?_
    exact e
theorem cx_mclear {v : Int32} (hM : lyM B P m) (hv : I m 0 = v) : ∃ M : Nat → Int32, M 0 = nI 0 ∧ M 1 = nI 0 ∧ M 5 = nI 0 ∧ M 7 = nI 0 ∧ M 9 = nI 0 ∧ M 36 = nI 0 ∧ Ct g mX12_clear [.ref m] B I J P (some (.int v), B, va_up I m M, J, P) := by
  refine ⟨va_up (va_up (va_up (va_up (va_up (va_up (I m) 0 (nI 0)) 7 (nI 0)) 9 (nI 0)) 5 (nI 0)) 36 (nI 0)) 1 (nI 0), ?_, ?_, ?_, ?_, ?_, ?_, ?_⟩
  · simp (disch := omega) only [va_up_s, va_up_n]
  · simp (disch := omega) only [va_up_s, va_up_n]
  · simp (disch := omega) only [va_up_s, va_up_n]
  · simp (disch := omega) only [va_up_s, va_up_n]
  · simp (disch := omega) only [va_up_s, va_up_n]
  · simp (disch := omega) only [va_up_s, va_up_n]
  · have dn := ct_X12_done (g := g) (a := v) (J := J) (I := va_up I m (va_up (va_up (va_up (va_up (va_up (I m) 0 (nI 0)) 7 (nI 0)) 9 (nI 0)) 5 (nI 0)) 36 (nI 0))) hM
    rw [show mo_st (va_up I m (va_up (va_up (va_up (va_up (va_up (I m) 0 (nI 0)) 7 (nI 0)) 9 (nI 0)) 5 (nI 0)) 36 (nI 0))) m (nI 0) = va_up I m (va_up (va_up (va_up (va_up (va_up (va_up (I m) 0 (nI 0)) 7 (nI 0)) 9 (nI 0)) 5 (nI 0)) 36 (nI 0)) 1 (nI 0)) by unfold mo_st; rw [va_up_s, bx_uu]] at dn
    refine ct_of (lv := [some (.ref m), none]) (by decide +kernel) (Nat.le_of_ble_eq_true rfl) rfl ?_
    refine ev_aload_n 1 dX12_clear_0 rfl rfl ?_
    refine ev_getI 4 mm_cl12 (j := 0) (Nat.le_of_ble_eq_true rfl) dX12_clear_1 lk1285 (fun _ _ _ => rfl) (hM.1 0 _ rfl) rfl ?_
    refine ev_eqI (y := (v)) (hv) ?_
    refine ev_istore_n 5 (lv' := [some (.ref _), _]) dX12_clear_4 (Nat.le_of_ble_eq_true rfl) rfl rfl ?_
    refine ev_aload_n 6 dX12_clear_5 rfl rfl ?_
    refine ev_iconstN 7 0 dX12_clear_6 rfl ?_
    refine ev_putI 10 mm_cl12 (j := 0) (Nat.le_of_ble_eq_true rfl) dX12_clear_7 lk1285 rfl (fun _ _ _ => rfl) rfl rfl (hM.1 0 _ rfl) rfl ?_
    refine ev_aload_n 11 dX12_clear_10 rfl rfl ?_
    refine ev_iconstN 12 0 dX12_clear_11 rfl ?_
    refine ev_putI 15 mm_cl12 (j := 7) (Nat.le_of_ble_eq_true rfl) dX12_clear_12 lk1292 rfl (fun _ _ _ => rfl) rfl rfl (hM.1 0 _ rfl) rfl ?_
    rw [va_up_s, bx_uu]
    refine ev_aload_n 16 dX12_clear_15 rfl rfl ?_
    refine ev_iconstN 17 0 dX12_clear_16 rfl ?_
    refine ev_putI 20 mm_cl12 (j := 9) (Nat.le_of_ble_eq_true rfl) dX12_clear_17 lk1294 rfl (fun _ _ _ => rfl) rfl rfl (hM.1 0 _ rfl) rfl ?_
    rw [va_up_s, bx_uu]
    refine ev_aload_n 21 dX12_clear_20 rfl rfl ?_
    refine ev_iconstN 22 0 dX12_clear_21 rfl ?_
    refine ev_putI 25 mm_cl12 (j := 5) (Nat.le_of_ble_eq_true rfl) dX12_clear_22 lk1290 rfl (fun _ _ _ => rfl) rfl rfl (hM.1 0 _ rfl) rfl ?_
    rw [va_up_s, bx_uu]
    refine ev_aload_n 26 dX12_clear_25 rfl rfl ?_
    refine ev_iconstN 27 0 dX12_clear_26 rfl ?_
    refine ev_putI 30 mm_cl12 (j := 36) (Nat.le_of_ble_eq_true rfl) dX12_clear_27 lk1321 rfl (fun _ _ _ => rfl) rfl rfl (hM.1 0 _ rfl) rfl ?_
    rw [va_up_s, bx_uu]
    refine ev_aload_n 31 dX12_clear_30 rfl rfl ?_
    refine ev_iload_n 32 dX12_clear_31 rfl rfl ?_
    refine ev_invV 35 (Mc := mX12_done) ⟨lk1544, lk80, hdX12_done, (Nat.le_of_ble_eq_true rfl), (Nat.le_of_ble_eq_true rfl)⟩ lk1541 lk1543 lk39 mm_cl12 rfl dX12_clear_32 (dn) rfl (hM.1 0 _ rfl) (Nat.le_of_ble_eq_true rfl) rfl rfl ?_
    exact ev_iret dX12_clear_35 rfl (rfl)
end CR0
section CR1
variable {g : mm_G}
theorem jo_clear : JO g mX11_clear mX12_clear [] := by
  refine jo_m2 fun K x m B I J P n R o fl φ ρ hK hR h => Or.inr ?_
  obtain ⟨hV, hM, -⟩ := RG_ly h
  obtain ⟨h8, hx4, hm0⟩ := RG_n h
  obtain ⟨xm, mn⟩ := RC_xm h
  obtain ⟨I1, F', gx, gx1, g1, cl⟩ := cx_clear (g := g) (J := J) hV hx4
  have hM1 : lyM B (va_up P (x + 19) F') m := lyM_ext hM (Ext_rf B) (fun q q1 q2 => va_up_n _ _ (by omega))
  obtain ⟨M, m0, m1, m5, m7, m9, m36, ml⟩ := cx_mclear (g := g) (I := I1) (J := J) (v := nI n) hM1 (by rw [g1 m (by omega) (by omega)]; exact hm0)
  have fo : ∀ q, q ≠ x → q ≠ x + 1 → q ≠ m → va_up I1 m M q = I q := fun q a b c => by rw [va_up_n _ _ c, g1 q a b]
  have fx : va_up I1 m M x = va_up (va_up (va_up (va_up (I x) 9 (nI 0)) 4 (nI 0)) 6 (nI 0)) 8 (nI 0) := by rw [va_up_n _ _ (by omega), gx]
  have fx1 : va_up I1 m M (x + 1) = va_up (I (x + 1)) 2 (nI 0) := by rw [va_up_n _ _ (by omega), gx1]
  refine ⟨_, B, I1, J, _, va_up I1 m M, J, _, 0, 0, o, fl, φ, ρ, cl, ml, by omega, ⟨RCg_mk h (Ext_rf B) h.1.1 (lyV_P19 hV) hM1 (fun q hq => fo q (by omega) (by omega) (by omega)) ⟨by omega, ?_, by rw [va_up_s]; exact m0⟩ ⟨(RG_j h).1, fun i hi => by rw [fo (x + 2) (by omega) (by omega) (by omega), fo (m + 1) (by omega) (by omega) (by omega)]; exact (RG_j h).2 i hi⟩ ⟨0, by omega, by rw [fx1, va_up_s], by rw [va_up_s]; exact m5, fun i hi => absurd hi (by omega)⟩ ⟨0, by omega, ?_, by rw [va_up_s]; exact m7, fun i hi => absurd hi (by omega)⟩ ⟨0, by omega, ?_, by rw [va_up_s]; exact m9, fun i hi => absurd hi (by omega)⟩ (RGz_cg (RG_z h) (fun k k1 k2 => fo _ (by omega) (by omega) (by omega)) rfl rfl) ⟨by rw [va_up_s]; exact m36, fun r hr => absurd hr (by omega), fun r s hr => absurd hr (by omega)⟩, ?_, ⟨fun c d hc => absurd hc (by omega), fun c i hc => absurd hc (by omega), fun c d i j hc => absurd hc (by omega)⟩, fun c hc => absurd hc (by omega), fun c d q hc => absurd hc (by omega)⟩, Ext_rf B, by omega, by omega, fun q hq => fo q (by omega) (by omega) (by omega)⟩
  · rw [fx]; simp (disch := omega) only [va_up_s, va_up_n]
  · rw [fx]; simp (disch := omega) only [va_up_s, va_up_n]
  · rw [fx]; simp (disch := omega) only [va_up_s, va_up_n]
  · rw [fx, va_up_s, m1]; simp (disch := omega) only [va_up_s, va_up_n]
end CR1
