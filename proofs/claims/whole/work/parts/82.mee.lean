/-! the model's encode: its bytes -/
section MEE
variable {g : mm_G} {B : mm_B} {I : mm_TI} {J : mm_TJ} {P : mm_TP} {m : Nat}
/-- what the tail leaves: from I, its bytes laid, to I' -/
def MEt (m c R L ln nu t : Nat) (F : Nat → Int32) (en : Int32) (I I' : mm_TI) : Prop :=
  I' (m + 31) = va_up (I (m + 31)) R (nI L) ∧ I' (m + 33) = sgp (I (m + 33)) (64 * R) L F ∧ I' (m + 2) = va_up (I (m + 2)) t (nI 15) ∧ I' m = va_up (va_up (I m) 5 (nI (t + 1))) 1 (nI 0) ∧
  I' (m + 29) = va_up (I (m + 29)) (250 * c + ln) (nI nu) ∧ I' (m + 30) = va_up (I (m + 30)) (250 * c + ln) (nI (R + 1)) ∧ I' (m + 28) = va_up (I (m + 28)) c (nI (ln + 1)) ∧ I' (m + 10) = va_up (I (m + 10)) c (nI ((nu + 1) % 65536)) ∧ I' (m + 14) = va_up (I (m + 14)) c (en + nI 1) ∧
  (∀ q, q ≠ m + 31 → q ≠ m + 33 → q ≠ m + 2 → q ≠ m → q ≠ m + 29 → q ≠ m + 30 → q ≠ m + 28 → q ≠ m + 10 → q ≠ m + 14 → I' q = I q)
theorem lx_X12_en9 {c N sb R L0 bd spr td ln nu t : Nat} {pk lg sh en : Int32} {row : Nat → Int32} (hM : lyM B P m) (hc8 : c < 8) (h43 : R < 4300) (hL0 : L0 = 6 + bd) (hbd : bd ≤ 28) (htd : td ≤ 1) (hspr : spr = 2 * td) (ht : I m 5 = nI t) (h64 : t < 64) (hln : I (m + 28) c = nI ln) (hl250 : ln < 250) (hnu : nu < 65536) (hen : I (m + 14) c = en)
    (b1 : td = 1 → row L0 = b8 (lg - nI 20)) (b2 : td = 1 → row (L0 + 1) = b8 sh) :
    ∃ I' : mm_TI, MEt m c R (L0 + spr + 1) ln nu t (sp_ful row (L0 + spr)) en I I' ∧ Ev g mX12_encode 742 [some (.ref m), some (.int (nI c)), some (.int (nI N)), some (.int (nI sb)), some (.int pk), some (.int (nI nu)), some (.int (nI td)), some (.int lg), some (.int sh), some (.int (nI R)), none, none] [] B (rwM I m R L0 (sp_ful row (L0 + spr))) J P (some (.int (nI nu)), B, I', J, P) := by
  have hF : ∀ k, k < L0 + spr → sp_ful row (L0 + spr) k = row k := fun k hk => by unfold sp_ful; rw [if_pos hk]
  have hFs : sp_ful row (L0 + spr) (L0 + spr) = b8 (sp_xs row (L0 + spr)) := by unfold sp_ful; rw [if_neg (by omega)]
  generalize hFg : sp_ful row (L0 + spr) = F at *
  have m1 := ct_X12_tell (g := g) (I := rwM I m R L0 F) (J := J) (P := P) (a := nI 15) (t := t) hM (by rw [rwM_o (by omega) (by omega)]; exact ht) h64
  rw [rwM_o (q := m + 2) (by omega) (by omega), rwM_o (q := m) (by omega) (by omega), rwM_up (by omega) (by omega), rwM_up (by omega) (by omega)] at m1
  generalize hI1 : va_up (va_up I (m + 2) (va_up (I (m + 2)) t (nI 15))) m (va_up (I m) 5 (nI (t + 1))) = I1 at m1
  have a1 : ∀ q, q ≠ m + 2 → q ≠ m → I1 q = I q := fun q h h' => by rw [← hI1, va_up_n _ _ h', va_up_n _ _ h]
  have su := ct_X12_sumOf (g := g) (B := B) (I := rwM I1 m R (L0 + spr) F) (J := J) (P := P) (m := m) (row := R) (n := L0 + spr) (F := row) hM h43 (by omega) (fun k hk => by rw [rwM_F hk]; exact hF k hk)
  have pu := ct_X12_put (g := g) (B := B) (I := I1) (J := J) (P := P) (m := m) (row := R) (L := L0 + spr) (F := F) (b := b8 (sp_xs row (L0 + spr))) hM h43 (by omega) (by rw [b8_b8, hFs])
  generalize hI2 : rwM I1 m R (L0 + spr + 1) F = I2 at pu
  have a2 : ∀ q, q ≠ m + 31 → q ≠ m + 33 → I2 q = I1 q := fun q h h' => by rw [← hI2, rwM_o h h']
  have A2 : ∀ q, q ≠ m + 31 → q ≠ m + 33 → q ≠ m + 2 → q ≠ m → I2 q = I q := fun q h1 h2 h3 h4 => by rw [a2 q h1 h2, a1 q h3 h4]
  have ap := ct_X12_append (g := g) (B := B) (I := I2) (J := J) (P := P) (m := m) (c := c) (L := ln) (v := nI nu) (rw := nI R) hM hc8 (by rw [A2 _ (by omega) (by omega) (by omega) (by omega)]; exact hln) hl250
  rw [A2 (m + 29) (by omega) (by omega) (by omega) (by omega), A2 (m + 30) (by omega) (by omega) (by omega) (by omega), A2 (m + 28) (by omega) (by omega) (by omega) (by omega), show nI R + nI 1 = nI (R + 1) from nI_add R 1] at ap
  generalize hI3 : va_up (va_up (va_up I2 (m + 29) (va_up (I (m + 29)) (250 * c + ln) (nI nu))) (m + 30) (va_up (I (m + 30)) (250 * c + ln) (nI (R + 1)))) (m + 28) (va_up (I (m + 28)) c (nI (ln + 1))) = I3 at ap
  have a3 : ∀ q, q ≠ m + 29 → q ≠ m + 30 → q ≠ m + 28 → I3 q = I2 q := fun q h1 h2 h3 => by rw [← hI3, va_up_n _ _ h3, va_up_n _ _ h2, va_up_n _ _ h1]
  generalize hI4 : va_up I3 (m + 10) (va_up (I (m + 10)) c (nI ((nu + 1) % 65536))) = I4
  have a4 : ∀ q, q ≠ m + 10 → I4 q = I3 q := fun q h => by rw [← hI4, va_up_n _ _ h]
  generalize hI5 : va_up I4 (m + 14) (va_up (I (m + 14)) c (en + nI 1)) = I5
  have a5 : ∀ q, q ≠ m + 14 → I5 q = I4 q := fun q h => by rw [← hI5, va_up_n _ _ h]
  have e10 : I3 (m + 10) = I (m + 10) := by rw [a3 _ (by omega) (by omega) (by omega), A2 _ (by omega) (by omega) (by omega) (by omega)]
  have e14 : I4 (m + 14) = I (m + 14) := by rw [a4 _ (by omega), a3 _ (by omega) (by omega) (by omega), A2 _ (by omega) (by omega) (by omega) (by omega)]
  have em : I5 m = va_up (I m) 5 (nI (t + 1)) := by rw [a5 _ (by omega), a4 _ (by omega), a3 _ (by omega) (by omega) (by omega), a2 _ (by omega) (by omega), ← hI1, va_up_s]
  have dn := ct_X12_done (g := g) (B := B) (I := I5) (J := J) (P := P) (m := m) (a := nI nu) hM
  refine ⟨mo_st I5 m (nI 0), ⟨?_, ?_, ?_, ?_, ?_, ?_, ?_, ?_, ?_, ?_⟩, ?_⟩
  · show va_up I5 m _ (m + 31) = _
    rw [va_up_n _ _ (by omega), a5 _ (by omega), a4 _ (by omega), a3 _ (by omega) (by omega) (by omega), ← hI2]
    unfold rwM
    rw [va_up_n _ _ (by omega), va_up_s, a1 _ (by omega) (by omega)]
  · show va_up I5 m _ (m + 33) = _
    rw [va_up_n _ _ (by omega), a5 _ (by omega), a4 _ (by omega), a3 _ (by omega) (by omega) (by omega), ← hI2]
    unfold rwM
    rw [va_up_s, a1 _ (by omega) (by omega)]
  · show va_up I5 m _ (m + 2) = _
    rw [va_up_n _ _ (by omega), a5 _ (by omega), a4 _ (by omega), a3 _ (by omega) (by omega) (by omega), a2 _ (by omega) (by omega), ← hI1, va_up_n _ _ (by omega), va_up_s]
  · show va_up I5 m (va_up (I5 m) 1 (nI 0)) m = _
    rw [va_up_s, em]
  · show va_up I5 m _ (m + 29) = _
    rw [va_up_n _ _ (by omega), a5 _ (by omega), a4 _ (by omega), ← hI3, va_up_n _ _ (by omega), va_up_n _ _ (by omega), va_up_s]
  · show va_up I5 m _ (m + 30) = _
    rw [va_up_n _ _ (by omega), a5 _ (by omega), a4 _ (by omega), ← hI3, va_up_n _ _ (by omega), va_up_s]
  · show va_up I5 m _ (m + 28) = _
    rw [va_up_n _ _ (by omega), a5 _ (by omega), a4 _ (by omega), ← hI3, va_up_s]
  · show va_up I5 m _ (m + 10) = _
    rw [va_up_n _ _ (by omega), a5 _ (by omega), ← hI4, va_up_s]
  · show va_up I5 m _ (m + 14) = _
    rw [va_up_n _ _ (by omega), ← hI5, va_up_s]
  · intro q h1 h2 h3 h4 h5 h6 h7 h8 h9
    show va_up I5 m _ q = _
    rw [va_up_n _ _ h4, a5 q h9, a4 q h8, a3 q h5 h6 h7, A2 q h1 h2 h3 h4]
  · have k772 : Ev g mX12_encode 772 [some (.ref m), some (.int (nI c)), some (.int (nI N)), some (.int (nI sb)), some (.int pk), some (.int (nI nu)), some (.int (nI td)), some (.int lg), some (.int sh), some (.int (nI R)), none, none] [] B (rwM I1 m R (L0 + spr) F) J P (some (.int (nI nu)), B, mo_st I5 m (nI 0), J, P) := by
      refine ev_aload_n 773 dX12_encode_772 rfl rfl ?_
      refine ev_iload 775 dX12_encode_773 rfl rfl ?_
      refine ev_aload_n 776 dX12_encode_775 rfl rfl ?_
      refine ev_iload 778 dX12_encode_776 rfl rfl ?_
      refine ev_aload_n 779 dX12_encode_778 rfl rfl ?_
      refine ev_getP 782 mm_cl12 (j := 37) (Nat.le_of_ble_eq_true rfl) dX12_encode_779 lk1322 (fun _ _ _ => rfl) (hM.1 0 _ rfl) (a := (m + 31)) (hM.2.2 30 _ _ _ rfl) rfl ?_
      refine ev_iload 784 dX12_encode_782 rfl rfl ?_
      refine ev_iald 785 _ dX12_encode_784 (hM.1 31 _ rfl) rfl (by have hNN := hM.2.1 31 _ rfl; omega) rfl ?_
      refine ev_eqI (y := nI ((L0+spr))) (rwM_L) ?_
      refine ev_invV 788 (Mc := mX12_sumOf) ⟨lk1698, lk80, hdX12_sumOf, (Nat.le_of_ble_eq_true rfl), (Nat.le_of_ble_eq_true rfl)⟩ lk1695 lk1697 lk59 mm_cl12 rfl dX12_encode_785 (su) rfl (hM.1 0 _ rfl) (Nat.le_of_ble_eq_true rfl) rfl rfl ?_
      refine ev_invVv 791 (Mc := mX12_put) ⟨lk1630, lk80, hdX12_put, (Nat.le_of_ble_eq_true rfl), (Nat.le_of_ble_eq_true rfl)⟩ lk1627 lk1629 lk47 mm_cl12 rfl dX12_encode_788 (pu) rfl (hM.1 0 _ rfl) (Nat.le_of_ble_eq_true rfl) rfl rfl ?_
      refine ev_aload_n 792 dX12_encode_791 rfl rfl ?_
      refine ev_iload_n 793 dX12_encode_792 rfl rfl ?_
      refine ev_iload 795 dX12_encode_793 rfl rfl ?_
      refine ev_iload 797 dX12_encode_795 rfl rfl ?_
      refine ev_invVv 800 (Mc := mX12_append) ⟨lk1702, lk80, hdX12_append, (Nat.le_of_ble_eq_true rfl), (Nat.le_of_ble_eq_true rfl)⟩ lk1699 lk1701 lk60 mm_cl12 rfl dX12_encode_797 (ap) rfl (hM.1 0 _ rfl) (Nat.le_of_ble_eq_true rfl) rfl rfl ?_
      refine ev_aload_n 801 dX12_encode_800 rfl rfl ?_
      refine ev_getP 804 mm_cl12 (j := 15) (Nat.le_of_ble_eq_true rfl) dX12_encode_801 lk1300 (fun _ _ _ => rfl) (hM.1 0 _ rfl) (a := (m + 10)) (hM.2.2 9 _ _ _ rfl) rfl ?_
      refine ev_iload_n 805 dX12_encode_804 rfl rfl ?_
      refine ev_iload 807 dX12_encode_805 rfl rfl ?_
      refine ev_iconstN 808 1 dX12_encode_807 rfl ?_
      refine ev_iaddN 809 dX12_encode_808 rfl ?_
      refine ev_ldc 811 dX12_encode_809 lk1574 rfl ?_
      refine ev_eqI (y := nI 65535) (by decide +kernel) ?_
      refine ev_iand 812 dX12_encode_811 rfl ?_
      refine ev_eqI (y := nI (((nu+1)%65536))) (nI_and) ?_
      refine ev_iast 813 _ dX12_encode_812 (hM.1 10 _ rfl) rfl (by have hNN := hM.2.1 10 _ rfl; omega) rfl ?_
      rw [e10, hI4]
      refine ev_aload_n 814 dX12_encode_813 rfl rfl ?_
      refine ev_getP 817 mm_cl12 (j := 19) (Nat.le_of_ble_eq_true rfl) dX12_encode_814 lk1304 (fun _ _ _ => rfl) (hM.1 0 _ rfl) (a := (m + 14)) (hM.2.2 13 _ _ _ rfl) rfl ?_
      refine ev_iload_n 818 dX12_encode_817 rfl rfl ?_
      refine ev_dup2_11 819 dX12_encode_818 rfl rfl rfl ?_
      refine ev_iald 820 _ dX12_encode_819 (hM.1 14 _ rfl) rfl (by have hNN := hM.2.1 14 _ rfl; omega) rfl ?_
      refine ev_eqI (y := (en)) ((by rw [e14]; exact hen)) ?_
      refine ev_iconstN 821 1 dX12_encode_820 rfl ?_
      refine ev_iadd 822 dX12_encode_821 rfl ?_
      refine ev_iast 823 _ dX12_encode_822 (hM.1 14 _ rfl) rfl (by have hNN := hM.2.1 14 _ rfl; omega) rfl ?_
      rw [e14, hI5]
      refine ev_aload_n 824 dX12_encode_823 rfl rfl ?_
      refine ev_iload 826 dX12_encode_824 rfl rfl ?_
      refine ev_invV 829 (Mc := mX12_done) ⟨lk1544, lk80, hdX12_done, (Nat.le_of_ble_eq_true rfl), (Nat.le_of_ble_eq_true rfl)⟩ lk1541 lk1543 lk39 mm_cl12 rfl dX12_encode_826 (dn) rfl (hM.1 0 _ rfl) (Nat.le_of_ble_eq_true rfl) rfl rfl ?_
      exact ev_iret dX12_encode_829 rfl (rfl)
    refine ev_aload_n 743 dX12_encode_742 rfl rfl ?_
    refine ev_bipushN 745 15 dX12_encode_743 (by decide +kernel) rfl ?_
    refine ev_invVv 748 (Mc := mX12_tell) ⟨lk1599, lk80, hdX12_tell, (Nat.le_of_ble_eq_true rfl), (Nat.le_of_ble_eq_true rfl)⟩ lk1596 lk1598 lk41 mm_cl12 rfl dX12_encode_745 (m1) rfl (hM.1 0 _ rfl) (Nat.le_of_ble_eq_true rfl) rfl rfl ?_
    refine ev_iload 750 dX12_encode_748 rfl rfl ?_
    by_cases cz : td = 0
    · have hs0 : spr = 0 := by omega
      rw [hs0, Nat.add_zero] at k772
      refine ev_if_eqN 753 772 dX12_encode_750 (by decide) (by omega) rfl (fun hbr => ?_) (fun hx => absurd ((by omega)) hx)
      exact k772
    · have hs2 : spr = 2 := by omega
      have p1 := ct_X12_put (g := g) (B := B) (I := I1) (J := J) (P := P) (m := m) (row := R) (L := L0) (F := F) (b := lg - nI 20) hM h43 (by omega) (by rw [hF _ (by omega), b1 (by omega)])
      have p2 := ct_X12_put (g := g) (B := B) (I := I1) (J := J) (P := P) (m := m) (row := R) (L := L0 + 1) (F := F) (b := sh) hM h43 (by omega) (by rw [hF _ (by omega), b2 (by omega)])
      rw [hs2] at k772
      refine ev_if_eqN 753 772 dX12_encode_750 (by decide) (by omega) rfl (fun hx => absurd hx ((by omega))) (fun hbr => ?_)
      refine ev_aload_n 754 dX12_encode_753 rfl rfl ?_
      refine ev_iload 756 dX12_encode_754 rfl rfl ?_
      refine ev_iload 758 dX12_encode_756 rfl rfl ?_
      refine ev_bipushN 760 20 dX12_encode_758 (by decide +kernel) rfl ?_
      refine ev_isub 761 dX12_encode_760 rfl ?_
      refine ev_invVv 764 (Mc := mX12_put) ⟨lk1630, lk80, hdX12_put, (Nat.le_of_ble_eq_true rfl), (Nat.le_of_ble_eq_true rfl)⟩ lk1627 lk1629 lk47 mm_cl12 rfl dX12_encode_761 (p1) rfl (hM.1 0 _ rfl) (Nat.le_of_ble_eq_true rfl) rfl rfl ?_
      refine ev_aload_n 765 dX12_encode_764 rfl rfl ?_
      refine ev_iload 767 dX12_encode_765 rfl rfl ?_
      refine ev_iload 769 dX12_encode_767 rfl rfl ?_
      refine ev_invVv 772 (Mc := mX12_put) ⟨lk1630, lk80, hdX12_put, (Nat.le_of_ble_eq_true rfl), (Nat.le_of_ble_eq_true rfl)⟩ lk1627 lk1629 lk47 mm_cl12 rfl dX12_encode_769 (p2) rfl (hM.1 0 _ rfl) (Nat.le_of_ble_eq_true rfl) rfl rfl ?_
      exact k772
theorem cx_X12_encS {c rt em wt ln R nu rd so td n N lv : Nat} {W : Nat → Int32} {raw en : Int32} (hM : lyM B P m) (hcn : I m 0 = nI n) (hc : c < n) (hn8 : n ≤ 8) (hrt : rt ≤ 1) (r1 : I (m + 5) c = nI rt) (hN : N = 160 * (rt + 1)) (hem : I (m + 6) c = nI em) (hem1 : em ≤ 1) (hw : wt ≤ 640) (hwt : I (m + 11) c = nI wt) (hwN : N ≤ wt) (hln : I (m + 28) c = nI ln) (hl250 : ln < 250) (hr : I (m + 13) c = raw) (hW : ∀ k, k < N → I (m + 12) (640 * c + k) = W k)
    (hR : I m 36 = nI R) (h43 : R < 4300) (hnu : I (m + 10) c = nI nu) (hnu2 : nu < 65536) (hrd : I (m + 9) c = nI rd) (hrd1 : rd ≤ 1) (hso : I (m + 20) c = nI so) (hso2 : so ≤ 2) (htd : td = if rd = 1 ∧ so = 1 then 1 else 0) (hlv : I (m + 8) c = nI lv) (hen : I (m + 14) c = en) (hsil : sp_fP em W raw N < nI lv) (pf : Nat → Nat → Int32) :
    ∃ (I2 I' : mm_TI) (J' : mm_TJ), Ct g mX12_encode [.ref m, .int (nI c)] B I J P (some (.int (nI nu)), B, I', J', P) ∧
      MEt m c R (8 + 2 * td + 1) ln nu 3 (sp_ful (sp_row 0 (nI rt) (nI nu) 2 (2 * td) (sp_fP em W raw N) (fun _ => 0) pf (I (m + 22) (28 * c + 21) - nI 20) (I (m + 22) (28 * c + 22))) (8 + 2 * td)) en I2 I' ∧
      I2 (m + 15) = sgp (I (m + 15)) (160 * (2 * c)) 160 (sp_hu (fun _ => 0) (sp_fP em W raw N) nu (40 * (rt + 1)) (sg (I (m + 15)) (160 * (2 * c)) 160, sg (I (m + 16)) (8 * (2 * c)) 8, I (m + 54), 0) 4).1 ∧ I2 (m + 16) = sgp (I (m + 16)) (8 * (2 * c)) 8 (sp_hu (fun _ => 0) (sp_fP em W raw N) nu (40 * (rt + 1)) (sg (I (m + 15)) (160 * (2 * c)) 160, sg (I (m + 16)) (8 * (2 * c)) 8, I (m + 54), 0) 4).2.1 ∧ I2 (m + 17) = sgp (I (m + 17)) (8 * (2 * c)) 8 (fun _ => 0) ∧
      J' = sp_up J m 2 (sp_fT em W raw N + (sp_hu (fun _ => 0) (sp_fP em W raw N) nu (40 * (rt + 1)) (sg (I (m + 15)) (160 * (2 * c)) 160, sg (I (m + 16)) (8 * (2 * c)) 8, I (m + 54), 0) 4).2.2.2) ∧
      I2 (m + 12) = sgp (I (m + 12)) (640 * c) (wt - N) (fun k => I (m + 12) (640 * c + N + k)) ∧ I2 (m + 13) = va_up (I (m + 13)) c (W (N - 1)) ∧ I2 (m + 11) = va_up (I (m + 11)) c (nI (wt - N)) ∧ I2 (m + 2) = va_up (va_up (va_up (I (m + 2)) 0 (nI 1)) 1 (nI 2)) 2 (nI 14) ∧
      I2 m = va_up (va_up (I m) 5 (nI 3)) 36 (nI (R + 1)) ∧ I2 (m + 31) = va_up (I (m + 31)) R (nI 0) ∧ I2 (m + 32) = va_up (I (m + 32)) R (nI 0) ∧ I2 (m + 20) = va_up (I (m + 20)) c (nI 2) ∧
      (∀ q, q ≠ m + 15 → q ≠ m + 16 → q ≠ m + 17 → q ≠ m + 53 → q ≠ m + 54 → q ≠ m + 57 → q ≠ m + 12 → q ≠ m + 13 → q ≠ m + 11 → q ≠ m + 2 → q ≠ m → q ≠ m + 31 → q ≠ m + 32 → q ≠ m + 20 → I2 q = I q) := by
  have hc8 : c < 8 := by omega
  have htd1 : td ≤ 1 := by rw [htd]; split <;> omega
  obtain ⟨I1, f1, f2, f3, f4, f5, f6, f7, f8, f9, K⟩ := lx_X12_en0 (g := g) (B := B) (I := I) (J := J) (P := P) (m := m) hM hcn hc hn8 hrt r1 hN hem hem1 hw hwt hwN hln hl250 hr hW hR h43 hnu hrd hrd1 hso hso2 htd
  generalize hpk : sp_fP em W raw N = pk at *
  generalize hJ1 : sp_up J m 2 (sp_fT em W raw N) = J1 at K
  have m1 := ct_X12_tell (g := g) (I := I1) (J := J1) (P := P) (a := nI 2) (t := 1) hM (by rw [f6, va_up_n _ _ (by omega), va_up_s]) (by omega)
  generalize hIa : va_up (va_up I1 (m + 2) (va_up (I1 (m + 2)) 1 (nI 2))) m (va_up (I1 m) 5 (nI (1 + 1))) = Ia at m1
  have aa : ∀ q, q ≠ m + 2 → q ≠ m → Ia q = I1 q := fun q h h' => by rw [← hIa, va_up_n _ _ h', va_up_n _ _ h]
  have ma : Ia m = va_up (I1 m) 5 (nI 2) := by rw [← hIa, va_up_s]
  have m2 := ct_X12_tell (g := g) (I := Ia) (J := J1) (P := P) (a := nI 14) (t := 2) hM (by rw [ma, va_up_s]) (by omega)
  generalize hIb : va_up (va_up Ia (m + 2) (va_up (Ia (m + 2)) 2 (nI 14))) m (va_up (Ia m) 5 (nI (2 + 1))) = Ib at m2
  have ab : ∀ q, q ≠ m + 2 → q ≠ m → Ib q = I1 q := fun q h h' => by rw [← hIb, va_up_n _ _ h', va_up_n _ _ h, aa q h h']
  have mb : Ib m = va_up (va_up (I m) 5 (nI 3)) 36 (nI (R + 1)) := by rw [← hIb, va_up_s, ma, f6, bx_uu, va_comm _ _ _ (show 36 ≠ 5 by omega), bx_uu]
  have tb : Ib (m + 2) = va_up (va_up (va_up (I (m + 2)) 0 (nI 1)) 1 (nI 2)) 2 (nI 14) := by rw [← hIb, va_up_n _ _ (by omega), va_up_s, ← hIa, va_up_n _ _ (by omega), va_up_s, f5]
  have AB : ∀ q, q ≠ m + 53 → q ≠ m + 12 → q ≠ m + 13 → q ≠ m + 11 → q ≠ m + 2 → q ≠ m → q ≠ m + 31 → q ≠ m + 32 → Ib q = I q := fun q h1 h2 h3 h4 h5 h6 h7 h8 => by rw [ab q h5 h6, f9 q h1 h2 h3 h4 h5 h6 h7 h8]
  obtain ⟨Ic, c4, u1, u2, u3, u4, u5⟩ := cx_X12_hush (g := g) (B := B) (I := Ib) (J := J1) (P := P) (m := m) (s := 2 * c) (z := nu) (sb := 40 * (rt + 1)) (pk := pk) hM (by omega) (by omega) (by omega)
  simp only [AB (m + 15) (by omega) (by omega) (by omega) (by omega) (by omega) (by omega) (by omega) (by omega), AB (m + 16) (by omega) (by omega) (by omega) (by omega) (by omega) (by omega) (by omega) (by omega), AB (m + 17) (by omega) (by omega) (by omega) (by omega) (by omega) (by omega) (by omega) (by omega), AB (m + 54) (by omega) (by omega) (by omega) (by omega) (by omega) (by omega) (by omega) (by omega)] at c4 u1 u2 u3 u4
  generalize hhu : sp_hu (fun _ => 0) pk nu (40 * (rt + 1)) (sg (I (m + 15)) (160 * (2 * c)) 160, sg (I (m + 16)) (8 * (2 * c)) 8, I (m + 54), 0) 4 = hu at *
  generalize hJ2 : sp_up J1 m 2 hu.2.2.2 = J2 at c4
  have c31 : Ic (m + 31) R = nI 0 := by rw [u5 _ (by omega) (by omega) (by omega) (by omega) (by omega), ab _ (by omega) (by omega), f7, va_up_s]
  have AC : ∀ q, q ≠ m + 15 → q ≠ m + 16 → q ≠ m + 17 → q ≠ m + 54 → q ≠ m + 57 → q ≠ m + 53 → q ≠ m + 12 → q ≠ m + 13 → q ≠ m + 11 → q ≠ m + 2 → q ≠ m → q ≠ m + 31 → q ≠ m + 32 → Ic q = I q := fun q h1 h2 h3 h4 h5 h6 h7 h8 h9 h10 h11 h12 h13 => by rw [u5 q h1 h2 h3 h4 h5, AB q h6 h7 h8 h9 h10 h11 h12 h13]
  generalize hrow : sp_row 0 (nI rt) (nI nu) 2 (2 * td) pk (fun _ => 0) pf (I (m + 22) (28 * c + 21) - nI 20) (I (m + 22) (28 * c + 22)) = row
  have hF : ∀ k, k < 8 + 2 * td → sp_ful row (8 + 2 * td) k = row k := fun k hk => by unfold sp_ful; rw [if_pos hk]
  generalize hId : va_up Ic (m + 20) (va_up (Ic (m + 20)) c (nI 2)) = Id
  have ad : ∀ q, q ≠ m + 20 → Id q = Ic q := fun q h => by rw [← hId, va_up_n _ _ h]
  have mI : Id m = va_up (va_up (I m) 5 (nI 3)) 36 (nI (R + 1)) := by rw [ad _ (by omega), u5 _ (by omega) (by omega) (by omega) (by omega) (by omega), mb]
  obtain ⟨I', hI', E⟩ := lx_X12_en9 (g := g) (B := B) (I := Id) (J := J2) (P := P) (m := m) (c := c) (N := N) (sb := 40 * (rt + 1)) (R := R) (L0 := 8) (bd := 2) (spr := 2 * td) (td := td) (ln := ln) (nu := nu) (t := 3) (pk := pk) (lg := I (m + 22) (28 * c + 21)) (sh := I (m + 22) (28 * c + 22)) (en := en) (row := row) hM hc8 h43 rfl (by omega) htd1 rfl (by rw [mI, va_up_n _ _ (by omega), va_up_s]) (by omega)
    (by rw [ad _ (by omega), AC _ (by omega) (by omega) (by omega) (by omega) (by omega) (by omega) (by omega) (by omega) (by omega) (by omega) (by omega) (by omega) (by omega)]; exact hln) hl250 hnu2 (by rw [ad _ (by omega), AC _ (by omega) (by omega) (by omega) (by omega) (by omega) (by omega) (by omega) (by omega) (by omega) (by omega) (by omega) (by omega) (by omega)]; exact hen)
    (fun h => by rw [← hrow, sp_row_6 (by omega)]; simp) (fun h => by rw [← hrow, sp_row_6 (by omega)]; simp)
  refine ⟨Id, I', J2, K _ ?_, hI', ?_, ?_, ?_, ?_, ?_, ?_, ?_, ?_, ?_, ?_, ?_, ?_, ?_⟩
  · have e5 : ∀ L, rwM Ic m R L (sp_ful row (8 + 2 * td)) (m + 5) c = nI rt := fun L => by rw [rwM_o (by omega) (by omega), AC _ (by omega) (by omega) (by omega) (by omega) (by omega) (by omega) (by omega) (by omega) (by omega) (by omega) (by omega) (by omega) (by omega)]; exact r1
    have put := fun (L : Nat) (b : Int32) (hL : L < 8) (hb : b8 b = row L) => ct_X12_put (g := g) (B := B) (I := Ic) (J := J2) (P := P) (m := m) (row := R) (L := L) (F := sp_ful row (8 + 2 * td)) (b := b) hM h43 (by omega) (by rw [hb, hF L (by omega)])
    have fin : Ev g mX12_encode 485 [some (.ref m), some (.int (nI c)), some (.int (nI N)), some (.int (nI (40 * (rt + 1)))), some (.int pk), some (.int (nI nu)), some (.int (nI td)), some (.int (I (m + 22) (28 * c + 21))), some (.int (I (m + 22) (28 * c + 22))), some (.int (nI R)), none, none] [] B (rwM Ic m R 7 (sp_ful row (8 + 2 * td))) J2 P (some (.int (nI nu)), B, I', J2, P) := by
      refine ev_aload_n 486 dX12_encode_485 rfl rfl ?_
      refine ev_iload 488 dX12_encode_486 rfl rfl ?_
      refine ev_iload 490 dX12_encode_488 rfl rfl ?_
      refine ev_invVv 493 (Mc := mX12_put) ⟨lk1630, lk80, hdX12_put, (Nat.le_of_ble_eq_true rfl), (Nat.le_of_ble_eq_true rfl)⟩ lk1627 lk1629 lk47 mm_cl12 rfl dX12_encode_490 (put 7 pk (by omega) (by rw [← hrow]; unfold sp_row; simp)) rfl (hM.1 0 _ rfl) (Nat.le_of_ble_eq_true rfl) rfl rfl ?_
      refine ev_aload_n 494 dX12_encode_493 rfl rfl ?_
      refine ev_getP 497 mm_cl12 (j := 25) (Nat.le_of_ble_eq_true rfl) dX12_encode_494 lk1310 (fun _ _ _ => rfl) (hM.1 0 _ rfl) (a := (m + 20)) (hM.2.2 19 _ _ _ rfl) rfl ?_
      refine ev_iload_n 498 dX12_encode_497 rfl rfl ?_
      refine ev_iconstN 499 2 dX12_encode_498 rfl ?_
      refine ev_iast 500 _ dX12_encode_499 (hM.1 20 _ rfl) rfl (by have hNN := hM.2.1 20 _ rfl; omega) rfl ?_
      refine ev_goto 742 dX12_encode_500 (by decide) ?_
      rw [rwM_o (by omega) (by omega), rwM_up (by omega) (by omega), hId]
      exact E
    have spb : Ev g mX12_encode 474 [some (.ref m), some (.int (nI c)), some (.int (nI N)), some (.int (nI (40 * (rt + 1)))), some (.int pk), some (.int (nI nu)), some (.int (nI td)), some (.int (I (m + 22) (28 * c + 21))), some (.int (I (m + 22) (28 * c + 22))), some (.int (nI R)), none, none] [] B (rwM Ic m R 6 (sp_ful row (8 + 2 * td))) J2 P (some (.int (nI nu)), B, I', J2, P) := by
      refine ev_aload_n 475 dX12_encode_474 rfl rfl ?_
      refine ev_iload 477 dX12_encode_475 rfl rfl ?_
      refine ev_iload 479 dX12_encode_477 rfl rfl ?_
      refine ev_bipushN 481 8 dX12_encode_479 (by decide +kernel) rfl ?_
      refine ev_ishr 482 dX12_encode_481 rfl ?_
      refine ev_invVv 485 (Mc := mX12_put) ⟨lk1630, lk80, hdX12_put, (Nat.le_of_ble_eq_true rfl), (Nat.le_of_ble_eq_true rfl)⟩ lk1627 lk1629 lk47 mm_cl12 rfl dX12_encode_482 (put 6 _ (by omega) (by rw [← hrow]; unfold sp_row; simp)) rfl (hM.1 0 _ rfl) (Nat.le_of_ble_eq_true rfl) rfl rfl ?_
      exact fin
    refine ev_iload 381 dX12_encode_379 rfl rfl ?_
    refine ev_aload_n 382 dX12_encode_381 rfl rfl ?_
    refine ev_getP 385 mm_cl12 (j := 13) (Nat.le_of_ble_eq_true rfl) dX12_encode_382 lk1298 (fun _ _ _ => rfl) (hM.1 0 _ rfl) (a := (m + 8)) (hM.2.2 7 _ _ _ rfl) rfl ?_
    refine ev_iload_n 386 dX12_encode_385 rfl rfl ?_
    refine ev_iald 387 _ dX12_encode_386 (hM.1 8 _ rfl) rfl (by have hNN := hM.2.1 8 _ rfl; omega) rfl ?_
    refine ev_eqI (y := nI (lv)) ((by rw [f9 _ (by omega) (by omega) (by omega) (by omega) (by omega) (by omega) (by omega) (by omega)]; exact hlv)) ?_
    refine ev_icmp_ge 390 503 dX12_encode_387 (by decide) rfl (fun hx => absurd hx ((by exact Int32.not_le.mpr hsil))) (fun hbr => ?_)
    refine ev_aload_n 391 dX12_encode_390 rfl rfl ?_
    refine ev_iconstN 392 2 dX12_encode_391 rfl ?_
    refine ev_invVv 395 (Mc := mX12_tell) ⟨lk1599, lk80, hdX12_tell, (Nat.le_of_ble_eq_true rfl), (Nat.le_of_ble_eq_true rfl)⟩ lk1596 lk1598 lk41 mm_cl12 rfl dX12_encode_392 (m1) rfl (hM.1 0 _ rfl) (Nat.le_of_ble_eq_true rfl) rfl rfl ?_
    refine ev_aload_n 396 dX12_encode_395 rfl rfl ?_
    refine ev_bipushN 398 14 dX12_encode_396 (by decide +kernel) rfl ?_
    refine ev_invVv 401 (Mc := mX12_tell) ⟨lk1599, lk80, hdX12_tell, (Nat.le_of_ble_eq_true rfl), (Nat.le_of_ble_eq_true rfl)⟩ lk1596 lk1598 lk41 mm_cl12 rfl dX12_encode_398 (m2) rfl (hM.1 0 _ rfl) (Nat.le_of_ble_eq_true rfl) rfl rfl ?_
    refine ev_aload_n 402 dX12_encode_401 rfl rfl ?_
    refine ev_iconstN 403 2 dX12_encode_402 rfl ?_
    refine ev_iload_n 404 dX12_encode_403 rfl rfl ?_
    refine ev_imulN 405 dX12_encode_404 rfl ?_
    refine ev_iload 407 dX12_encode_405 rfl rfl ?_
    refine ev_iload 409 dX12_encode_407 rfl rfl ?_
    refine ev_iload_n 410 dX12_encode_409 rfl rfl ?_
    refine ev_invVv 413 (Mc := mX12_hush) ⟨lk1618, lk80, hdX12_hush, (Nat.le_of_ble_eq_true rfl), (Nat.le_of_ble_eq_true rfl)⟩ lk1615 lk1617 lk44 mm_cl12 rfl dX12_encode_410 (c4) rfl (hM.1 0 _ rfl) (Nat.le_of_ble_eq_true rfl) rfl rfl ?_
    rw [← rwM_0 (F := sp_ful row (8 + 2 * td)) c31]
    refine ev_aload_n 414 dX12_encode_413 rfl rfl ?_
    refine ev_iload 416 dX12_encode_414 rfl rfl ?_
    refine ev_iconstN 417 2 dX12_encode_416 rfl ?_
    refine ev_invVv 420 (Mc := mX12_put) ⟨lk1630, lk80, hdX12_put, (Nat.le_of_ble_eq_true rfl), (Nat.le_of_ble_eq_true rfl)⟩ lk1627 lk1629 lk47 mm_cl12 rfl dX12_encode_417 (put 0 _ (by omega) (by rw [← hrow]; unfold sp_row; simp)) rfl (hM.1 0 _ rfl) (Nat.le_of_ble_eq_true rfl) rfl rfl ?_
    refine ev_aload_n 421 dX12_encode_420 rfl rfl ?_
    refine ev_iload 423 dX12_encode_421 rfl rfl ?_
    refine ev_aload_n 424 dX12_encode_423 rfl rfl ?_
    refine ev_getP 427 mm_cl12 (j := 10) (Nat.le_of_ble_eq_true rfl) dX12_encode_424 lk1295 (fun _ _ _ => rfl) (hM.1 0 _ rfl) (a := (m + 5)) (hM.2.2 4 _ _ _ rfl) rfl ?_
    refine ev_iload_n 428 dX12_encode_427 rfl rfl ?_
    refine ev_iald 429 _ dX12_encode_428 (hM.1 5 _ rfl) rfl (by have hNN := hM.2.1 5 _ rfl; omega) rfl ?_
    refine ev_eqI (y := nI (rt)) ((e5 _)) ?_
    refine ev_invVv 432 (Mc := mX12_put) ⟨lk1630, lk80, hdX12_put, (Nat.le_of_ble_eq_true rfl), (Nat.le_of_ble_eq_true rfl)⟩ lk1627 lk1629 lk47 mm_cl12 rfl dX12_encode_429 (put 1 _ (by omega) (by rw [← hrow]; unfold sp_row; simp)) rfl (hM.1 0 _ rfl) (Nat.le_of_ble_eq_true rfl) rfl rfl ?_
    refine ev_aload_n 433 dX12_encode_432 rfl rfl ?_
    refine ev_iload 435 dX12_encode_433 rfl rfl ?_
    refine ev_iconstN 436 2 dX12_encode_435 rfl ?_
    refine ev_invVv 439 (Mc := mX12_put) ⟨lk1630, lk80, hdX12_put, (Nat.le_of_ble_eq_true rfl), (Nat.le_of_ble_eq_true rfl)⟩ lk1627 lk1629 lk47 mm_cl12 rfl dX12_encode_436 (put 2 _ (by omega) (by rw [← hrow]; unfold sp_row; simp)) rfl (hM.1 0 _ rfl) (Nat.le_of_ble_eq_true rfl) rfl rfl ?_
    refine ev_aload_n 440 dX12_encode_439 rfl rfl ?_
    refine ev_iload 442 dX12_encode_440 rfl rfl ?_
    refine ev_iload 444 dX12_encode_442 rfl rfl ?_
    refine ev_bipushN 446 8 dX12_encode_444 (by decide +kernel) rfl ?_
    refine ev_ishr 447 dX12_encode_446 rfl ?_
    refine ev_invVv 450 (Mc := mX12_put) ⟨lk1630, lk80, hdX12_put, (Nat.le_of_ble_eq_true rfl), (Nat.le_of_ble_eq_true rfl)⟩ lk1627 lk1629 lk47 mm_cl12 rfl dX12_encode_447 (put 3 _ (by omega) (by rw [← hrow]; unfold sp_row; simp)) rfl (hM.1 0 _ rfl) (Nat.le_of_ble_eq_true rfl) rfl rfl ?_
    refine ev_aload_n 451 dX12_encode_450 rfl rfl ?_
    refine ev_iload 453 dX12_encode_451 rfl rfl ?_
    refine ev_iload 455 dX12_encode_453 rfl rfl ?_
    refine ev_invVv 458 (Mc := mX12_put) ⟨lk1630, lk80, hdX12_put, (Nat.le_of_ble_eq_true rfl), (Nat.le_of_ble_eq_true rfl)⟩ lk1627 lk1629 lk47 mm_cl12 rfl dX12_encode_455 (put 4 _ (by omega) (by rw [← hrow]; unfold sp_row; simp)) rfl (hM.1 0 _ rfl) (Nat.le_of_ble_eq_true rfl) rfl rfl ?_
    refine ev_aload_n 459 dX12_encode_458 rfl rfl ?_
    refine ev_iload 461 dX12_encode_459 rfl rfl ?_
    refine ev_iload 463 dX12_encode_461 rfl rfl ?_
    by_cases cz : td = 0
    · refine ev_if_eqN 466 470 dX12_encode_463 (by decide) (by omega) rfl (fun hbr => ?_) (fun hx => absurd ((by omega)) hx)
      refine ev_iconstN 471 0 dX12_encode_470 rfl ?_
      refine ev_invVv 474 (Mc := mX12_put) ⟨lk1630, lk80, hdX12_put, (Nat.le_of_ble_eq_true rfl), (Nat.le_of_ble_eq_true rfl)⟩ lk1627 lk1629 lk47 mm_cl12 rfl dX12_encode_471 (put 5 _ (by omega) (by rw [← hrow, cz]; unfold sp_row; simp)) rfl (hM.1 0 _ rfl) (Nat.le_of_ble_eq_true rfl) rfl rfl ?_
      exact spb
    · refine ev_if_eqN 466 470 dX12_encode_463 (by decide) (by omega) rfl (fun hx => absurd hx ((by omega))) (fun hbr => ?_)
      refine ev_iconstN 467 2 dX12_encode_466 rfl ?_
      refine ev_goto 471 dX12_encode_467 (by decide) ?_
      refine ev_invVv 474 (Mc := mX12_put) ⟨lk1630, lk80, hdX12_put, (Nat.le_of_ble_eq_true rfl), (Nat.le_of_ble_eq_true rfl)⟩ lk1627 lk1629 lk47 mm_cl12 rfl dX12_encode_471 (put 5 _ (by omega) (by rw [← hrow, show td = 1 by omega]; unfold sp_row; simp)) rfl (hM.1 0 _ rfl) (Nat.le_of_ble_eq_true rfl) rfl rfl ?_
      exact spb
  · rw [ad _ (by omega)]; exact u1
  · rw [ad _ (by omega)]; exact u2
  · rw [ad _ (by omega)]; exact u3
  · rw [← hJ2, ← hJ1, sp_up_up]
  · rw [ad _ (by omega), u5 _ (by omega) (by omega) (by omega) (by omega) (by omega), ab _ (by omega) (by omega), f2]
  · rw [ad _ (by omega), u5 _ (by omega) (by omega) (by omega) (by omega) (by omega), ab _ (by omega) (by omega), f3]
  · rw [ad _ (by omega), u5 _ (by omega) (by omega) (by omega) (by omega) (by omega), ab _ (by omega) (by omega), f4]
  · rw [ad _ (by omega), u5 _ (by omega) (by omega) (by omega) (by omega) (by omega), tb]
  · exact mI
  · rw [ad _ (by omega), u5 _ (by omega) (by omega) (by omega) (by omega) (by omega), ab _ (by omega) (by omega), f7]
  · rw [ad _ (by omega), u5 _ (by omega) (by omega) (by omega) (by omega) (by omega), ab _ (by omega) (by omega), f8]
  · rw [← hId, va_up_s, AC _ (by omega) (by omega) (by omega) (by omega) (by omega) (by omega) (by omega) (by omega) (by omega) (by omega) (by omega) (by omega) (by omega)]
  · intro q h1 h2 h3 h4 h5 h6 h7 h8 h9 h10 h11 h12 h13 h14
    rw [ad q h14, AC q h1 h2 h3 h5 h6 h4 h7 h8 h9 h10 h11 h12 h13]
end MEE
