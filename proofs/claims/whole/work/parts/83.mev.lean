/-! the model's encode: a voice -/
section MEV
variable {g : mm_G} {B : mm_B} {I : mm_TI} {J : mm_TJ} {P : mm_TP} {m : Nat}
theorem lp_X12_ev1 {c N sb R nu td : Nat} {pk lg sh : Int32} {ix F : Nat → Int32} {Z : mm_Z} (hM : lyM B P m) (hc8 : c < 8) (h43 : R < 4300) (hix : ∀ k, k < 8 → I (m + 21) (8 * c + k) = ix k) (hF : ∀ k, k < 8 → F (6 + k) = b8 (ix k + nI 32))
    (K : Ev g mX12_encode 609 [some (.ref m), some (.int (nI c)), some (.int (nI N)), some (.int (nI sb)), some (.int pk), some (.int (nI nu)), some (.int (nI td)), some (.int lg), some (.int sh), some (.int (nI R)), none, none] [] B (rwM I m R 14 F) J P Z) : ∀ (d i : Nat), i + d = 8 →
    Ev g mX12_encode 575 [some (.ref m), some (.int (nI c)), some (.int (nI N)), some (.int (nI sb)), some (.int pk), some (.int (nI nu)), some (.int (nI td)), some (.int lg), some (.int sh), some (.int (nI R)), some (.int (nI i)), none] [] B (rwM I m R (6 + i) F) J P Z := by
  intro d
  induction d with
  | zero =>
    intro i hi
    obtain rfl : i = 8 := by omega
    refine ev_iload 577 dX12_encode_575 rfl rfl ?_
    refine ev_bipushN 579 8 dX12_encode_577 (by decide +kernel) rfl ?_
    refine ev_icmp_geN 582 609 dX12_encode_579 (by decide) (by omega) (by omega) rfl (fun hbr => ?_) (fun hx => absurd ((by omega)) hx)
    refine ev_le (mle_s (mle_s (mle_s (mle_s (mle_s (mle_s (mle_s (mle_s (mle_s (mle_s (mle_n (mle_n (mle_0))))))))))))) ?_
    exact K
  | succ d ih =>
    intro i hi
    have e := ih (i + 1) (by omega)
    have pu := ct_X12_put (g := g) (B := B) (I := I) (J := J) (P := P) (m := m) (row := R) (L := 6 + i) (F := F) (b := ix i + nI 32) hM h43 (by omega) (hF i (by omega)).symm
    refine ev_iload 577 dX12_encode_575 rfl rfl ?_
    refine ev_bipushN 579 8 dX12_encode_577 (by decide +kernel) rfl ?_
    refine ev_icmp_geN 582 609 dX12_encode_579 (by decide) (by omega) (by omega) rfl (fun hx => absurd hx ((by omega))) (fun hbr => ?_)
    refine ev_aload_n 583 dX12_encode_582 rfl rfl ?_
    refine ev_iload 585 dX12_encode_583 rfl rfl ?_
    refine ev_aload_n 586 dX12_encode_585 rfl rfl ?_
    refine ev_getP 589 mm_cl12 (j := 26) (Nat.le_of_ble_eq_true rfl) dX12_encode_586 lk1311 (fun _ _ _ => rfl) (hM.1 0 _ rfl) (a := (m + 21)) (hM.2.2 20 _ _ _ rfl) rfl ?_
    refine ev_bipushN 591 8 dX12_encode_589 (by decide +kernel) rfl ?_
    refine ev_iload_n 592 dX12_encode_591 rfl rfl ?_
    refine ev_imulN 593 dX12_encode_592 rfl ?_
    refine ev_iload 595 dX12_encode_593 rfl rfl ?_
    refine ev_iaddN 596 dX12_encode_595 rfl ?_
    refine ev_iald 597 _ dX12_encode_596 (hM.1 21 _ rfl) rfl (by have hNN := hM.2.1 21 _ rfl; omega) rfl ?_
    refine ev_eqI (y := (ix i)) ((by rw [rwM_o (by omega) (by omega)]; exact hix i (by omega))) ?_
    refine ev_bipushN 599 32 dX12_encode_597 (by decide +kernel) rfl ?_
    refine ev_iadd 600 dX12_encode_599 rfl ?_
    refine ev_invVv 603 (Mc := mX12_put) ⟨lk1630, lk80, hdX12_put, (Nat.le_of_ble_eq_true rfl), (Nat.le_of_ble_eq_true rfl)⟩ lk1627 lk1629 lk47 mm_cl12 rfl dX12_encode_600 (pu) rfl (hM.1 0 _ rfl) (Nat.le_of_ble_eq_true rfl) rfl rfl ?_
    refine ev_iincN 606 (lv' := [_, _, _, _, _, _, _, _, _, some (.int _), _, _]) 1 dX12_encode_603 rfl (Nat.le_of_ble_eq_true rfl) rfl rfl ?_
    refine ev_goto 575 dX12_encode_606 (by decide) ?_
    exact e
theorem lp_X12_ev2 {c N sb R nu td : Nat} {pk lg sh : Int32} {F : Nat → Int32} {pf : Nat → Nat → Int32} {Z : mm_Z} (hM : lyM B P m) (hc8 : c < 8) (h43 : R < 4300) (hpf : ∀ i k, i < 4 → k < 7 → I (m + 22) (28 * c + 7 * i + k) = pf i k) (hF : ∀ i k, i < 4 → k < 5 → F (14 + 5 * i + k) = sp_pb (pf i) k)
    (K : Ev g mX12_encode 735 [some (.ref m), some (.int (nI c)), some (.int (nI N)), some (.int (nI sb)), some (.int pk), some (.int (nI nu)), some (.int (nI td)), some (.int lg), some (.int sh), some (.int (nI R)), none, none] [] B (rwM I m R 34 F) J P Z) : ∀ (d i : Nat), i + d = 4 →
    Ev g mX12_encode 612 [some (.ref m), some (.int (nI c)), some (.int (nI N)), some (.int (nI sb)), some (.int pk), some (.int (nI nu)), some (.int (nI td)), some (.int lg), some (.int sh), some (.int (nI R)), some (.int (nI i)), none] [] B (rwM I m R (14 + 5 * i) F) J P Z := by
  intro d
  induction d with
  | zero =>
    intro i hi
    obtain rfl : i = 4 := by omega
    refine ev_iload 614 dX12_encode_612 rfl rfl ?_
    refine ev_iconstN 615 4 dX12_encode_614 rfl ?_
    refine ev_icmp_geN 618 735 dX12_encode_615 (by decide) (by omega) (by omega) rfl (fun hbr => ?_) (fun hx => absurd ((by omega)) hx)
    refine ev_le (mle_s (mle_s (mle_s (mle_s (mle_s (mle_s (mle_s (mle_s (mle_s (mle_s (mle_n (mle_n (mle_0))))))))))))) ?_
    exact K
  | succ d ih =>
    intro i hi
    have e := ih (i + 1) (by omega)
    rw [show 14 + 5 * (i + 1) = 14 + 5 * i + 4 + 1 by omega] at e
    have h0 := hpf i 0 (by omega) (by omega)
    rw [Nat.add_zero] at h0
    have f0 := hF i 0 (by omega) (by omega)
    rw [Nat.add_zero] at f0
    have pu := fun (k : Nat) (b : Int32) (hk : k < 5) (hb : b8 b = F (14 + 5 * i + k)) => ct_X12_put (g := g) (B := B) (I := I) (J := J) (P := P) (m := m) (row := R) (L := 14 + 5 * i + k) (F := F) (b := b) hM h43 (by omega) hb
    refine ev_iload 614 dX12_encode_612 rfl rfl ?_
    refine ev_iconstN 615 4 dX12_encode_614 rfl ?_
    refine ev_icmp_geN 618 735 dX12_encode_615 (by decide) (by omega) (by omega) rfl (fun hx => absurd hx ((by omega))) (fun hbr => ?_)
    refine ev_bipushN 620 28 dX12_encode_618 (by decide +kernel) rfl ?_
    refine ev_iload_n 621 dX12_encode_620 rfl rfl ?_
    refine ev_imulN 622 dX12_encode_621 rfl ?_
    refine ev_bipushN 624 7 dX12_encode_622 (by decide +kernel) rfl ?_
    refine ev_iload 626 dX12_encode_624 rfl rfl ?_
    refine ev_imulN 627 dX12_encode_626 rfl ?_
    refine ev_iaddN 628 dX12_encode_627 rfl ?_
    refine ev_istore 630 (lv' := [_, _, _, _, _, _, _, _, _, _, some (.int _), _]) dX12_encode_628 (Nat.le_of_ble_eq_true rfl) rfl rfl ?_
    refine ev_aload_n 631 dX12_encode_630 rfl rfl ?_
    refine ev_iload 633 dX12_encode_631 rfl rfl ?_
    refine ev_aload_n 634 dX12_encode_633 rfl rfl ?_
    refine ev_getP 637 mm_cl12 (j := 27) (Nat.le_of_ble_eq_true rfl) dX12_encode_634 lk1312 (fun _ _ _ => rfl) (hM.1 0 _ rfl) (a := (m + 22)) (hM.2.2 21 _ _ _ rfl) rfl ?_
    refine ev_iload 639 dX12_encode_637 rfl rfl ?_
    refine ev_iald 640 _ dX12_encode_639 (hM.1 22 _ rfl) rfl (by have hNN := hM.2.1 22 _ rfl; omega) rfl ?_
    refine ev_eqI (y := (pf i 0)) ((by rw [rwM_o (by omega) (by omega)]; exact h0)) ?_
    refine ev_bipushN 642 20 dX12_encode_640 (by decide +kernel) rfl ?_
    refine ev_isub 643 dX12_encode_642 rfl ?_
    refine ev_invVv 646 (Mc := mX12_put) ⟨lk1630, lk80, hdX12_put, (Nat.le_of_ble_eq_true rfl), (Nat.le_of_ble_eq_true rfl)⟩ lk1627 lk1629 lk47 mm_cl12 rfl dX12_encode_643 (pu 0 _ (by omega) (by rw [hF i 0 (by omega) (by omega)]; rfl)) rfl (hM.1 0 _ rfl) (Nat.le_of_ble_eq_true rfl) rfl rfl ?_
    refine ev_aload_n 647 dX12_encode_646 rfl rfl ?_
    refine ev_iload 649 dX12_encode_647 rfl rfl ?_
    refine ev_aload_n 650 dX12_encode_649 rfl rfl ?_
    refine ev_getP 653 mm_cl12 (j := 27) (Nat.le_of_ble_eq_true rfl) dX12_encode_650 lk1312 (fun _ _ _ => rfl) (hM.1 0 _ rfl) (a := (m + 22)) (hM.2.2 21 _ _ _ rfl) rfl ?_
    refine ev_iload 655 dX12_encode_653 rfl rfl ?_
    refine ev_iconstN 656 1 dX12_encode_655 rfl ?_
    refine ev_iaddN 657 dX12_encode_656 rfl ?_
    refine ev_iald 658 _ dX12_encode_657 (hM.1 22 _ rfl) rfl (by have hNN := hM.2.1 22 _ rfl; omega) rfl ?_
    refine ev_eqI (y := (pf i 1)) ((by rw [rwM_o (by omega) (by omega)]; exact hpf i 1 (by omega) (by omega))) ?_
    refine ev_invVv 661 (Mc := mX12_put) ⟨lk1630, lk80, hdX12_put, (Nat.le_of_ble_eq_true rfl), (Nat.le_of_ble_eq_true rfl)⟩ lk1627 lk1629 lk47 mm_cl12 rfl dX12_encode_658 (pu 1 _ (by omega) (by rw [hF i 1 (by omega) (by omega)]; rfl)) rfl (hM.1 0 _ rfl) (Nat.le_of_ble_eq_true rfl) rfl rfl ?_
    refine ev_aload_n 662 dX12_encode_661 rfl rfl ?_
    refine ev_iload 664 dX12_encode_662 rfl rfl ?_
    refine ev_aload_n 665 dX12_encode_664 rfl rfl ?_
    refine ev_getP 668 mm_cl12 (j := 27) (Nat.le_of_ble_eq_true rfl) dX12_encode_665 lk1312 (fun _ _ _ => rfl) (hM.1 0 _ rfl) (a := (m + 22)) (hM.2.2 21 _ _ _ rfl) rfl ?_
    refine ev_iload 670 dX12_encode_668 rfl rfl ?_
    refine ev_iconstN 671 2 dX12_encode_670 rfl ?_
    refine ev_iaddN 672 dX12_encode_671 rfl ?_
    refine ev_iald 673 _ dX12_encode_672 (hM.1 22 _ rfl) rfl (by have hNN := hM.2.1 22 _ rfl; omega) rfl ?_
    refine ev_eqI (y := (pf i 2)) ((by rw [rwM_o (by omega) (by omega)]; exact hpf i 2 (by omega) (by omega))) ?_
    refine ev_aload_n 674 dX12_encode_673 rfl rfl ?_
    refine ev_getP 677 mm_cl12 (j := 27) (Nat.le_of_ble_eq_true rfl) dX12_encode_674 lk1312 (fun _ _ _ => rfl) (hM.1 0 _ rfl) (a := (m + 22)) (hM.2.2 21 _ _ _ rfl) rfl ?_
    refine ev_iload 679 dX12_encode_677 rfl rfl ?_
    refine ev_iconstN 680 3 dX12_encode_679 rfl ?_
    refine ev_iaddN 681 dX12_encode_680 rfl ?_
    refine ev_iald 682 _ dX12_encode_681 (hM.1 22 _ rfl) rfl (by have hNN := hM.2.1 22 _ rfl; omega) rfl ?_
    refine ev_eqI (y := (pf i 3)) ((by rw [rwM_o (by omega) (by omega)]; exact hpf i 3 (by omega) (by omega))) ?_
    refine ev_iadd 683 dX12_encode_682 rfl ?_
    refine ev_invVv 686 (Mc := mX12_put) ⟨lk1630, lk80, hdX12_put, (Nat.le_of_ble_eq_true rfl), (Nat.le_of_ble_eq_true rfl)⟩ lk1627 lk1629 lk47 mm_cl12 rfl dX12_encode_683 (pu 2 _ (by omega) (by rw [hF i 2 (by omega) (by omega)]; rfl)) rfl (hM.1 0 _ rfl) (Nat.le_of_ble_eq_true rfl) rfl rfl ?_
    refine ev_aload_n 687 dX12_encode_686 rfl rfl ?_
    refine ev_iload 689 dX12_encode_687 rfl rfl ?_
    refine ev_aload_n 690 dX12_encode_689 rfl rfl ?_
    refine ev_getP 693 mm_cl12 (j := 27) (Nat.le_of_ble_eq_true rfl) dX12_encode_690 lk1312 (fun _ _ _ => rfl) (hM.1 0 _ rfl) (a := (m + 22)) (hM.2.2 21 _ _ _ rfl) rfl ?_
    refine ev_iload 695 dX12_encode_693 rfl rfl ?_
    refine ev_iconstN 696 4 dX12_encode_695 rfl ?_
    refine ev_iaddN 697 dX12_encode_696 rfl ?_
    refine ev_iald 698 _ dX12_encode_697 (hM.1 22 _ rfl) rfl (by have hNN := hM.2.1 22 _ rfl; omega) rfl ?_
    refine ev_eqI (y := (pf i 4)) ((by rw [rwM_o (by omega) (by omega)]; exact hpf i 4 (by omega) (by omega))) ?_
    refine ev_iconstN 699 1 dX12_encode_698 rfl ?_
    refine ev_isub 700 dX12_encode_699 rfl ?_
    refine ev_aload_n 701 dX12_encode_700 rfl rfl ?_
    refine ev_getP 704 mm_cl12 (j := 27) (Nat.le_of_ble_eq_true rfl) dX12_encode_701 lk1312 (fun _ _ _ => rfl) (hM.1 0 _ rfl) (a := (m + 22)) (hM.2.2 21 _ _ _ rfl) rfl ?_
    refine ev_iload 706 dX12_encode_704 rfl rfl ?_
    refine ev_iconstN 707 5 dX12_encode_706 rfl ?_
    refine ev_iaddN 708 dX12_encode_707 rfl ?_
    refine ev_iald 709 _ dX12_encode_708 (hM.1 22 _ rfl) rfl (by have hNN := hM.2.1 22 _ rfl; omega) rfl ?_
    refine ev_eqI (y := (pf i 5)) ((by rw [rwM_o (by omega) (by omega)]; exact hpf i 5 (by omega) (by omega))) ?_
    refine ev_iadd 710 dX12_encode_709 rfl ?_
    refine ev_invVv 713 (Mc := mX12_put) ⟨lk1630, lk80, hdX12_put, (Nat.le_of_ble_eq_true rfl), (Nat.le_of_ble_eq_true rfl)⟩ lk1627 lk1629 lk47 mm_cl12 rfl dX12_encode_710 (pu 3 _ (by omega) (by rw [hF i 3 (by omega) (by omega)]; rfl)) rfl (hM.1 0 _ rfl) (Nat.le_of_ble_eq_true rfl) rfl rfl ?_
    refine ev_aload_n 714 dX12_encode_713 rfl rfl ?_
    refine ev_iload 716 dX12_encode_714 rfl rfl ?_
    refine ev_aload_n 717 dX12_encode_716 rfl rfl ?_
    refine ev_getP 720 mm_cl12 (j := 27) (Nat.le_of_ble_eq_true rfl) dX12_encode_717 lk1312 (fun _ _ _ => rfl) (hM.1 0 _ rfl) (a := (m + 22)) (hM.2.2 21 _ _ _ rfl) rfl ?_
    refine ev_iload 722 dX12_encode_720 rfl rfl ?_
    refine ev_bipushN 724 6 dX12_encode_722 (by decide +kernel) rfl ?_
    refine ev_iaddN 725 dX12_encode_724 rfl ?_
    refine ev_iald 726 _ dX12_encode_725 (hM.1 22 _ rfl) rfl (by have hNN := hM.2.1 22 _ rfl; omega) rfl ?_
    refine ev_eqI (y := (pf i 6)) ((by rw [rwM_o (by omega) (by omega)]; exact hpf i 6 (by omega) (by omega))) ?_
    refine ev_invVv 729 (Mc := mX12_put) ⟨lk1630, lk80, hdX12_put, (Nat.le_of_ble_eq_true rfl), (Nat.le_of_ble_eq_true rfl)⟩ lk1627 lk1629 lk47 mm_cl12 rfl dX12_encode_726 (pu 4 _ (by omega) (by rw [hF i 4 (by omega) (by omega)]; rfl)) rfl (hM.1 0 _ rfl) (Nat.le_of_ble_eq_true rfl) rfl rfl ?_
    refine ev_iincN 732 (lv' := [_, _, _, _, _, _, _, _, _, some (.int _), _, _]) 1 dX12_encode_729 rfl (Nat.le_of_ble_eq_true rfl) rfl rfl ?_
    refine ev_goto 612 dX12_encode_732 (by decide) ?_
    refine ev_le (mle_s (mle_s (mle_s (mle_s (mle_s (mle_s (mle_s (mle_s (mle_s (mle_s (mle_s (mle_n (mle_0))))))))))))) ?_
    exact e
theorem cx_X12_encV {c rt em wt ln R nu rd so td n N lv w1 w2 : Nat} {W H0 V0 X Rr : Nat → Int32} {raw en : Int32} {pr : (Nat → Int32) × Int64} {la vV : (Nat → Int32) × (Nat → Int32) × Int64} (hM : lyM B P m) (hcn : I m 0 = nI n) (hc : c < n) (hn8 : n ≤ 8) (hrt : rt ≤ 1) (r1 : I (m + 5) c = nI rt) (hN : N = 160 * (rt + 1)) (hem : I (m + 6) c = nI em) (hem1 : em ≤ 1) (hw : wt ≤ 640) (hwt : I (m + 11) c = nI wt) (hwN : N ≤ wt) (hln : I (m + 28) c = nI ln) (hl250 : ln < 250) (hr : I (m + 13) c = raw) (hW : ∀ k, k < N → I (m + 12) (640 * c + k) = W k)
    (hR : I m 36 = nI R) (h43 : R < 4300) (hnu : I (m + 10) c = nI nu) (hnu2 : nu < 65536) (hrd : I (m + 9) c = nI rd) (hrd1 : rd ≤ 1) (hso : I (m + 20) c = nI so) (hso2 : so ≤ 2) (htd : td = if rd = 1 ∧ so = 1 then 1 else 0) (hlv : I (m + 8) c = nI lv) (hen : I (m + 14) c = en) (hvoi : ¬ sp_fP em W raw N < nI lv)
    (hw1 : w1 ≤ 1) (hw2 : w2 ≤ 1) (k1 : I (m + 7) (2 * c) = nI w1) (k2 : I (m + 7) (2 * c + 1) = nI w2) (hX : sgp (I (m + 53)) 0 N (sp_fX em W raw) = X) (hpr : sp_pr X N = pr) (hla : sp_la pr.1 X (sg (I (m + 19)) (8 * c) 8, sg (I (m + 26)) (320 * c) 320, 0) N = la) (hRr : ∀ k, k < N → la.2.1 k = Rr k)
    (hH : sg (I (m + 15)) (320 * c) 160 = H0) (hHr : ∀ k, k < 160 → r16 (H0 k)) (hVv : sg (I (m + 16)) (16 * c) 8 = V0) (hvV : sp_vV pr.1 Rr (40 * (rt + 1)) w1 w2 H0 (V0, I (m + 54), 0) 4 = vV) :
    ∃ (I1 I2 I3 I' : mm_TI) (J' : mm_TJ), Ct g mX12_encode [.ref m, .int (nI c)] B I J P (some (.int (nI nu)), B, I', J', P) ∧
      VMe m c (40 * (rt + 1)) w1 w2 1 pr la vV Rr H0 I1 (sp_up J m 2 (sp_fT em W raw N)) I2 J' ∧ I3 = va_up I2 (m + 20) (va_up (I (m + 20)) c (nI 1)) ∧
      MEt m c R (34 + 2 * td + 1) ln nu 15 (sp_ful (sp_row 1 (nI rt) (nI nu) 28 (2 * td) (sp_fP em W raw N) pr.1 (fun i k => I2 (m + 22) (28 * c + 7 * i + k)) (I (m + 22) (28 * c + 21) - nI 20) (I (m + 22) (28 * c + 22))) (34 + 2 * td)) en I3 I' ∧
      I1 (m + 53) = X ∧ I1 (m + 12) = sgp (I (m + 12)) (640 * c) (wt - N) (fun k => I (m + 12) (640 * c + N + k)) ∧ I1 (m + 13) = va_up (I (m + 13)) c (W (N - 1)) ∧ I1 (m + 11) = va_up (I (m + 11)) c (nI (wt - N)) ∧ I1 (m + 2) = va_up (I (m + 2)) 0 (nI 1) ∧
      I1 m = va_up (va_up (I m) 5 (nI 1)) 36 (nI (R + 1)) ∧ I1 (m + 31) = va_up (I (m + 31)) R (nI 0) ∧ I1 (m + 32) = va_up (I (m + 32)) R (nI 0) ∧
      (∀ q, q ≠ m + 53 → q ≠ m + 12 → q ≠ m + 13 → q ≠ m + 11 → q ≠ m + 2 → q ≠ m → q ≠ m + 31 → q ≠ m + 32 → I1 q = I q) := by
  have hc8 : c < 8 := by omega
  have htd1 : td ≤ 1 := by rw [htd]; split <;> omega
  obtain ⟨I1, f1, f2, f3, f4, f5, f6, f7, f8, f9, K⟩ := lx_X12_en0 (g := g) (B := B) (I := I) (J := J) (P := P) (m := m) hM hcn hc hn8 hrt r1 hN hem hem1 hw hwt hwN hln hl250 hr hW hR h43 hnu hrd hrd1 hso hso2 htd
  rw [hX] at f1
  have F9 : ∀ k, k = 5 ∨ k = 7 ∨ k = 8 ∨ (14 ≤ k ∧ k ≤ 30) ∨ k = 54 → I1 (m + k) = I (m + k) := fun k hk => f9 _ (by omega) (by omega) (by omega) (by omega) (by omega) (by omega) (by omega) (by omega)
  generalize hpk : sp_fP em W raw N = pk at *
  generalize hJ1 : sp_up J m 2 (sp_fT em W raw N) = J1 at *
  obtain ⟨I2, J2, cv, hE⟩ := cx_X12_voice (g := g) (B := B) (I := I1) (J := J1) (P := P) (m := m) (c := c) (N := N) (sb := 40 * (rt + 1)) (w1 := w1) (w2 := w2) (t := 1) (R := Rr) (H0 := H0) (V0 := V0) (X := X) (pr := pr) (la := la) (vV := vV) hM hc8 (by omega) (by omega) hw1 hw2 (by rw [F9 7 (by omega)]; exact k1) (by rw [F9 7 (by omega)]; exact k2) f1 hpr (by rw [F9 19 (by omega), F9 26 (by omega)]; exact hla) (fun k hk => hRr k (by omega)) (by rw [F9 15 (by omega)]; exact hH) hHr (by rw [F9 16 (by omega)]; exact hVv) (by rw [F9 54 (by omega)]; exact hvV) (by omega) (by rw [f6, va_up_n _ _ (by omega), va_up_s])
  have hE' := hE
  obtain ⟨_, _, _, ⟨_, _, _, _⟩, _, v5, v6, v7, _, _, _, _, _, _, v8, _⟩ := hE'
  have z : ∀ k, k = 5 ∨ k = 8 ∨ k = 14 ∨ k = 20 ∨ (28 ≤ k ∧ k ≤ 30) → I2 (m + k) = I (m + k) := fun k hk => by
    rw [v8 _ (by unfold VMf; omega) (by omega) (by omega) (by omega) (by omega) (by omega) (by omega), F9 k (by omega)]
  have z31 : I2 (m + 31) R = nI 0 := by rw [v8 _ (by unfold VMf; omega) (by omega) (by omega) (by omega) (by omega) (by omega) (by omega), f7, va_up_s]
  generalize hpf : (fun i k => I2 (m + 22) (28 * c + 7 * i + k)) = pf
  have hpf' : ∀ i k, I2 (m + 22) (28 * c + 7 * i + k) = pf i k := fun i k => by rw [← hpf]
  generalize hrow : sp_row 1 (nI rt) (nI nu) 28 (2 * td) pk pr.1 pf (I (m + 22) (28 * c + 21) - nI 20) (I (m + 22) (28 * c + 22)) = row
  have hF : ∀ k, k < 34 + 2 * td → sp_ful row (34 + 2 * td) k = row k := fun k hk => by unfold sp_ful; rw [if_pos hk]
  generalize hI3 : va_up I2 (m + 20) (va_up (I (m + 20)) c (nI 1)) = I3
  have a3 : ∀ q, q ≠ m + 20 → I3 q = I2 q := fun q h => by rw [← hI3, va_up_n _ _ h]
  obtain ⟨I', hI', E⟩ := lx_X12_en9 (g := g) (B := B) (I := I3) (J := J2) (P := P) (m := m) (c := c) (N := N) (sb := 40 * (rt + 1)) (R := R) (L0 := 34) (bd := 28) (spr := 2 * td) (td := td) (ln := ln) (nu := nu) (t := 15) (pk := pk) (lg := I (m + 22) (28 * c + 21)) (sh := I (m + 22) (28 * c + 22)) (en := en) (row := row) hM hc8 h43 rfl (by omega) htd1 rfl (by rw [a3 _ (by omega)]; exact v5) (by omega)
    (by rw [a3 _ (by omega), z 28 (by omega)]; exact hln) hl250 hnu2 (by rw [a3 _ (by omega), z 14 (by omega)]; exact hen)
    (fun h => by rw [← hrow, sp_row_6 (by omega)]; simp) (fun h => by rw [← hrow, sp_row_6 (by omega)]; simp)
  refine ⟨I1, I2, I3, I', J2, K _ ?_, hE, hI3.symm, (by rw [hpf, hrow]; exact hI'), f1, f2, f3, f4, f5, f6, f7, f8, f9⟩
  have e5 : ∀ L, rwM I2 m R L (sp_ful row (34 + 2 * td)) (m + 5) c = nI rt := fun L => by rw [rwM_o (by omega) (by omega), z 5 (by omega)]; exact r1
  have put := fun (L : Nat) (b : Int32) (hL : L < 34) (hb : b8 b = row L) => ct_X12_put (g := g) (B := B) (I := I2) (J := J2) (P := P) (m := m) (row := R) (L := L) (F := sp_ful row (34 + 2 * td)) (b := b) hM h43 (by omega) (by rw [hb, hF L (by omega)])
  have k735 : Ev g mX12_encode 735 [some (.ref m), some (.int (nI c)), some (.int (nI N)), some (.int (nI (40 * (rt + 1)))), some (.int pk), some (.int (nI nu)), some (.int (nI td)), some (.int (I (m + 22) (28 * c + 21))), some (.int (I (m + 22) (28 * c + 22))), some (.int (nI R)), none, none] [] B (rwM I2 m R 34 (sp_ful row (34 + 2 * td))) J2 P (some (.int (nI nu)), B, I', J2, P) := by
    refine ev_aload_n 736 dX12_encode_735 rfl rfl ?_
    refine ev_getP 739 mm_cl12 (j := 25) (Nat.le_of_ble_eq_true rfl) dX12_encode_736 lk1310 (fun _ _ _ => rfl) (hM.1 0 _ rfl) (a := (m + 20)) (hM.2.2 19 _ _ _ rfl) rfl ?_
    refine ev_iload_n 740 dX12_encode_739 rfl rfl ?_
    refine ev_iconstN 741 1 dX12_encode_740 rfl ?_
    refine ev_iast 742 _ dX12_encode_741 (hM.1 20 _ rfl) rfl (by have hNN := hM.2.1 20 _ rfl; omega) rfl ?_
    rw [rwM_o (by omega) (by omega), rwM_up (by omega) (by omega), z 20 (by omega), hI3]
    exact E
  have k612 := lp_X12_ev2 (g := g) (B := B) (I := I2) (J := J2) (P := P) (m := m) (c := c) (N := N) (sb := 40 * (rt + 1)) (R := R) (nu := nu) (td := td) (pk := pk) (lg := I (m + 22) (28 * c + 21)) (sh := I (m + 22) (28 * c + 22)) (F := sp_ful row (34 + 2 * td)) (pf := pf) hM hc8 h43 (fun i k _ _ => hpf' i k) (fun i k hi hk => by
    rw [hF _ (by omega), ← hrow, sp_row_6 (by omega), if_pos rfl, if_neg (by omega), if_pos (by omega), show (14 + 5 * i + k - 14) / 5 = i by omega, show (14 + 5 * i + k - 14) % 5 = k by omega]) k735 4 0 (by omega)
  have k575 := lp_X12_ev1 (g := g) (B := B) (I := I2) (J := J2) (P := P) (m := m) (c := c) (N := N) (sb := 40 * (rt + 1)) (R := R) (nu := nu) (td := td) (pk := pk) (lg := I (m + 22) (28 * c + 21)) (sh := I (m + 22) (28 * c + 22)) (ix := pr.1) (F := sp_ful row (34 + 2 * td)) (Z := (some (.int (nI nu)), B, I', J2, P)) hM hc8 h43 (fun k hk => by rw [v7, sgp_in hk]) (fun k hk => by
    rw [hF _ (by omega), ← hrow, sp_row_6 (by omega), if_pos rfl, if_pos (by omega), show 6 + k - 6 = k by omega]) (by
      refine ev_iconstN 610 0 dX12_encode_609 rfl ?_
      refine ev_istore 612 (lv' := [_, _, _, _, _, _, _, _, _, some (.int _), _, _]) dX12_encode_610 (Nat.le_of_ble_eq_true rfl) rfl rfl ?_
      exact k612) 8 0 (by omega)
  have spb : Ev g mX12_encode 572 [some (.ref m), some (.int (nI c)), some (.int (nI N)), some (.int (nI (40 * (rt + 1)))), some (.int pk), some (.int (nI nu)), some (.int (nI td)), some (.int (I (m + 22) (28 * c + 21))), some (.int (I (m + 22) (28 * c + 22))), some (.int (nI R)), none, none] [] B (rwM I2 m R 6 (sp_ful row (34 + 2 * td))) J2 P (some (.int (nI nu)), B, I', J2, P) := by
    refine ev_iconstN 573 0 dX12_encode_572 rfl ?_
    refine ev_istore 575 (lv' := [_, _, _, _, _, _, _, _, _, some (.int _), _, _]) dX12_encode_573 (Nat.le_of_ble_eq_true rfl) rfl rfl ?_
    exact k575
  refine ev_iload 381 dX12_encode_379 rfl rfl ?_
  refine ev_aload_n 382 dX12_encode_381 rfl rfl ?_
  refine ev_getP 385 mm_cl12 (j := 13) (Nat.le_of_ble_eq_true rfl) dX12_encode_382 lk1298 (fun _ _ _ => rfl) (hM.1 0 _ rfl) (a := (m + 8)) (hM.2.2 7 _ _ _ rfl) rfl ?_
  refine ev_iload_n 386 dX12_encode_385 rfl rfl ?_
  refine ev_iald 387 _ dX12_encode_386 (hM.1 8 _ rfl) rfl (by have hNN := hM.2.1 8 _ rfl; omega) rfl ?_
  refine ev_eqI (y := nI (lv)) ((by rw [F9 8 (by omega)]; exact hlv)) ?_
  refine ev_icmp_ge 390 503 dX12_encode_387 (by decide) rfl (fun hbr => ?_) (fun hx => absurd ((by exact Int32.not_lt.mp hvoi)) hx)
  refine ev_aload_n 504 dX12_encode_503 rfl rfl ?_
  refine ev_iload_n 505 dX12_encode_504 rfl rfl ?_
  refine ev_iload_n 506 dX12_encode_505 rfl rfl ?_
  refine ev_iload_n 507 dX12_encode_506 rfl rfl ?_
  refine ev_invVv 510 (Mc := mX12_voice) ⟨lk1634, lk80, hdX12_voice, (Nat.le_of_ble_eq_true rfl), (Nat.le_of_ble_eq_true rfl)⟩ lk1631 lk1633 lk48 mm_cl12 rfl dX12_encode_507 (cv) rfl (hM.1 0 _ rfl) (Nat.le_of_ble_eq_true rfl) rfl rfl ?_
  rw [← rwM_0 (F := sp_ful row (34 + 2 * td)) z31]
  refine ev_aload_n 511 dX12_encode_510 rfl rfl ?_
  refine ev_iload 513 dX12_encode_511 rfl rfl ?_
  refine ev_iconstN 514 1 dX12_encode_513 rfl ?_
  refine ev_invVv 517 (Mc := mX12_put) ⟨lk1630, lk80, hdX12_put, (Nat.le_of_ble_eq_true rfl), (Nat.le_of_ble_eq_true rfl)⟩ lk1627 lk1629 lk47 mm_cl12 rfl dX12_encode_514 (put 0 _ (by omega) (by rw [← hrow]; unfold sp_row; simp)) rfl (hM.1 0 _ rfl) (Nat.le_of_ble_eq_true rfl) rfl rfl ?_
  refine ev_aload_n 518 dX12_encode_517 rfl rfl ?_
  refine ev_iload 520 dX12_encode_518 rfl rfl ?_
  refine ev_aload_n 521 dX12_encode_520 rfl rfl ?_
  refine ev_getP 524 mm_cl12 (j := 10) (Nat.le_of_ble_eq_true rfl) dX12_encode_521 lk1295 (fun _ _ _ => rfl) (hM.1 0 _ rfl) (a := (m + 5)) (hM.2.2 4 _ _ _ rfl) rfl ?_
  refine ev_iload_n 525 dX12_encode_524 rfl rfl ?_
  refine ev_iald 526 _ dX12_encode_525 (hM.1 5 _ rfl) rfl (by have hNN := hM.2.1 5 _ rfl; omega) rfl ?_
  refine ev_eqI (y := nI (rt)) ((e5 _)) ?_
  refine ev_invVv 529 (Mc := mX12_put) ⟨lk1630, lk80, hdX12_put, (Nat.le_of_ble_eq_true rfl), (Nat.le_of_ble_eq_true rfl)⟩ lk1627 lk1629 lk47 mm_cl12 rfl dX12_encode_526 (put 1 _ (by omega) (by rw [← hrow]; unfold sp_row; simp)) rfl (hM.1 0 _ rfl) (Nat.le_of_ble_eq_true rfl) rfl rfl ?_
  refine ev_aload_n 530 dX12_encode_529 rfl rfl ?_
  refine ev_iload 532 dX12_encode_530 rfl rfl ?_
  refine ev_bipushN 534 28 dX12_encode_532 (by decide +kernel) rfl ?_
  refine ev_invVv 537 (Mc := mX12_put) ⟨lk1630, lk80, hdX12_put, (Nat.le_of_ble_eq_true rfl), (Nat.le_of_ble_eq_true rfl)⟩ lk1627 lk1629 lk47 mm_cl12 rfl dX12_encode_534 (put 2 _ (by omega) (by rw [← hrow]; unfold sp_row; simp)) rfl (hM.1 0 _ rfl) (Nat.le_of_ble_eq_true rfl) rfl rfl ?_
  refine ev_aload_n 538 dX12_encode_537 rfl rfl ?_
  refine ev_iload 540 dX12_encode_538 rfl rfl ?_
  refine ev_iload 542 dX12_encode_540 rfl rfl ?_
  refine ev_bipushN 544 8 dX12_encode_542 (by decide +kernel) rfl ?_
  refine ev_ishr 545 dX12_encode_544 rfl ?_
  refine ev_invVv 548 (Mc := mX12_put) ⟨lk1630, lk80, hdX12_put, (Nat.le_of_ble_eq_true rfl), (Nat.le_of_ble_eq_true rfl)⟩ lk1627 lk1629 lk47 mm_cl12 rfl dX12_encode_545 (put 3 _ (by omega) (by rw [← hrow]; unfold sp_row; simp)) rfl (hM.1 0 _ rfl) (Nat.le_of_ble_eq_true rfl) rfl rfl ?_
  refine ev_aload_n 549 dX12_encode_548 rfl rfl ?_
  refine ev_iload 551 dX12_encode_549 rfl rfl ?_
  refine ev_iload 553 dX12_encode_551 rfl rfl ?_
  refine ev_invVv 556 (Mc := mX12_put) ⟨lk1630, lk80, hdX12_put, (Nat.le_of_ble_eq_true rfl), (Nat.le_of_ble_eq_true rfl)⟩ lk1627 lk1629 lk47 mm_cl12 rfl dX12_encode_553 (put 4 _ (by omega) (by rw [← hrow]; unfold sp_row; simp)) rfl (hM.1 0 _ rfl) (Nat.le_of_ble_eq_true rfl) rfl rfl ?_
  refine ev_aload_n 557 dX12_encode_556 rfl rfl ?_
  refine ev_iload 559 dX12_encode_557 rfl rfl ?_
  refine ev_iload 561 dX12_encode_559 rfl rfl ?_
  by_cases cz : td = 0
  · refine ev_if_eqN 564 568 dX12_encode_561 (by decide) (by omega) rfl (fun hbr => ?_) (fun hx => absurd ((by omega)) hx)
    refine ev_iconstN 569 0 dX12_encode_568 rfl ?_
    refine ev_invVv 572 (Mc := mX12_put) ⟨lk1630, lk80, hdX12_put, (Nat.le_of_ble_eq_true rfl), (Nat.le_of_ble_eq_true rfl)⟩ lk1627 lk1629 lk47 mm_cl12 rfl dX12_encode_569 (put 5 _ (by omega) (by rw [← hrow, cz]; unfold sp_row; simp)) rfl (hM.1 0 _ rfl) (Nat.le_of_ble_eq_true rfl) rfl rfl ?_
    exact spb
  · refine ev_if_eqN 564 568 dX12_encode_561 (by decide) (by omega) rfl (fun hx => absurd hx ((by omega))) (fun hbr => ?_)
    refine ev_iconstN 565 2 dX12_encode_564 rfl ?_
    refine ev_goto 569 dX12_encode_565 (by decide) ?_
    refine ev_invVv 572 (Mc := mX12_put) ⟨lk1630, lk80, hdX12_put, (Nat.le_of_ble_eq_true rfl), (Nat.le_of_ble_eq_true rfl)⟩ lk1627 lk1629 lk47 mm_cl12 rfl dX12_encode_569 (put 5 _ (by omega) (by rw [← hrow, show td = 1 by omega]; unfold sp_row; simp)) rfl (hM.1 0 _ rfl) (Nat.le_of_ble_eq_true rfl) rfl rfl ?_
    exact spb
end MEV
