def sp_pe (sb q sg r ot : Nat) : Int := (sp_en sb q : Int) + (sp_en sb r : Int) + 2 * sp_tn (if sg = ot then 0 else 1) (sp_ov sb (min q r) (max q r) : Nat)
def sp_pd (hz : Nat → Int) (q sg r ot : Nat) : Int := sp_tn sg (hz q) + sp_tn ot (hz r)
theorem sp_en_b {sb q : Nat} : 1024 ≤ sp_en sb q ∧ sp_en sb q ≤ 1344 ∧ (q + 1 < sb → 1280 ≤ sp_en sb q) ∧ (q + 2 < sb → 1344 ≤ sp_en sb q) := by
  unfold sp_en
  split
  · omega
  · split
    · omega
    · omega
theorem sp_ov_b {sb lo hi : Nat} : sp_ov sb lo hi ≤ 512 ∧ (hi + 1 < sb → sp_ov sb lo hi ≤ 384) := by
  unfold sp_ov
  split
  · split
    · omega
    · omega
  · omega
theorem sp_pe_b {sb q sg r ot : Nat} (hq : q < sb) (hr : r < sb) (h1 : q ≠ r) : 0 < sp_pe sb q sg r ot ∧ sp_pe sb q sg r ot ≤ 4096 := by
  have a := sp_en_b (sb := sb) (q := q)
  have b := sp_en_b (sb := sb) (q := r)
  have c := sp_ov_b (sb := sb) (lo := min q r) (hi := max q r)
  unfold sp_pe sp_tn
  split
  · omega
  · omega
theorem sp_pd_b {hz : Nat → Int} {q sg r ot : Nat} (hq : -4194304 ≤ hz q ∧ hz q ≤ 4194304) (hr : -4194304 ≤ hz r ∧ hz r ≤ 4194304) : -8388608 ≤ sp_pd hz q sg r ot ∧ sp_pd hz q sg r ot ≤ 8388608 := by
  unfold sp_pd sp_tn
  split
  · split
    · omega
    · omega
  · split
    · omega
    · omega
section MOC
variable {g : mm_G} {B : mm_B} {I : mm_TI} {J : mm_TJ} {P : mm_TP} {m : Nat}
theorem ct_X12_tryPair {sb q sg r ot : Nat} {hz : Nat → Int} {s : Option (Int × Nat)} {F : Nat → Int32} {Q : Nat → Int64} (hM : lyM B P m) (hb : sb ≤ 80) (hq : q < sb) (hr : r < sb) (h1 : q ≠ r) (h2 : q ≠ r + 2) (h3 : r ≠ q + 2) (hsg : sg ≤ 1) (hot : ot ≤ 1)
    (hE : ∀ n, n < sb → J (m + 59) n = Int64.ofInt (sp_en sb n : Nat)) (hH : ∀ n, n < sb → J (m + 60) n = Int64.ofInt (hz n)) (hzb : ∀ n, -4194304 ≤ hz n ∧ hz n ≤ 4194304) (hs : sp_ok s) :
    Ct g mX12_tryPair [.ref m, .int (nI q), .int (nI sg), .int (nI r), .int (nI ot), .int (nI sb)] B (va_up I m (mF F s)) (va_up J m (va_up Q 70 (Int64.ofInt (mZ s)))) P
      (some (.int (nI (sp_im s (sp_bs (sp_pe sb q sg r ot) (sp_pd hz q sg r ot) s 52)))), B, va_up I m (mF F (sp_bs (sp_pe sb q sg r ot) (sp_pd hz q sg r ot) s 52)), va_up J m (va_up Q 70 (Int64.ofInt (mZ (sp_bs (sp_pe sb q sg r ot) (sp_pd hz q sg r ot) s 52)))), P) := by
  have be := sp_pe_b (sg := sg) (ot := ot) hq hr h1
  have bd := sp_pd_b (sg := sg) (ot := ot) (hzb q) (hzb r)
  have ct := ct_X12_tryGains (g := g) (I := I) (J := J) (P := P) (F := F) (Q := Q) hM be.1 be.2 bd.1 bd.2 hs
  have hzz := sp_im_n (a := s) (b := sp_bs (sp_pe sb q sg r ot) (sp_pd hz q sg r ot) s 52)
  generalize sp_bs (sp_pe sb q sg r ot) (sp_pd hz q sg r ot) s 52 = s' at ct hzz ⊢
  have n59 : ∀ f n, n < sb → va_up J m f (m + 59) n = Int64.ofInt (sp_en sb n : Nat) := fun f n hn => by rw [va_up_n _ _ (by omega)]; exact hE n hn
  have n60 : ∀ f n, n < sb → va_up J m f (m + 60) n = Int64.ofInt (hz n) := fun f n hn => by rw [va_up_n _ _ (by omega)]; exact hH n hn
  -- behind the two products
  have key3 : Ev g mX12_tryPair 89 [some (.ref m), some (.int (nI q)), some (.int (nI sg)), some (.int (nI r)), some (.int (nI ot)), some (.int (nI sb)), none, none, some (.long (Int64.ofInt (sp_pe sb q sg r ot))), none, some (.long (Int64.ofInt (sp_pd hz q sg r ot))), none] [] B (va_up I m (mF F s)) (va_up J m (va_up Q 70 (Int64.ofInt (mZ s)))) P
      (some (.int (nI (sp_im s s'))), B, va_up I m (mF F s'), va_up J m (va_up Q 70 (Int64.ofInt (mZ s'))), P) := by
    refine ev_aload_n 90 dX12_tryPair_89 rfl rfl ?_
    refine ev_lload 92 dX12_tryPair_90 rfl rfl ?_
    refine ev_lload 94 dX12_tryPair_92 rfl rfl ?_
    refine ev_invV 97 (Mc := mX12_tryGains) ⟨lk1682, lk80, hdX12_tryGains, (Nat.le_of_ble_eq_true rfl), (Nat.le_of_ble_eq_true rfl)⟩ lk1679 lk1681 lk56 mm_cl12 rfl dX12_tryPair_94 (ct) rfl (hM.1 0 _ rfl) (Nat.le_of_ble_eq_true rfl) rfl rfl ?_
    exact ev_zret dX12_tryPair_97 rfl (by first | rfl | assumption) (rfl)
  have key2 : Ev g mX12_tryPair 45 [some (.ref m), some (.int (nI q)), some (.int (nI sg)), some (.int (nI r)), some (.int (nI ot)), some (.int (nI sb)), none, none, some (.long (Int64.ofInt (sp_pe sb q sg r ot))), none, none, none] [] B (va_up I m (mF F s)) (va_up J m (va_up Q 70 (Int64.ofInt (mZ s)))) P
      (some (.int (nI (sp_im s s'))), B, va_up I m (mF F s'), va_up J m (va_up Q 70 (Int64.ofInt (mZ s'))), P) := by
    unfold sp_pd sp_tn at key3
    refine ev_iload_n 46 dX12_tryPair_45 rfl rfl ?_
    refine ev_if_neN 49 58 dX12_tryPair_46 (by decide) (by omega) rfl (fun a1 => ?_) (fun a1 => ?_)
    · rw [if_neg a1, Int64.ofInt_add, Int64.ofInt_neg] at key3
      refine ev_aload_n 59 dX12_tryPair_58 rfl rfl ?_
      refine ev_getP 62 mm_cl12 (j := 66) (Nat.le_of_ble_eq_true rfl) dX12_tryPair_59 lk1351 (fun _ _ _ => rfl) (hM.1 0 _ rfl) (a := (m + 60)) (hM.2.2 59 _ _ _ rfl) rfl ?_
      refine ev_iload_n 63 dX12_tryPair_62 rfl rfl ?_
      refine ev_lald 64 _ dX12_tryPair_63 (hM.1 60 _ rfl) rfl (by have hNN := hM.2.1 60 _ rfl; omega) rfl ?_
      refine ev_eqJ (y := (Int64.ofInt (hz q))) ((n60 _ q hq)) ?_
      refine ev_lneg 65 dX12_tryPair_64 rfl ?_
      refine ev_iload 67 dX12_tryPair_65 rfl rfl ?_
      refine ev_if_neN 70 79 dX12_tryPair_67 (by decide) (by omega) rfl (fun a2 => ?_) (fun a2 => ?_)
      · rw [if_neg a2, Int64.ofInt_neg] at key3
        refine ev_aload_n 80 dX12_tryPair_79 rfl rfl ?_
        refine ev_getP 83 mm_cl12 (j := 66) (Nat.le_of_ble_eq_true rfl) dX12_tryPair_80 lk1351 (fun _ _ _ => rfl) (hM.1 0 _ rfl) (a := (m + 60)) (hM.2.2 59 _ _ _ rfl) rfl ?_
        refine ev_iload_n 84 dX12_tryPair_83 rfl rfl ?_
        refine ev_lald 85 _ dX12_tryPair_84 (hM.1 60 _ rfl) rfl (by have hNN := hM.2.1 60 _ rfl; omega) rfl ?_
        refine ev_eqJ (y := (Int64.ofInt (hz r))) ((n60 _ r hr)) ?_
        refine ev_lneg 86 dX12_tryPair_85 rfl ?_
        refine ev_ladd 87 dX12_tryPair_86 rfl ?_
        refine ev_lstore 89 (lv' := [_, _, _, _, _, _, _, _, _, none, _, _]) dX12_tryPair_87 (Nat.le_of_ble_eq_true rfl) rfl rfl ?_
        exact key3
      · rw [if_pos a2] at key3
        refine ev_aload_n 71 dX12_tryPair_70 rfl rfl ?_
        refine ev_getP 74 mm_cl12 (j := 66) (Nat.le_of_ble_eq_true rfl) dX12_tryPair_71 lk1351 (fun _ _ _ => rfl) (hM.1 0 _ rfl) (a := (m + 60)) (hM.2.2 59 _ _ _ rfl) rfl ?_
        refine ev_iload_n 75 dX12_tryPair_74 rfl rfl ?_
        refine ev_lald 76 _ dX12_tryPair_75 (hM.1 60 _ rfl) rfl (by have hNN := hM.2.1 60 _ rfl; omega) rfl ?_
        refine ev_eqJ (y := (Int64.ofInt (hz r))) ((n60 _ r hr)) ?_
        refine ev_goto 86 dX12_tryPair_76 (by decide) ?_
        refine ev_ladd 87 dX12_tryPair_86 rfl ?_
        refine ev_lstore 89 (lv' := [_, _, _, _, _, _, _, _, _, none, _, _]) dX12_tryPair_87 (Nat.le_of_ble_eq_true rfl) rfl rfl ?_
        exact key3
    · rw [if_pos a1, Int64.ofInt_add] at key3
      refine ev_aload_n 50 dX12_tryPair_49 rfl rfl ?_
      refine ev_getP 53 mm_cl12 (j := 66) (Nat.le_of_ble_eq_true rfl) dX12_tryPair_50 lk1351 (fun _ _ _ => rfl) (hM.1 0 _ rfl) (a := (m + 60)) (hM.2.2 59 _ _ _ rfl) rfl ?_
      refine ev_iload_n 54 dX12_tryPair_53 rfl rfl ?_
      refine ev_lald 55 _ dX12_tryPair_54 (hM.1 60 _ rfl) rfl (by have hNN := hM.2.1 60 _ rfl; omega) rfl ?_
      refine ev_eqJ (y := (Int64.ofInt (hz q))) ((n60 _ q hq)) ?_
      refine ev_goto 65 dX12_tryPair_55 (by decide) ?_
      refine ev_iload 67 dX12_tryPair_65 rfl rfl ?_
      refine ev_if_neN 70 79 dX12_tryPair_67 (by decide) (by omega) rfl (fun a2 => ?_) (fun a2 => ?_)
      · rw [if_neg a2, Int64.ofInt_neg] at key3
        refine ev_aload_n 80 dX12_tryPair_79 rfl rfl ?_
        refine ev_getP 83 mm_cl12 (j := 66) (Nat.le_of_ble_eq_true rfl) dX12_tryPair_80 lk1351 (fun _ _ _ => rfl) (hM.1 0 _ rfl) (a := (m + 60)) (hM.2.2 59 _ _ _ rfl) rfl ?_
        refine ev_iload_n 84 dX12_tryPair_83 rfl rfl ?_
        refine ev_lald 85 _ dX12_tryPair_84 (hM.1 60 _ rfl) rfl (by have hNN := hM.2.1 60 _ rfl; omega) rfl ?_
        refine ev_eqJ (y := (Int64.ofInt (hz r))) ((n60 _ r hr)) ?_
        refine ev_lneg 86 dX12_tryPair_85 rfl ?_
        refine ev_ladd 87 dX12_tryPair_86 rfl ?_
        refine ev_lstore 89 (lv' := [_, _, _, _, _, _, _, _, _, none, _, _]) dX12_tryPair_87 (Nat.le_of_ble_eq_true rfl) rfl rfl ?_
        exact key3
      · rw [if_pos a2] at key3
        refine ev_aload_n 71 dX12_tryPair_70 rfl rfl ?_
        refine ev_getP 74 mm_cl12 (j := 66) (Nat.le_of_ble_eq_true rfl) dX12_tryPair_71 lk1351 (fun _ _ _ => rfl) (hM.1 0 _ rfl) (a := (m + 60)) (hM.2.2 59 _ _ _ rfl) rfl ?_
        refine ev_iload_n 75 dX12_tryPair_74 rfl rfl ?_
        refine ev_lald 76 _ dX12_tryPair_75 (hM.1 60 _ rfl) rfl (by have hNN := hM.2.1 60 _ rfl; omega) rfl ?_
        refine ev_eqJ (y := (Int64.ofInt (hz r))) ((n60 _ r hr)) ?_
        refine ev_goto 86 dX12_tryPair_76 (by decide) ?_
        refine ev_ladd 87 dX12_tryPair_86 rfl ?_
        refine ev_lstore 89 (lv' := [_, _, _, _, _, _, _, _, _, none, _, _]) dX12_tryPair_87 (Nat.le_of_ble_eq_true rfl) rfl rfl ?_
        exact key3
  unfold sp_pe sp_tn at key2
  refine ct_of (lv := [some (.ref m), some (.int (nI q)), some (.int (nI sg)), some (.int (nI r)), some (.int (nI ot)), some (.int (nI sb)), none, none, none, none, none, none]) (by decide +kernel) (Nat.le_of_ble_eq_true rfl) rfl ?_
  refine ev_iload_n 1 dX12_tryPair_0 rfl rfl ?_
  refine ev_iload 3 dX12_tryPair_1 rfl rfl ?_
  refine ev_icmp_neN 6 10 dX12_tryPair_3 (by decide) (by omega) (by omega) rfl (fun a1 => ?_) (fun a1 => ?_)
  · rw [if_neg a1, if_neg (by omega), Int64.ofInt_add, Int64.ofInt_add, Int64.ofInt_mul, Int64.ofInt_neg] at key2
    refine ev_ldc2 13 dX12_tryPair_10 lk1674 rfl ?_
    refine ev_lstore 15 (lv' := [_, _, _, _, _, some (.int _), _, _, _, _, _, _]) dX12_tryPair_13 (Nat.le_of_ble_eq_true rfl) rfl rfl ?_
    refine ev_aload_n 16 dX12_tryPair_15 rfl rfl ?_
    refine ev_getP 19 mm_cl12 (j := 65) (Nat.le_of_ble_eq_true rfl) dX12_tryPair_16 lk1350 (fun _ _ _ => rfl) (hM.1 0 _ rfl) (a := (m + 59)) (hM.2.2 58 _ _ _ rfl) rfl ?_
    refine ev_iload_n 20 dX12_tryPair_19 rfl rfl ?_
    refine ev_lald 21 _ dX12_tryPair_20 (hM.1 59 _ rfl) rfl (by have hNN := hM.2.1 59 _ rfl; omega) rfl ?_
    refine ev_eqJ (y := (Int64.ofInt (sp_en sb q : Nat))) ((n59 _ q hq)) ?_
    refine ev_aload_n 22 dX12_tryPair_21 rfl rfl ?_
    refine ev_getP 25 mm_cl12 (j := 65) (Nat.le_of_ble_eq_true rfl) dX12_tryPair_22 lk1350 (fun _ _ _ => rfl) (hM.1 0 _ rfl) (a := (m + 59)) (hM.2.2 58 _ _ _ rfl) rfl ?_
    refine ev_iload_n 26 dX12_tryPair_25 rfl rfl ?_
    refine ev_lald 27 _ dX12_tryPair_26 (hM.1 59 _ rfl) rfl (by have hNN := hM.2.1 59 _ rfl; omega) rfl ?_
    refine ev_eqJ (y := (Int64.ofInt (sp_en sb r : Nat))) ((n59 _ r hr)) ?_
    refine ev_ladd 28 dX12_tryPair_27 rfl ?_
    refine ev_ldc2 31 dX12_tryPair_28 lk1675 rfl ?_
    refine ev_lload 33 dX12_tryPair_31 rfl rfl ?_
    refine ev_lmul 34 dX12_tryPair_33 rfl ?_
    refine ev_iload_n 35 dX12_tryPair_34 rfl rfl ?_
    refine ev_iload_n 36 dX12_tryPair_35 rfl rfl ?_
    refine ev_iload 38 dX12_tryPair_36 rfl rfl ?_
    refine ev_invS 41 (Mc := mX12_shared) ⟨lk1678, lk80, hdX12_shared, (Nat.le_of_ble_eq_true rfl), (Nat.le_of_ble_eq_true rfl)⟩ lk1676 lk1677 dX12_tryPair_38 (ct_X12_shared hb hq hr h1 h2 h3) rfl (Nat.le_of_ble_eq_true rfl) rfl rfl ?_
    refine ev_lmul 42 dX12_tryPair_41 rfl ?_
    refine ev_ladd 43 dX12_tryPair_42 rfl ?_
    refine ev_lstore 45 (lv' := [_, _, _, _, _, _, _, none, _, _, _, _]) dX12_tryPair_43 (Nat.le_of_ble_eq_true rfl) rfl rfl ?_
    refine ev_le (mle_s (mle_s (mle_s (mle_s (mle_s (mle_s (mle_n (mle_n (mle_s (mle_n (mle_n (mle_n (mle_0))))))))))))) ?_
    rw [show (2 : Int64) * -1 * Int64.ofInt (sp_ov sb (min q r) (max q r) : Nat) = Int64.ofInt 2 * - Int64.ofInt (sp_ov sb (min q r) (max q r) : Nat) by rw [show (2 : Int64) * -1 = -2 by decide +kernel, show Int64.ofInt 2 = 2 from rfl, Int64.mul_neg, Int64.neg_mul]]
    exact key2
  · rw [if_pos a1, if_pos rfl, Int64.ofInt_add, Int64.ofInt_add, Int64.ofInt_mul] at key2
    refine ev_lconst 7 (v := 1) dX12_tryPair_6 (by decide +kernel) rfl ?_
    refine ev_goto 13 dX12_tryPair_7 (by decide) ?_
    refine ev_lstore 15 (lv' := [_, _, _, _, _, some (.int _), _, _, _, _, _, _]) dX12_tryPair_13 (Nat.le_of_ble_eq_true rfl) rfl rfl ?_
    refine ev_aload_n 16 dX12_tryPair_15 rfl rfl ?_
    refine ev_getP 19 mm_cl12 (j := 65) (Nat.le_of_ble_eq_true rfl) dX12_tryPair_16 lk1350 (fun _ _ _ => rfl) (hM.1 0 _ rfl) (a := (m + 59)) (hM.2.2 58 _ _ _ rfl) rfl ?_
    refine ev_iload_n 20 dX12_tryPair_19 rfl rfl ?_
    refine ev_lald 21 _ dX12_tryPair_20 (hM.1 59 _ rfl) rfl (by have hNN := hM.2.1 59 _ rfl; omega) rfl ?_
    refine ev_eqJ (y := (Int64.ofInt (sp_en sb q : Nat))) ((n59 _ q hq)) ?_
    refine ev_aload_n 22 dX12_tryPair_21 rfl rfl ?_
    refine ev_getP 25 mm_cl12 (j := 65) (Nat.le_of_ble_eq_true rfl) dX12_tryPair_22 lk1350 (fun _ _ _ => rfl) (hM.1 0 _ rfl) (a := (m + 59)) (hM.2.2 58 _ _ _ rfl) rfl ?_
    refine ev_iload_n 26 dX12_tryPair_25 rfl rfl ?_
    refine ev_lald 27 _ dX12_tryPair_26 (hM.1 59 _ rfl) rfl (by have hNN := hM.2.1 59 _ rfl; omega) rfl ?_
    refine ev_eqJ (y := (Int64.ofInt (sp_en sb r : Nat))) ((n59 _ r hr)) ?_
    refine ev_ladd 28 dX12_tryPair_27 rfl ?_
    refine ev_ldc2 31 dX12_tryPair_28 lk1675 rfl ?_
    refine ev_lload 33 dX12_tryPair_31 rfl rfl ?_
    refine ev_lmul 34 dX12_tryPair_33 rfl ?_
    refine ev_iload_n 35 dX12_tryPair_34 rfl rfl ?_
    refine ev_iload_n 36 dX12_tryPair_35 rfl rfl ?_
    refine ev_iload 38 dX12_tryPair_36 rfl rfl ?_
    refine ev_invS 41 (Mc := mX12_shared) ⟨lk1678, lk80, hdX12_shared, (Nat.le_of_ble_eq_true rfl), (Nat.le_of_ble_eq_true rfl)⟩ lk1676 lk1677 dX12_tryPair_38 (ct_X12_shared hb hq hr h1 h2 h3) rfl (Nat.le_of_ble_eq_true rfl) rfl rfl ?_
    refine ev_lmul 42 dX12_tryPair_41 rfl ?_
    refine ev_ladd 43 dX12_tryPair_42 rfl ?_
    refine ev_lstore 45 (lv' := [_, _, _, _, _, _, _, none, _, _, _, _]) dX12_tryPair_43 (Nat.le_of_ble_eq_true rfl) rfl rfl ?_
    refine ev_le (mle_s (mle_s (mle_s (mle_s (mle_s (mle_s (mle_n (mle_n (mle_s (mle_n (mle_n (mle_n (mle_0))))))))))))) ?_
    rw [show (2 : Int64) * 1 = Int64.ofInt 2 by decide +kernel]
    exact key2
end MOC
