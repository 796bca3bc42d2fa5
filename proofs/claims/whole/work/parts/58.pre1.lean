theorem sp_up_c (J : mm_TJ) {q p j : Nat} (f : Nat → Int64) (t : Int64) (h : q ≠ p) : sp_up (va_up J q f) p j t = va_up (sp_up J p j t) q f := by
  unfold sp_up
  rw [va_up_n _ _ (fun e => h e.symm), va_comm _ _ _ h]
theorem sp_up_n (J : mm_TJ) {q p j : Nat} (t : Int64) (h : q ≠ p) : sp_up J p j t q = J q := by
  unfold sp_up
  rw [va_up_n _ _ h]
section VHP
variable {g : mm_G} {B : mm_B} {I : mm_TI} {J : mm_TJ} {P : mm_TP} {x o : Nat}
theorem ct_X10_bounded {w : Int64} (hV : lyV B P x) : Ct g mX10_bounded [.ref (x + 1), .long w] B I J P (some (.long (sp_W w)), B, I, sp_up J (x + 1) 3 (sp_tW w), P) := by
  have e : (if (if w < 2147483647 then w else 2147483647) < -2147483648 then -2147483648 else if w < 2147483647 then w else 2147483647) = sp_W w := sp_mm (by decide +kernel)
  refine ct_of (lv := [some (.ref (x + 1)), some (.long w), none, none, none]) (by decide +kernel) (Nat.le_of_ble_eq_true rfl) rfl ?_
  refine ev_ldc2 3 dX10_bounded_0 lk723 rfl ?_
  refine ev_ldc2 6 dX10_bounded_3 lk724 rfl ?_
  refine ev_lload_n 7 dX10_bounded_6 rfl rfl ?_
  refine ev_minL 10 dX10_bounded_7 lk709 lk710 lk87 lk711 (Nat.le_of_ble_eq_true rfl) (Nat.le_of_ble_eq_true rfl) (Nat.le_of_ble_eq_true rfl) rfl ?_
  refine ev_maxL 13 dX10_bounded_10 lk712 lk713 lk87 lk714 (Nat.le_of_ble_eq_true rfl) (Nat.le_of_ble_eq_true rfl) (Nat.le_of_ble_eq_true rfl) rfl ?_
  refine ev_lstore_n 14 (lv' := [_, _, none, _, _]) dX10_bounded_13 (Nat.le_of_ble_eq_true rfl) rfl rfl ?_
  rw [e]
  refine ev_aload_n 15 dX10_bounded_14 rfl rfl ?_
  refine ev_dup 16 dX10_bounded_15 rfl rfl ?_
  refine ev_getJ 19 mm_cl10 (j := 3) (Nat.le_of_ble_eq_true rfl) dX10_bounded_16 lk114 (fun _ _ _ => rfl) (hV.1 1 _ rfl) rfl ?_
  refine ev_lload_n 20 dX10_bounded_19 rfl rfl ?_
  refine ev_lload_n 21 dX10_bounded_20 rfl rfl ?_
  refine ev_lcmp 22 dX10_bounded_21 rfl ?_
  refine ev_lc_ne 25 29 dX10_bounded_22 (by decide) rfl (fun h => ?_) (fun h => ?_)
  · refine ev_lconst 30 (v := 1) dX10_bounded_29 (by decide +kernel) rfl ?_
    refine ev_ladd 31 dX10_bounded_30 rfl ?_
    refine ev_putJ 34 mm_cl10 (j := 3) (Nat.le_of_ble_eq_true rfl) dX10_bounded_31 lk114 rfl (fun _ _ _ => rfl) rfl rfl (hV.1 1 _ rfl) rfl ?_
    refine ev_lload_n 35 dX10_bounded_34 rfl rfl ?_
    rw [show sp_tW w = 1 by unfold sp_tW; exact if_pos (Classical.byContradiction fun z => h ((sp_mme (by decide +kernel)).mpr z))]
    exact ev_lret dX10_bounded_35 rfl (rfl)
  · refine ev_lconst 26 (v := 0) dX10_bounded_25 (by decide +kernel) rfl ?_
    refine ev_goto 30 dX10_bounded_26 (by decide) ?_
    refine ev_ladd 31 dX10_bounded_30 rfl ?_
    refine ev_putJ 34 mm_cl10 (j := 3) (Nat.le_of_ble_eq_true rfl) dX10_bounded_31 lk114 rfl (fun _ _ _ => rfl) rfl rfl (hV.1 1 _ rfl) rfl ?_
    refine ev_lload_n 35 dX10_bounded_34 rfl rfl ?_
    rw [show sp_tW w = 0 by unfold sp_tW; exact if_neg ((sp_mme (by decide +kernel)).mp h)]
    exact ev_lret dX10_bounded_35 rfl (rfl)
theorem ct_X10_nearestIndex {w : Int64} (hV : lyV B P x) : Ct g mX10_nearestIndex [.ref (x + 1), .long w] B I J P (some (.int (sp_cl w).toInt32), B, I, sp_up J (x + 1) 3 (sp_tc w), P) := by
  have e : (if (if w < 31 then w else 31) < -31 then -31 else if w < 31 then w else 31) = sp_cl w := sp_mm (by decide +kernel)
  refine ct_of (lv := [some (.ref (x + 1)), some (.long w), none, none, none]) (by decide +kernel) (Nat.le_of_ble_eq_true rfl) rfl ?_
  refine ev_ldc2 3 dX10_nearestIndex_0 lk707 rfl ?_
  refine ev_ldc2 6 dX10_nearestIndex_3 lk708 rfl ?_
  refine ev_lload_n 7 dX10_nearestIndex_6 rfl rfl ?_
  refine ev_minL 10 dX10_nearestIndex_7 lk709 lk710 lk87 lk711 (Nat.le_of_ble_eq_true rfl) (Nat.le_of_ble_eq_true rfl) (Nat.le_of_ble_eq_true rfl) rfl ?_
  refine ev_maxL 13 dX10_nearestIndex_10 lk712 lk713 lk87 lk714 (Nat.le_of_ble_eq_true rfl) (Nat.le_of_ble_eq_true rfl) (Nat.le_of_ble_eq_true rfl) rfl ?_
  refine ev_lstore_n 14 (lv' := [_, _, none, _, _]) dX10_nearestIndex_13 (Nat.le_of_ble_eq_true rfl) rfl rfl ?_
  rw [e]
  refine ev_aload_n 15 dX10_nearestIndex_14 rfl rfl ?_
  refine ev_dup 16 dX10_nearestIndex_15 rfl rfl ?_
  refine ev_getJ 19 mm_cl10 (j := 3) (Nat.le_of_ble_eq_true rfl) dX10_nearestIndex_16 lk114 (fun _ _ _ => rfl) (hV.1 1 _ rfl) rfl ?_
  refine ev_lload_n 20 dX10_nearestIndex_19 rfl rfl ?_
  refine ev_lload_n 21 dX10_nearestIndex_20 rfl rfl ?_
  refine ev_lcmp 22 dX10_nearestIndex_21 rfl ?_
  refine ev_lc_ne 25 29 dX10_nearestIndex_22 (by decide) rfl (fun h => ?_) (fun h => ?_)
  · refine ev_lconst 30 (v := 1) dX10_nearestIndex_29 (by decide +kernel) rfl ?_
    refine ev_ladd 31 dX10_nearestIndex_30 rfl ?_
    refine ev_putJ 34 mm_cl10 (j := 3) (Nat.le_of_ble_eq_true rfl) dX10_nearestIndex_31 lk114 rfl (fun _ _ _ => rfl) rfl rfl (hV.1 1 _ rfl) rfl ?_
    refine ev_lload_n 35 dX10_nearestIndex_34 rfl rfl ?_
    refine ev_l2i 36 dX10_nearestIndex_35 rfl ?_
    rw [show sp_tc w = 1 by unfold sp_tc; exact if_pos (Classical.byContradiction fun z => h ((sp_mme (by decide +kernel)).mpr z))]
    exact ev_iret dX10_nearestIndex_36 rfl (rfl)
  · refine ev_lconst 26 (v := 0) dX10_nearestIndex_25 (by decide +kernel) rfl ?_
    refine ev_goto 30 dX10_nearestIndex_26 (by decide) ?_
    refine ev_ladd 31 dX10_nearestIndex_30 rfl ?_
    refine ev_putJ 34 mm_cl10 (j := 3) (Nat.le_of_ble_eq_true rfl) dX10_nearestIndex_31 lk114 rfl (fun _ _ _ => rfl) rfl rfl (hV.1 1 _ rfl) rfl ?_
    refine ev_lload_n 35 dX10_nearestIndex_34 rfl rfl ?_
    refine ev_l2i 36 dX10_nearestIndex_35 rfl ?_
    rw [show sp_tc w = 0 by unfold sp_tc; exact if_neg ((sp_mme (by decide +kernel)).mp h)]
    exact ev_iret dX10_nearestIndex_36 rfl (rfl)
theorem lp_X2_reflectOnce {l : Nat} {z t : Int64} {F K : Nat → Int64} (hV : lyV B P x) (hC : lyC B P x o) (hl : l ≤ 7) : ∀ (d i : Nat), i + d = l →
    Ev g mX2_reflectOnce 45 [some (.ref (o + 4)), some (.int (nI l)), some (.long z), none, some (.ref (x + 15)), some (.ref (x + 16)), some (.int (nI (i + 1))), none, none, none, none] [] B I (va_up (va_up (sp_up J (x + 1) 3 (sp_ro z (F, K, t) i).2.2) (x + 15) (sp_ro z (F, K, t) i).1) (x + 16) (sp_ro z (F, K, t) i).2.1) P
      (none, B, I, va_up (va_up (sp_up J (x + 1) 3 (sp_ro z (F, K, t) l).2.2) (x + 15) (sp_ro z (F, K, t) l).1) (x + 16) (sp_ro z (F, K, t) l).2.1, P) := by
  intro d
  induction d with
  | zero =>
    intro i hi
    obtain rfl : i = l := by omega
    refine ev_iload 47 dX2_reflectOnce_45 rfl rfl ?_
    refine ev_iload_n 48 dX2_reflectOnce_47 rfl rfl ?_
    refine ev_icmp_gtN 51 115 dX2_reflectOnce_48 (by decide) (by omega) (by omega) rfl (fun hbr => ?_) (fun hx => absurd ((by omega)) hx)
    exact ev_vret dX2_reflectOnce_115 rfl (rfl)
  | succ d ih =>
    intro i hi
    have e := ih (i + 1) (by omega)
    generalize hq : sp_ro z (F, K, t) i = q
    generalize hZ : sp_ro z (F, K, t) l = qz at e ⊢
    simp only [sp_ro, hq] at e
    obtain ⟨F', K', t'⟩ := q
    refine ev_iload 47 dX2_reflectOnce_45 rfl rfl ?_
    refine ev_iload_n 48 dX2_reflectOnce_47 rfl rfl ?_
    refine ev_icmp_gtN 51 115 dX2_reflectOnce_48 (by decide) (by omega) (by omega) rfl (fun hx => absurd hx ((by omega))) (fun hbr => ?_)
    refine ev_aload 53 dX2_reflectOnce_51 rfl rfl ?_
    refine ev_iload 55 dX2_reflectOnce_53 rfl rfl ?_
    refine ev_iconstN 56 1 dX2_reflectOnce_55 rfl ?_
    refine ev_iaddN 57 dX2_reflectOnce_56 rfl ?_
    refine ev_lald 58 _ dX2_reflectOnce_57 (hV.1 15 _ rfl) rfl (by have hNN := hV.2.1 15 _ rfl; omega) rfl ?_
    refine ev_eqJ (y := (F' (i + 1 + 1))) ((by rw [va_up_n _ _ (by omega), va_up_s])) ?_
    refine ev_lstore 60 (lv' := [_, _, _, _, _, _, some (.int _), _, _, _, _]) dX2_reflectOnce_58 (Nat.le_of_ble_eq_true rfl) rfl rfl ?_
    refine ev_aload 62 dX2_reflectOnce_60 rfl rfl ?_
    refine ev_iload 64 dX2_reflectOnce_62 rfl rfl ?_
    refine ev_lald 65 _ dX2_reflectOnce_64 (hV.1 16 _ rfl) rfl (by have hNN := hV.2.1 16 _ rfl; omega) rfl ?_
    refine ev_eqJ (y := (K' (i + 1))) ((by rw [va_up_s])) ?_
    refine ev_lstore 67 (lv' := [_, _, _, _, _, _, _, _, none, _, _]) dX2_reflectOnce_65 (Nat.le_of_ble_eq_true rfl) rfl rfl ?_
    refine ev_aload 69 dX2_reflectOnce_67 rfl rfl ?_
    refine ev_iload 71 dX2_reflectOnce_69 rfl rfl ?_
    refine ev_aload_n 72 dX2_reflectOnce_71 rfl rfl ?_
    refine ev_getP 75 mm_cl2 (j := 0) (Nat.le_of_ble_eq_true rfl) dX2_reflectOnce_72 lk369 (fun _ _ _ => rfl) (hC.1 4 _ rfl) (a := (x + 1)) (hC.2.2.2 0 _ _ _ rfl) rfl ?_
    refine ev_lload 77 dX2_reflectOnce_75 rfl rfl ?_
    refine ev_lload 79 dX2_reflectOnce_77 rfl rfl ?_
    refine ev_lload_n 80 dX2_reflectOnce_79 rfl rfl ?_
    refine ev_invSN 83 (Mc := mX11_half) ⟨lk669, lk75, hdX11_half, (Nat.le_of_ble_eq_true rfl), (Nat.le_of_ble_eq_true rfl)⟩ lk667 lk668 dX2_reflectOnce_80 (ct_X11_half) rfl (Nat.le_of_ble_eq_true rfl) rfl rfl ?_
    refine ev_ladd 84 dX2_reflectOnce_83 rfl ?_
    refine ev_invV 87 (Mc := mX10_bounded) ⟨lk722, lk76, hdX10_bounded, (Nat.le_of_ble_eq_true rfl), (Nat.le_of_ble_eq_true rfl)⟩ lk719 lk720 lk721 mm_cl10 rfl dX2_reflectOnce_84 (ct_X10_bounded hV) rfl (hV.1 1 _ rfl) (Nat.le_of_ble_eq_true rfl) rfl rfl ?_
    rw [sp_up_c _ _ _ (by omega), sp_up_c _ _ _ (by omega), sp_up_up]
    refine ev_last 88 _ dX2_reflectOnce_87 (hV.1 15 _ rfl) rfl (by have hNN := hV.2.1 15 _ rfl; omega) rfl ?_
    refine ev_aload 90 dX2_reflectOnce_88 rfl rfl ?_
    refine ev_iload 92 dX2_reflectOnce_90 rfl rfl ?_
    refine ev_aload_n 93 dX2_reflectOnce_92 rfl rfl ?_
    refine ev_getP 96 mm_cl2 (j := 0) (Nat.le_of_ble_eq_true rfl) dX2_reflectOnce_93 lk369 (fun _ _ _ => rfl) (hC.1 4 _ rfl) (a := (x + 1)) (hC.2.2.2 0 _ _ _ rfl) rfl ?_
    refine ev_lload 98 dX2_reflectOnce_96 rfl rfl ?_
    refine ev_lload 100 dX2_reflectOnce_98 rfl rfl ?_
    refine ev_lload_n 101 dX2_reflectOnce_100 rfl rfl ?_
    rw [va_3 _ (a := x + 15) (b := x + 16) _ _ _ (by omega), va_up_n _ _ (show x + 15 ≠ x + 16 by omega), va_up_s]
    refine ev_invSN 104 (Mc := mX11_half) ⟨lk669, lk75, hdX11_half, (Nat.le_of_ble_eq_true rfl), (Nat.le_of_ble_eq_true rfl)⟩ lk667 lk668 dX2_reflectOnce_101 (ct_X11_half) rfl (Nat.le_of_ble_eq_true rfl) rfl rfl ?_
    refine ev_ladd 105 dX2_reflectOnce_104 rfl ?_
    refine ev_invV 108 (Mc := mX10_bounded) ⟨lk722, lk76, hdX10_bounded, (Nat.le_of_ble_eq_true rfl), (Nat.le_of_ble_eq_true rfl)⟩ lk719 lk720 lk721 mm_cl10 rfl dX2_reflectOnce_105 (ct_X10_bounded hV) rfl (hV.1 1 _ rfl) (Nat.le_of_ble_eq_true rfl) rfl rfl ?_
    rw [sp_up_c _ _ _ (by omega), sp_up_c _ _ _ (by omega), sp_up_up]
    refine ev_last 109 _ dX2_reflectOnce_108 (hV.1 16 _ rfl) rfl (by have hNN := hV.2.1 16 _ rfl; omega) rfl ?_
    refine ev_iincN 112 (lv' := [_, _, _, _, _, some (.ref _), _, _, _, _, _]) 1 dX2_reflectOnce_109 rfl (Nat.le_of_ble_eq_true rfl) rfl rfl ?_
    refine ev_goto 45 dX2_reflectOnce_112 (by decide) ?_
    rw [va_up_s, bx_uu, Int64.add_assoc]
    refine ev_le (mle_s (mle_s (mle_s (mle_n (mle_s (mle_s (mle_s (mle_n (mle_n (mle_n (mle_n (mle_0)))))))))))) ?_
    exact e
theorem ct_X2_reflectOnce {l : Nat} {z t : Int64} {F K : Nat → Int64} (hV : lyV B P x) (hC : lyC B P x o) (hl : l ≤ 7) : Ct g mX2_reflectOnce [.ref (o + 4), .int (nI l), .long z] B I (va_up (va_up (sp_up J (x + 1) 3 t) (x + 15) F) (x + 16) K) P
    (none, B, I, va_up (va_up (sp_up J (x + 1) 3 (t + (sp_r1 z F K l).2.2)) (x + 15) (sp_r1 z F K l).1) (x + 16) (sp_r1 z F K l).2.1, P) := by
  have e := lp_X2_reflectOnce (g := g) (I := I) (J := sp_up J (x + 1) 3 t) (t := sp_tW (F 0 + sp_half (F 1) z)) (z := z) (F := va_up F 0 (sp_W (F 0 + sp_half (F 1) z))) (K := K) hV hC hl l 0 (by omega)
  rw [show sp_ro z (va_up F 0 (sp_W (F 0 + sp_half (F 1) z)), K, sp_tW (F 0 + sp_half (F 1) z)) l = sp_r1 z F K l from rfl, show sp_ro z (va_up F 0 (sp_W (F 0 + sp_half (F 1) z)), K, sp_tW (F 0 + sp_half (F 1) z)) 0 = (va_up F 0 (sp_W (F 0 + sp_half (F 1) z)), K, sp_tW (F 0 + sp_half (F 1) z)) from rfl, sp_up_up, sp_up_up] at e
  simp only [Nat.zero_add] at e
  refine ct_of (lv := [some (.ref (o + 4)), some (.int (nI l)), some (.long z), none, none, none, none, none, none, none, none]) (by decide +kernel) (Nat.le_of_ble_eq_true rfl) rfl ?_
  refine ev_aload_n 1 dX2_reflectOnce_0 rfl rfl ?_
  refine ev_getP 4 mm_cl2 (j := 1) (Nat.le_of_ble_eq_true rfl) dX2_reflectOnce_1 lk370 (fun _ _ _ => rfl) (hC.1 4 _ rfl) (a := (x + 4)) (hC.2.2.2 1 _ _ _ rfl) rfl ?_
  refine ev_getP 7 mm_cl8 (j := 10) (Nat.le_of_ble_eq_true rfl) dX2_reflectOnce_4 lk157 (fun _ _ _ => rfl) (hV.1 4 _ rfl) (a := (x + 15)) (hV.2.2 18 _ _ _ rfl) rfl ?_
  refine ev_astore 9 (lv' := [_, _, _, none, _, _, _, _, _, _, _]) dX2_reflectOnce_7 (Nat.le_of_ble_eq_true rfl) rfl rfl ?_
  refine ev_aload_n 10 dX2_reflectOnce_9 rfl rfl ?_
  refine ev_getP 13 mm_cl2 (j := 1) (Nat.le_of_ble_eq_true rfl) dX2_reflectOnce_10 lk370 (fun _ _ _ => rfl) (hC.1 4 _ rfl) (a := (x + 4)) (hC.2.2.2 1 _ _ _ rfl) rfl ?_
  refine ev_getP 16 mm_cl8 (j := 11) (Nat.le_of_ble_eq_true rfl) dX2_reflectOnce_13 lk159 (fun _ _ _ => rfl) (hV.1 4 _ rfl) (a := (x + 16)) (hV.2.2 19 _ _ _ rfl) rfl ?_
  refine ev_astore 18 (lv' := [_, _, _, _, some (.ref _), _, _, _, _, _, _]) dX2_reflectOnce_16 (Nat.le_of_ble_eq_true rfl) rfl rfl ?_
  refine ev_aload 20 dX2_reflectOnce_18 rfl rfl ?_
  refine ev_iconstN 21 0 dX2_reflectOnce_20 rfl ?_
  refine ev_aload_n 22 dX2_reflectOnce_21 rfl rfl ?_
  refine ev_getP 25 mm_cl2 (j := 0) (Nat.le_of_ble_eq_true rfl) dX2_reflectOnce_22 lk369 (fun _ _ _ => rfl) (hC.1 4 _ rfl) (a := (x + 1)) (hC.2.2.2 0 _ _ _ rfl) rfl ?_
  refine ev_aload 27 dX2_reflectOnce_25 rfl rfl ?_
  refine ev_iconstN 28 0 dX2_reflectOnce_27 rfl ?_
  refine ev_lald 29 _ dX2_reflectOnce_28 (hV.1 15 _ rfl) rfl (by have hNN := hV.2.1 15 _ rfl; omega) rfl ?_
  refine ev_eqJ (y := (F 0)) ((by rw [va_up_n _ _ (by omega), va_up_s])) ?_
  refine ev_aload 31 dX2_reflectOnce_29 rfl rfl ?_
  refine ev_iconstN 32 1 dX2_reflectOnce_31 rfl ?_
  refine ev_lald 33 _ dX2_reflectOnce_32 (hV.1 15 _ rfl) rfl (by have hNN := hV.2.1 15 _ rfl; omega) rfl ?_
  refine ev_eqJ (y := (F 1)) ((by rw [va_up_n _ _ (by omega), va_up_s])) ?_
  refine ev_lload_n 34 dX2_reflectOnce_33 rfl rfl ?_
  refine ev_invSN 37 (Mc := mX11_half) ⟨lk669, lk75, hdX11_half, (Nat.le_of_ble_eq_true rfl), (Nat.le_of_ble_eq_true rfl)⟩ lk667 lk668 dX2_reflectOnce_34 (ct_X11_half) rfl (Nat.le_of_ble_eq_true rfl) rfl rfl ?_
  refine ev_ladd 38 dX2_reflectOnce_37 rfl ?_
  refine ev_invV 41 (Mc := mX10_bounded) ⟨lk722, lk76, hdX10_bounded, (Nat.le_of_ble_eq_true rfl), (Nat.le_of_ble_eq_true rfl)⟩ lk719 lk720 lk721 mm_cl10 rfl dX2_reflectOnce_38 (ct_X10_bounded hV) rfl (hV.1 1 _ rfl) (Nat.le_of_ble_eq_true rfl) rfl rfl ?_
  rw [sp_up_c _ _ _ (by omega), sp_up_c _ _ _ (by omega), sp_up_up]
  refine ev_last 42 _ dX2_reflectOnce_41 (hV.1 15 _ rfl) rfl (by have hNN := hV.2.1 15 _ rfl; omega) rfl ?_
  refine ev_iconstN 43 1 dX2_reflectOnce_42 rfl ?_
  refine ev_istore 45 (lv' := [_, _, _, _, _, some (.ref _), _, _, _, _, _]) dX2_reflectOnce_43 (Nat.le_of_ble_eq_true rfl) rfl rfl ?_
  rw [va_3 _ (a := x + 15) (b := x + 16) _ _ _ (by omega), va_up_n _ _ (show x + 15 ≠ x + 16 by omega), va_up_s]
  exact e
theorem lx_X2_reflect (hV : lyV B P x) (hC : lyC B P x o) (hxo : x + 22 ≤ o) : ∀ (d k : Nat), k + d = 8 → ∀ (F K : Nat → Int64) (ix : Nat → Int32) (t : Int64), ∃ F' K' : Nat → Int64,
    Ev g mX2_reflect 48 [some (.ref (o + 4)), some (.ref (x + 15)), some (.int (nI (k + 1))), none, none] [] B (va_up I (o + 16) ix) (va_up (va_up (sp_up J (x + 1) 3 t) (x + 15) F) (x + 16) K) P
      (none, B, va_up I (o + 16) (sp_rf d k F K ix t).1, va_up (va_up (sp_up J (x + 1) 3 (sp_rf d k F K ix t).2) (x + 15) F') (x + 16) K', P) := by
  intro d
  induction d with
  | zero =>
    intro k hk F K ix t
    obtain rfl : k = 8 := by omega
    refine ⟨F, K, ?_⟩
    refine ev_iload_n 49 dX2_reflect_48 rfl rfl ?_
    refine ev_bipushN 51 8 dX2_reflect_49 (by decide +kernel) rfl ?_
    refine ev_icmp_gtN 54 135 dX2_reflect_51 (by decide) (by omega) (by omega) rfl (fun hbr => ?_) (fun hx => absurd ((by omega)) hx)
    exact ev_vret dX2_reflect_135 rfl (rfl)
  | succ d ih =>
    intro k hk F K ix t
    have f0 : ∀ (A : mm_TJ) (K : Nat → Int64) (j : Nat), va_up (va_up A (x + 15) F) (x + 16) K (x + 15) j = F j := fun A K j => by rw [va_up_n _ _ (by omega), va_up_s]
    by_cases c1 : 0 < F 0
    · by_cases c2 : sp_ab (F 1) < F 0
      · have hn : ¬ (¬ 0 < F 0 ∨ ¬ sp_ab (F 1) < F 0) := fun z => z.elim (fun z => z c1) (fun z => z c2)
        have hne : ¬ F 0 = 0 := fun z => by rw [z] at c1; exact absurd c1 (by decide +kernel)
        by_cases c3 : d = 0
        · subst c3
          refine ⟨F, K, ?_⟩
          rw [show sp_rf (0 + 1) k F K ix t = (va_up ix k (sp_cl (sp_v F)).toInt32, t + sp_tc (sp_v F)) by unfold sp_rf; rw [if_neg hn, if_pos rfl]]
          obtain rfl : k = 7 := by omega
          refine ev_iload_n 49 dX2_reflect_48 rfl rfl ?_
          refine ev_bipushN 51 8 dX2_reflect_49 (by decide +kernel) rfl ?_
          refine ev_icmp_gtN 54 135 dX2_reflect_51 (by decide) (by omega) (by omega) rfl (fun hx => absurd hx ((by omega))) (fun hbr => ?_)
          refine ev_aload_n 55 dX2_reflect_54 rfl rfl ?_
          refine ev_iconstN 56 0 dX2_reflect_55 rfl ?_
          refine ev_lald 57 _ dX2_reflect_56 (hV.1 15 _ rfl) rfl (by have hNN := hV.2.1 15 _ rfl; omega) rfl ?_
          refine ev_eqJ (y := (F 0)) ((f0 _ _ _)) ?_
          refine ev_lconst 58 (v := 0) dX2_reflect_57 (by decide +kernel) rfl ?_
          refine ev_lcmp 59 dX2_reflect_58 rfl ?_
          refine ev_lc_le 62 75 dX2_reflect_59 (by decide) rfl (fun hx => absurd (c1) hx) (fun hbr => ?_)
          refine ev_aload_n 63 dX2_reflect_62 rfl rfl ?_
          refine ev_iconstN 64 1 dX2_reflect_63 rfl ?_
          refine ev_lald 65 _ dX2_reflect_64 (hV.1 15 _ rfl) rfl (by have hNN := hV.2.1 15 _ rfl; omega) rfl ?_
          refine ev_eqJ (y := (F 1)) ((f0 _ _ _)) ?_
          refine ev_absL 68 dX2_reflect_65 lk698 lk699 lk87 lk700 (Nat.le_of_ble_eq_true rfl) (Nat.le_of_ble_eq_true rfl) (Nat.le_of_ble_eq_true rfl) rfl ?_
          refine ev_aload_n 69 dX2_reflect_68 rfl rfl ?_
          refine ev_iconstN 70 0 dX2_reflect_69 rfl ?_
          refine ev_lald 71 _ dX2_reflect_70 (hV.1 15 _ rfl) rfl (by have hNN := hV.2.1 15 _ rfl; omega) rfl ?_
          refine ev_eqJ (y := (F 0)) ((f0 _ _ _)) ?_
          refine ev_lcmp 72 dX2_reflect_71 rfl ?_
          refine ev_lc_lt 75 76 dX2_reflect_72 (by decide) rfl (fun hbr => ?_) (fun hx => absurd (c2) hx)
          refine ev_ldc2 79 dX2_reflect_76 lk701 rfl ?_
          refine ev_aload_n 80 dX2_reflect_79 rfl rfl ?_
          refine ev_iconstN 81 1 dX2_reflect_80 rfl ?_
          refine ev_lald 82 _ dX2_reflect_81 (hV.1 15 _ rfl) rfl (by have hNN := hV.2.1 15 _ rfl; omega) rfl ?_
          refine ev_eqJ (y := (F 1)) ((f0 _ _ _)) ?_
          refine ev_lmul 83 dX2_reflect_82 rfl ?_
          refine ev_aload_n 84 dX2_reflect_83 rfl rfl ?_
          refine ev_iconstN 85 0 dX2_reflect_84 rfl ?_
          refine ev_lald 86 _ dX2_reflect_85 (hV.1 15 _ rfl) rfl (by have hNN := hV.2.1 15 _ rfl; omega) rfl ?_
          refine ev_eqJ (y := (F 0)) ((f0 _ _ _)) ?_
          refine ev_ldiv 87 dX2_reflect_86 (by assumption) rfl ?_
          refine ev_lstore_n 88 (lv' := [_, _, some (.int _), _, _]) dX2_reflect_87 (Nat.le_of_ble_eq_true rfl) rfl rfl ?_
          refine ev_aload_n 89 dX2_reflect_88 rfl rfl ?_
          refine ev_getP 92 mm_cl2 (j := 3) (Nat.le_of_ble_eq_true rfl) dX2_reflect_89 lk372 (fun _ _ _ => rfl) (hC.1 4 _ rfl) (a := (o + 13)) (hC.2.2.1 5 _ _ _ rfl) rfl ?_
          refine ev_getP 95 mm_cl6 (j := 2) (Nat.le_of_ble_eq_true rfl) dX2_reflect_92 lk347 (fun _ _ _ => rfl) (hC.1 13 _ rfl) (a := (o + 16)) (hC.2.2.1 12 _ _ _ rfl) rfl ?_
          refine ev_iload_n 96 dX2_reflect_95 rfl rfl ?_
          refine ev_iconstN 97 1 dX2_reflect_96 rfl ?_
          refine ev_isubN 98 dX2_reflect_97 (by omega) rfl ?_
          refine ev_aload_n 99 dX2_reflect_98 rfl rfl ?_
          refine ev_getP 102 mm_cl2 (j := 0) (Nat.le_of_ble_eq_true rfl) dX2_reflect_99 lk369 (fun _ _ _ => rfl) (hC.1 4 _ rfl) (a := (x + 1)) (hC.2.2.2 0 _ _ _ rfl) rfl ?_
          refine ev_lload_n 103 dX2_reflect_102 rfl rfl ?_
          refine ev_ldc2 106 dX2_reflect_103 lk702 rfl ?_
          refine ev_ladd 107 dX2_reflect_106 rfl ?_
          refine ev_bipushN 109 10 dX2_reflect_107 (by decide +kernel) rfl ?_
          refine ev_lshr 110 dX2_reflect_109 rfl ?_
          refine ev_invV 113 (Mc := mX10_nearestIndex) ⟨lk706, lk76, hdX10_nearestIndex, (Nat.le_of_ble_eq_true rfl), (Nat.le_of_ble_eq_true rfl)⟩ lk703 lk704 lk705 mm_cl10 rfl dX2_reflect_110 (ct_X10_nearestIndex hV) rfl (hV.1 1 _ rfl) (Nat.le_of_ble_eq_true rfl) rfl rfl ?_
          rw [sp_up_c _ _ _ (by omega), sp_up_c _ _ _ (by omega), sp_up_up]
          refine ev_iast 114 _ dX2_reflect_113 (hC.1 16 _ rfl) rfl (by have hNN := hC.2.1 16 _ rfl; omega) rfl ?_
          refine ev_iload_n 115 dX2_reflect_114 rfl rfl ?_
          refine ev_bipushN 117 8 dX2_reflect_115 (by decide +kernel) rfl ?_
          rw [va_up_s, bx_uu]
          refine ev_icmp_geN 120 129 dX2_reflect_117 (by decide) (by omega) (by omega) rfl (fun hbr => ?_) (fun hx => absurd ((by omega)) hx)
          refine ev_iincN 132 (lv' := [_, some (.ref _), _, _, _]) 1 dX2_reflect_129 rfl (Nat.le_of_ble_eq_true rfl) rfl rfl ?_
          refine ev_goto 48 dX2_reflect_132 (by decide) ?_
          refine ev_iload_n 49 dX2_reflect_48 rfl rfl ?_
          refine ev_bipushN 51 8 dX2_reflect_49 (by decide +kernel) rfl ?_
          refine ev_icmp_gtN 54 135 dX2_reflect_51 (by decide) (by omega) (by omega) rfl (fun hbr => ?_) (fun hx => absurd ((by omega)) hx)
          exact ev_vret dX2_reflect_135 rfl (rfl)
        · obtain ⟨F', K', e⟩ := ih (k + 1) (by omega) (sp_r1 (sp_z F) F K (7 - k)).1 (sp_r1 (sp_z F) F K (7 - k)).2.1 (va_up ix k (sp_cl (sp_v F)).toInt32) (t + (sp_tc (sp_v F) + (sp_r1 (sp_z F) F K (7 - k)).2.2))
          refine ⟨F', K', ?_⟩
          rw [show sp_rf (d + 1) k F K ix t = sp_rf d (k + 1) (sp_r1 (sp_z F) F K (7 - k)).1 (sp_r1 (sp_z F) F K (7 - k)).2.1 (va_up ix k (sp_cl (sp_v F)).toInt32) (t + (sp_tc (sp_v F) + (sp_r1 (sp_z F) F K (7 - k)).2.2)) by rw [sp_rf, if_neg hn, if_neg c3]]
          refine ev_iload_n 49 dX2_reflect_48 rfl rfl ?_
          refine ev_bipushN 51 8 dX2_reflect_49 (by decide +kernel) rfl ?_
          refine ev_icmp_gtN 54 135 dX2_reflect_51 (by decide) (by omega) (by omega) rfl (fun hx => absurd hx ((by omega))) (fun hbr => ?_)
          refine ev_aload_n 55 dX2_reflect_54 rfl rfl ?_
          refine ev_iconstN 56 0 dX2_reflect_55 rfl ?_
          refine ev_lald 57 _ dX2_reflect_56 (hV.1 15 _ rfl) rfl (by have hNN := hV.2.1 15 _ rfl; omega) rfl ?_
          refine ev_eqJ (y := (F 0)) ((f0 _ _ _)) ?_
          refine ev_lconst 58 (v := 0) dX2_reflect_57 (by decide +kernel) rfl ?_
          refine ev_lcmp 59 dX2_reflect_58 rfl ?_
          refine ev_lc_le 62 75 dX2_reflect_59 (by decide) rfl (fun hx => absurd (c1) hx) (fun hbr => ?_)
          refine ev_aload_n 63 dX2_reflect_62 rfl rfl ?_
          refine ev_iconstN 64 1 dX2_reflect_63 rfl ?_
          refine ev_lald 65 _ dX2_reflect_64 (hV.1 15 _ rfl) rfl (by have hNN := hV.2.1 15 _ rfl; omega) rfl ?_
          refine ev_eqJ (y := (F 1)) ((f0 _ _ _)) ?_
          refine ev_absL 68 dX2_reflect_65 lk698 lk699 lk87 lk700 (Nat.le_of_ble_eq_true rfl) (Nat.le_of_ble_eq_true rfl) (Nat.le_of_ble_eq_true rfl) rfl ?_
          refine ev_aload_n 69 dX2_reflect_68 rfl rfl ?_
          refine ev_iconstN 70 0 dX2_reflect_69 rfl ?_
          refine ev_lald 71 _ dX2_reflect_70 (hV.1 15 _ rfl) rfl (by have hNN := hV.2.1 15 _ rfl; omega) rfl ?_
          refine ev_eqJ (y := (F 0)) ((f0 _ _ _)) ?_
          refine ev_lcmp 72 dX2_reflect_71 rfl ?_
          refine ev_lc_lt 75 76 dX2_reflect_72 (by decide) rfl (fun hbr => ?_) (fun hx => absurd (c2) hx)
          refine ev_ldc2 79 dX2_reflect_76 lk701 rfl ?_
          refine ev_aload_n 80 dX2_reflect_79 rfl rfl ?_
          refine ev_iconstN 81 1 dX2_reflect_80 rfl ?_
          refine ev_lald 82 _ dX2_reflect_81 (hV.1 15 _ rfl) rfl (by have hNN := hV.2.1 15 _ rfl; omega) rfl ?_
          refine ev_eqJ (y := (F 1)) ((f0 _ _ _)) ?_
          refine ev_lmul 83 dX2_reflect_82 rfl ?_
          refine ev_aload_n 84 dX2_reflect_83 rfl rfl ?_
          refine ev_iconstN 85 0 dX2_reflect_84 rfl ?_
          refine ev_lald 86 _ dX2_reflect_85 (hV.1 15 _ rfl) rfl (by have hNN := hV.2.1 15 _ rfl; omega) rfl ?_
          refine ev_eqJ (y := (F 0)) ((f0 _ _ _)) ?_
          refine ev_ldiv 87 dX2_reflect_86 (by assumption) rfl ?_
          refine ev_lstore_n 88 (lv' := [_, _, some (.int _), _, _]) dX2_reflect_87 (Nat.le_of_ble_eq_true rfl) rfl rfl ?_
          refine ev_aload_n 89 dX2_reflect_88 rfl rfl ?_
          refine ev_getP 92 mm_cl2 (j := 3) (Nat.le_of_ble_eq_true rfl) dX2_reflect_89 lk372 (fun _ _ _ => rfl) (hC.1 4 _ rfl) (a := (o + 13)) (hC.2.2.1 5 _ _ _ rfl) rfl ?_
          refine ev_getP 95 mm_cl6 (j := 2) (Nat.le_of_ble_eq_true rfl) dX2_reflect_92 lk347 (fun _ _ _ => rfl) (hC.1 13 _ rfl) (a := (o + 16)) (hC.2.2.1 12 _ _ _ rfl) rfl ?_
          refine ev_iload_n 96 dX2_reflect_95 rfl rfl ?_
          refine ev_iconstN 97 1 dX2_reflect_96 rfl ?_
          refine ev_isubN 98 dX2_reflect_97 (by omega) rfl ?_
          refine ev_aload_n 99 dX2_reflect_98 rfl rfl ?_
          refine ev_getP 102 mm_cl2 (j := 0) (Nat.le_of_ble_eq_true rfl) dX2_reflect_99 lk369 (fun _ _ _ => rfl) (hC.1 4 _ rfl) (a := (x + 1)) (hC.2.2.2 0 _ _ _ rfl) rfl ?_
          refine ev_lload_n 103 dX2_reflect_102 rfl rfl ?_
          refine ev_ldc2 106 dX2_reflect_103 lk702 rfl ?_
          refine ev_ladd 107 dX2_reflect_106 rfl ?_
          refine ev_bipushN 109 10 dX2_reflect_107 (by decide +kernel) rfl ?_
          refine ev_lshr 110 dX2_reflect_109 rfl ?_
          refine ev_invV 113 (Mc := mX10_nearestIndex) ⟨lk706, lk76, hdX10_nearestIndex, (Nat.le_of_ble_eq_true rfl), (Nat.le_of_ble_eq_true rfl)⟩ lk703 lk704 lk705 mm_cl10 rfl dX2_reflect_110 (ct_X10_nearestIndex hV) rfl (hV.1 1 _ rfl) (Nat.le_of_ble_eq_true rfl) rfl rfl ?_
          rw [sp_up_c _ _ _ (by omega), sp_up_c _ _ _ (by omega), sp_up_up]
          refine ev_iast 114 _ dX2_reflect_113 (hC.1 16 _ rfl) rfl (by have hNN := hC.2.1 16 _ rfl; omega) rfl ?_
          refine ev_iload_n 115 dX2_reflect_114 rfl rfl ?_
          refine ev_bipushN 117 8 dX2_reflect_115 (by decide +kernel) rfl ?_
          rw [va_up_s, bx_uu, Nat.add_sub_cancel]
          refine ev_icmp_geN 120 129 dX2_reflect_117 (by decide) (by omega) (by omega) rfl (fun hx => absurd hx ((by omega))) (fun hbr => ?_)
          refine ev_aload_n 121 dX2_reflect_120 rfl rfl ?_
          refine ev_bipushN 123 8 dX2_reflect_121 (by decide +kernel) rfl ?_
          refine ev_iload_n 124 dX2_reflect_123 rfl rfl ?_
          refine ev_isubN 125 dX2_reflect_124 (by omega) rfl ?_
          refine ev_lload_n 126 dX2_reflect_125 rfl rfl ?_
          refine ev_invVv 129 (Mc := mX2_reflectOnce) ⟨lk718, lk83, hdX2_reflectOnce, (Nat.le_of_ble_eq_true rfl), (Nat.le_of_ble_eq_true rfl)⟩ lk715 lk717 lk6 mm_cl2 rfl dX2_reflect_126 (ct_X2_reflectOnce hV hC (by omega)) rfl (hC.1 4 _ rfl) (Nat.le_of_ble_eq_true rfl) rfl rfl ?_
          rw [show 8 - (k + 1) = 7 - k by omega, Int64.add_assoc]
          refine ev_iincN 132 (lv' := [_, some (.ref _), _, _, _]) 1 dX2_reflect_129 rfl (Nat.le_of_ble_eq_true rfl) rfl rfl ?_
          refine ev_goto 48 dX2_reflect_132 (by decide) ?_
          refine ev_le (mle_s (mle_s (mle_s (mle_n (mle_n (mle_0)))))) ?_
          exact e
      · refine ⟨F, K, ?_⟩
        rw [show sp_rf (d + 1) k F K ix t = (ix, t) by rw [sp_rf, if_pos (Or.inr c2)]]
        refine ev_iload_n 49 dX2_reflect_48 rfl rfl ?_
        refine ev_bipushN 51 8 dX2_reflect_49 (by decide +kernel) rfl ?_
        refine ev_icmp_gtN 54 135 dX2_reflect_51 (by decide) (by omega) (by omega) rfl (fun hx => absurd hx ((by omega))) (fun hbr => ?_)
        refine ev_aload_n 55 dX2_reflect_54 rfl rfl ?_
        refine ev_iconstN 56 0 dX2_reflect_55 rfl ?_
        refine ev_lald 57 _ dX2_reflect_56 (hV.1 15 _ rfl) rfl (by have hNN := hV.2.1 15 _ rfl; omega) rfl ?_
        refine ev_eqJ (y := (F 0)) ((f0 _ _ _)) ?_
        refine ev_lconst 58 (v := 0) dX2_reflect_57 (by decide +kernel) rfl ?_
        refine ev_lcmp 59 dX2_reflect_58 rfl ?_
        refine ev_lc_le 62 75 dX2_reflect_59 (by decide) rfl (fun hx => absurd (c1) hx) (fun hbr => ?_)
        refine ev_aload_n 63 dX2_reflect_62 rfl rfl ?_
        refine ev_iconstN 64 1 dX2_reflect_63 rfl ?_
        refine ev_lald 65 _ dX2_reflect_64 (hV.1 15 _ rfl) rfl (by have hNN := hV.2.1 15 _ rfl; omega) rfl ?_
        refine ev_eqJ (y := (F 1)) ((f0 _ _ _)) ?_
        refine ev_absL 68 dX2_reflect_65 lk698 lk699 lk87 lk700 (Nat.le_of_ble_eq_true rfl) (Nat.le_of_ble_eq_true rfl) (Nat.le_of_ble_eq_true rfl) rfl ?_
        refine ev_aload_n 69 dX2_reflect_68 rfl rfl ?_
        refine ev_iconstN 70 0 dX2_reflect_69 rfl ?_
        refine ev_lald 71 _ dX2_reflect_70 (hV.1 15 _ rfl) rfl (by have hNN := hV.2.1 15 _ rfl; omega) rfl ?_
        refine ev_eqJ (y := (F 0)) ((f0 _ _ _)) ?_
        refine ev_lcmp 72 dX2_reflect_71 rfl ?_
        refine ev_lc_lt 75 76 dX2_reflect_72 (by decide) rfl (fun hx => absurd hx (c2)) (fun hbr => ?_)
        exact ev_vret dX2_reflect_75 rfl (rfl)
    · refine ⟨F, K, ?_⟩
      rw [show sp_rf (d + 1) k F K ix t = (ix, t) by rw [sp_rf, if_pos (Or.inl c1)]]
      refine ev_iload_n 49 dX2_reflect_48 rfl rfl ?_
      refine ev_bipushN 51 8 dX2_reflect_49 (by decide +kernel) rfl ?_
      refine ev_icmp_gtN 54 135 dX2_reflect_51 (by decide) (by omega) (by omega) rfl (fun hx => absurd hx ((by omega))) (fun hbr => ?_)
      refine ev_aload_n 55 dX2_reflect_54 rfl rfl ?_
      refine ev_iconstN 56 0 dX2_reflect_55 rfl ?_
      refine ev_lald 57 _ dX2_reflect_56 (hV.1 15 _ rfl) rfl (by have hNN := hV.2.1 15 _ rfl; omega) rfl ?_
      refine ev_eqJ (y := (F 0)) ((f0 _ _ _)) ?_
      refine ev_lconst 58 (v := 0) dX2_reflect_57 (by decide +kernel) rfl ?_
      refine ev_lcmp 59 dX2_reflect_58 rfl ?_
      refine ev_lc_le 62 75 dX2_reflect_59 (by decide) rfl (fun hbr => ?_) (fun hx => absurd hx (c1))
      exact ev_vret dX2_reflect_75 rfl (rfl)
theorem cx_X2_reflect {X : Nat → Int32} {n : Nat} {F K : Nat → Int64} (hV : lyV B P x) (hC : lyC B P x o) (hxo : x + 22 ≤ o) (hF : ∀ k, k ≤ 8 → F k = sp_ar X n k) : ∃ F' K' : Nat → Int64,
    Ct g mX2_reflect [.ref (o + 4)] B (va_up I (o + 16) (fun _ => 0)) (va_up (va_up J (x + 15) F) (x + 16) K) P
      (none, B, va_up I (o + 16) (sp_pr X n).1, va_up (va_up (sp_up J (x + 1) 3 (sp_pr X n).2) (x + 15) F') (x + 16) K', P) := by
  have f0 : ∀ (A : mm_TJ) (K : Nat → Int64) (j : Nat), va_up (va_up A (x + 15) F) (x + 16) K (x + 15) j = F j := fun A K j => by rw [va_up_n _ _ (by omega), va_up_s]
  by_cases c : sp_ar X n 0 = 0
  · refine ⟨F, K, ?_⟩
    rw [show sp_pr X n = (fun _ => 0, 0) by unfold sp_pr; rw [if_pos c], sp_up_0]
    refine ct_of (lv := [some (.ref (o + 4)), none, none, none, none]) (by decide +kernel) (Nat.le_of_ble_eq_true rfl) rfl ?_
    refine ev_aload_n 1 dX2_reflect_0 rfl rfl ?_
    refine ev_getP 4 mm_cl2 (j := 1) (Nat.le_of_ble_eq_true rfl) dX2_reflect_1 lk370 (fun _ _ _ => rfl) (hC.1 4 _ rfl) (a := (x + 4)) (hC.2.2.2 1 _ _ _ rfl) rfl ?_
    refine ev_getP 7 mm_cl8 (j := 10) (Nat.le_of_ble_eq_true rfl) dX2_reflect_4 lk157 (fun _ _ _ => rfl) (hV.1 4 _ rfl) (a := (x + 15)) (hV.2.2 18 _ _ _ rfl) rfl ?_
    refine ev_astore_n 8 (lv' := [some (.ref _), _, _, _, _]) dX2_reflect_7 (Nat.le_of_ble_eq_true rfl) rfl rfl ?_
    refine ev_aload_n 9 dX2_reflect_8 rfl rfl ?_
    refine ev_iconstN 10 0 dX2_reflect_9 rfl ?_
    refine ev_lald 11 _ dX2_reflect_10 (hV.1 15 _ rfl) rfl (by have hNN := hV.2.1 15 _ rfl; omega) rfl ?_
    refine ev_eqJ (y := (F 0)) ((f0 _ _ _)) ?_
    refine ev_lconst 12 (v := 0) dX2_reflect_11 (by decide +kernel) rfl ?_
    refine ev_lcmp 13 dX2_reflect_12 rfl ?_
    refine ev_lc_ne 16 17 dX2_reflect_13 (by decide) rfl (fun hx => absurd (((hF 0 (by omega)).trans c)) hx) (fun hbr => ?_)
    exact ev_vret dX2_reflect_16 rfl (rfl)
  · obtain ⟨F', K', e⟩ := lx_X2_reflect (g := g) (I := I) (J := J) hV hC hxo 8 0 (by omega) (va_up F 0 (F 0 + (F 0 >>> ((nI 10).toInt64 &&& 63) + 1))) (va_cpy (va_up F 0 (F 0 + (F 0 >>> ((nI 10).toInt64 &&& 63) + 1))) K 1 1 7) (fun _ => 0) 0
    refine ⟨F', K', ?_⟩
    rw [show sp_pr X n = sp_rf 8 0 (va_up F 0 (F 0 + (F 0 >>> ((nI 10).toInt64 &&& 63) + 1))) (va_cpy (va_up F 0 (F 0 + (F 0 >>> ((nI 10).toInt64 &&& 63) + 1))) K 1 1 7) (fun _ => 0) 0 by
      unfold sp_pr
      rw [if_neg c]
      refine sp_rf_cg _ _ _ _ _ _ _ _ (fun j hj => ?_) (fun j h1 h2 => ?_)
      · rw [hF 0 (by omega)]
        by_cases e : j = 0
        · subst e; rw [va_up_s, va_up_s]
        · rw [va_up_n _ _ e, va_up_n _ _ e]; exact (hF j hj).symm
      · unfold va_cpy
        rw [if_pos (by omega), show 1 + (j - 1) = j by omega, va_up_n _ _ (by omega)]
        exact (hF j (by omega)).symm]
    rw [sp_up_0] at e
    refine ct_of (lv := [some (.ref (o + 4)), none, none, none, none]) (by decide +kernel) (Nat.le_of_ble_eq_true rfl) rfl ?_
    refine ev_aload_n 1 dX2_reflect_0 rfl rfl ?_
    refine ev_getP 4 mm_cl2 (j := 1) (Nat.le_of_ble_eq_true rfl) dX2_reflect_1 lk370 (fun _ _ _ => rfl) (hC.1 4 _ rfl) (a := (x + 4)) (hC.2.2.2 1 _ _ _ rfl) rfl ?_
    refine ev_getP 7 mm_cl8 (j := 10) (Nat.le_of_ble_eq_true rfl) dX2_reflect_4 lk157 (fun _ _ _ => rfl) (hV.1 4 _ rfl) (a := (x + 15)) (hV.2.2 18 _ _ _ rfl) rfl ?_
    refine ev_astore_n 8 (lv' := [some (.ref _), _, _, _, _]) dX2_reflect_7 (Nat.le_of_ble_eq_true rfl) rfl rfl ?_
    refine ev_aload_n 9 dX2_reflect_8 rfl rfl ?_
    refine ev_iconstN 10 0 dX2_reflect_9 rfl ?_
    refine ev_lald 11 _ dX2_reflect_10 (hV.1 15 _ rfl) rfl (by have hNN := hV.2.1 15 _ rfl; omega) rfl ?_
    refine ev_eqJ (y := (F 0)) ((f0 _ _ _)) ?_
    refine ev_lconst 12 (v := 0) dX2_reflect_11 (by decide +kernel) rfl ?_
    refine ev_lcmp 13 dX2_reflect_12 rfl ?_
    refine ev_lc_ne 16 17 dX2_reflect_13 (by decide) rfl (fun hbr => ?_) (fun hx => absurd hx ((fun z => c ((hF 0 (by omega)).symm.trans z))))
    refine ev_aload_n 18 dX2_reflect_17 rfl rfl ?_
    refine ev_iconstN 19 0 dX2_reflect_18 rfl ?_
    refine ev_dup2_11 20 dX2_reflect_19 rfl rfl rfl ?_
    refine ev_lald 21 _ dX2_reflect_20 (hV.1 15 _ rfl) rfl (by have hNN := hV.2.1 15 _ rfl; omega) rfl ?_
    refine ev_eqJ (y := (F 0)) ((f0 _ _ _)) ?_
    refine ev_aload_n 22 dX2_reflect_21 rfl rfl ?_
    refine ev_iconstN 23 0 dX2_reflect_22 rfl ?_
    refine ev_lald 24 _ dX2_reflect_23 (hV.1 15 _ rfl) rfl (by have hNN := hV.2.1 15 _ rfl; omega) rfl ?_
    refine ev_eqJ (y := (F 0)) ((f0 _ _ _)) ?_
    refine ev_bipushN 26 10 dX2_reflect_24 (by decide +kernel) rfl ?_
    refine ev_lshr 27 dX2_reflect_26 rfl ?_
    refine ev_lconst 28 (v := 1) dX2_reflect_27 (by decide +kernel) rfl ?_
    refine ev_ladd 29 dX2_reflect_28 rfl ?_
    refine ev_ladd 30 dX2_reflect_29 rfl ?_
    refine ev_last 31 _ dX2_reflect_30 (hV.1 15 _ rfl) rfl (by have hNN := hV.2.1 15 _ rfl; omega) rfl ?_
    refine ev_aload_n 32 dX2_reflect_31 rfl rfl ?_
    refine ev_iconstN 33 1 dX2_reflect_32 rfl ?_
    refine ev_aload_n 34 dX2_reflect_33 rfl rfl ?_
    refine ev_getP 37 mm_cl2 (j := 1) (Nat.le_of_ble_eq_true rfl) dX2_reflect_34 lk370 (fun _ _ _ => rfl) (hC.1 4 _ rfl) (a := (x + 4)) (hC.2.2.2 1 _ _ _ rfl) rfl ?_
    refine ev_getP 40 mm_cl8 (j := 11) (Nat.le_of_ble_eq_true rfl) dX2_reflect_37 lk159 (fun _ _ _ => rfl) (hV.1 4 _ rfl) (a := (x + 16)) (hV.2.2 19 _ _ _ rfl) rfl ?_
    refine ev_iconstN 41 1 dX2_reflect_40 rfl ?_
    refine ev_bipushN 43 7 dX2_reflect_41 (by decide +kernel) rfl ?_
    rw [va_3 _ (a := x + 15) (b := x + 16) _ _ _ (by omega), va_up_n _ _ (show x + 15 ≠ x + 16 by omega), va_up_s]
    refine ev_copyJ 46 (1) (1) (7) dX2_reflect_43 lk697 lk650 lk649 lk88 (hV.1 15 _ rfl) (hV.1 16 _ rfl) rfl rfl rfl (by have hNN := hV.2.1 15 _ rfl; have hNM := hV.2.1 16 _ rfl; omega) (by have hNN := hV.2.1 15 _ rfl; have hNM := hV.2.1 16 _ rfl; omega) (Nat.le_of_ble_eq_true rfl) (Nat.le_of_ble_eq_true rfl) (Nat.le_of_ble_eq_true rfl) rfl ?_
    rw [va_up_s, bx_uu, va_up_n _ _ (show x + 15 ≠ x + 16 by omega), va_up_s]
    refine ev_iconstN 47 1 dX2_reflect_46 rfl ?_
    refine ev_istore_n 48 (lv' := [_, some (.ref _), _, _, _]) dX2_reflect_47 (Nat.le_of_ble_eq_true rfl) rfl rfl ?_
    refine ev_le (mle_s (mle_s (mle_s (mle_n (mle_n (mle_0)))))) ?_
    exact e
theorem lp_X2_corr1 {n k : Nat} {Z : mm_Z} (hV : lyV B P x) (hn : n ≤ 320) (hk : k ≤ n)
    (c : Ev g mX2_correlate 64 [some (.ref (o + 4)), some (.int (nI n)), some (.ref (x + 5)), some (.ref (x + 15)), some (.int (nI k)), some (.long (sp_ac (I (x + 5)) k (n - k))), none, some (.int (nI n))] [] B I J P Z) : ∀ (d i : Nat), i + d = n - k →
    Ev g mX2_correlate 33 [some (.ref (o + 4)), some (.int (nI n)), some (.ref (x + 5)), some (.ref (x + 15)), some (.int (nI k)), some (.long (sp_ac (I (x + 5)) k i)), none, some (.int (nI (k + i)))] [] B I J P Z := by
  intro d
  induction d with
  | zero =>
    intro i hi
    obtain rfl : i = n - k := by omega
    refine ev_iload 35 dX2_correlate_33 rfl rfl ?_
    refine ev_iload_n 36 dX2_correlate_35 rfl rfl ?_
    refine ev_icmp_geN 39 64 dX2_correlate_36 (by decide) (by omega) (by omega) rfl (fun hbr => ?_) (fun hx => absurd ((by omega)) hx)
    rw [show k + (n - k) = n by omega]
    exact c
  | succ d ih =>
    intro i hi
    refine ev_iload 35 dX2_correlate_33 rfl rfl ?_
    refine ev_iload_n 36 dX2_correlate_35 rfl rfl ?_
    refine ev_icmp_geN 39 64 dX2_correlate_36 (by decide) (by omega) (by omega) rfl (fun hx => absurd hx ((by omega))) (fun hbr => ?_)
    refine ev_lload 41 dX2_correlate_39 rfl rfl ?_
    refine ev_aload_n 42 dX2_correlate_41 rfl rfl ?_
    refine ev_iload 44 dX2_correlate_42 rfl rfl ?_
    refine ev_iald 45 _ dX2_correlate_44 (hV.1 5 _ rfl) rfl (by have hNN := hV.2.1 5 _ rfl; omega) rfl ?_
    refine ev_i2l 46 dX2_correlate_45 rfl ?_
    refine ev_aload_n 47 dX2_correlate_46 rfl rfl ?_
    refine ev_iload 49 dX2_correlate_47 rfl rfl ?_
    refine ev_iload 51 dX2_correlate_49 rfl rfl ?_
    refine ev_isubN 52 dX2_correlate_51 (by omega) rfl ?_
    refine ev_iald 53 _ dX2_correlate_52 (hV.1 5 _ rfl) rfl (by have hNN := hV.2.1 5 _ rfl; omega) rfl ?_
    refine ev_i2l 54 dX2_correlate_53 rfl ?_
    refine ev_lmul 55 dX2_correlate_54 rfl ?_
    refine ev_ladd 56 dX2_correlate_55 rfl ?_
    refine ev_lstore 58 (lv' := [_, _, _, _, some (.int _), _, _, _]) dX2_correlate_56 (Nat.le_of_ble_eq_true rfl) rfl rfl ?_
    refine ev_iincN 61 (lv' := [_, _, _, _, _, _, none, _]) 1 dX2_correlate_58 rfl (Nat.le_of_ble_eq_true rfl) rfl rfl ?_
    refine ev_goto 33 dX2_correlate_61 (by decide) ?_
    rw [Nat.add_sub_cancel_left]
    exact ih (i + 1) (by omega)
theorem lx_X2_corr2 {n : Nat} (hV : lyV B P x) (hn : n ≤ 320) (h9 : 9 ≤ n) : ∀ (d k : Nat), k + d = 9 → ∀ (F : Nat → Int64), (∀ j, j < k → F j = sp_ac (I (x + 5)) j (n - j)) → ∃ F' : Nat → Int64, (∀ j, j < 9 → F' j = sp_ac (I (x + 5)) j (n - j)) ∧
    ∀ Z : mm_Z, Ev g mX2_correlate 76 [some (.ref (o + 4)), some (.int (nI n)), some (.ref (x + 5)), some (.ref (x + 15)), none, none, none, none] [] B I (va_up J (x + 15) F') P Z → Ev g mX2_correlate 19 [some (.ref (o + 4)), some (.int (nI n)), some (.ref (x + 5)), some (.ref (x + 15)), some (.int (nI k)), none, none, none] [] B I (va_up J (x + 15) F) P Z := by
  intro d
  induction d with
  | zero =>
    intro k hk F hF
    obtain rfl : k = 9 := by omega
    refine ⟨F, hF, fun Z e => ?_⟩
    refine ev_iload 21 dX2_correlate_19 rfl rfl ?_
    refine ev_bipushN 23 8 dX2_correlate_21 (by decide +kernel) rfl ?_
    refine ev_icmp_gtN 26 76 dX2_correlate_23 (by decide) (by omega) (by omega) rfl (fun hbr => ?_) (fun hx => absurd ((by omega)) hx)
    refine ev_le (mle_s (mle_s (mle_s (mle_s (mle_n (mle_n (mle_n (mle_n (mle_0))))))))) ?_
    exact e
  | succ d ih =>
    intro k hk F hF
    obtain ⟨F', h1, h2⟩ := ih (k + 1) (by omega) (va_up F k (sp_ac (I (x + 5)) k (n - k))) (fun j hj => by
      by_cases c : j = k
      · subst c; rw [va_up_s]
      · rw [va_up_n _ _ c]; exact hF j (by omega))
    refine ⟨F', h1, fun Z e => ?_⟩
    have e2 := h2 Z e
    refine ev_iload 21 dX2_correlate_19 rfl rfl ?_
    refine ev_bipushN 23 8 dX2_correlate_21 (by decide +kernel) rfl ?_
    refine ev_icmp_gtN 26 76 dX2_correlate_23 (by decide) (by omega) (by omega) rfl (fun hx => absurd hx ((by omega))) (fun hbr => ?_)
    refine ev_lconst 27 (v := 0) dX2_correlate_26 (by decide +kernel) rfl ?_
    refine ev_lstore 29 (lv' := [_, _, _, _, some (.int _), _, _, _]) dX2_correlate_27 (Nat.le_of_ble_eq_true rfl) rfl rfl ?_
    refine ev_iload 31 dX2_correlate_29 rfl rfl ?_
    refine ev_istore 33 (lv' := [_, _, _, _, _, _, none, _]) dX2_correlate_31 (Nat.le_of_ble_eq_true rfl) rfl rfl ?_
    refine lp_X2_corr1 hV hn (by omega) ?_ (n - k) 0 (by omega)
    refine ev_aload_n 65 dX2_correlate_64 rfl rfl ?_
    refine ev_iload 67 dX2_correlate_65 rfl rfl ?_
    refine ev_lload 69 dX2_correlate_67 rfl rfl ?_
    refine ev_last 70 _ dX2_correlate_69 (hV.1 15 _ rfl) rfl (by have hNN := hV.2.1 15 _ rfl; omega) rfl ?_
    refine ev_iincN 73 (lv' := [_, _, _, some (.ref _), _, _, _, _]) 1 dX2_correlate_70 rfl (Nat.le_of_ble_eq_true rfl) rfl rfl ?_
    refine ev_goto 19 dX2_correlate_73 (by decide) ?_
    rw [va_up_s, bx_uu]
    refine ev_le (mle_s (mle_s (mle_s (mle_s (mle_s (mle_n (mle_n (mle_n (mle_0))))))))) ?_
    exact e2
theorem lp_X2_corr3 {n : Nat} {F : Nat → Int64} {Z : mm_Z} (hV : lyV B P x)
    (c : Ev g mX2_correlate 105 [some (.ref (o + 4)), some (.int (nI n)), some (.ref (x + 5)), some (.ref (x + 15)), some (.int (nI (sp_sf (F 0) 33 0))), none, none, none] [] B I (va_up J (x + 15) F) P Z) : ∀ (d s : Nat), s + d = 33 → sp_sf (F 0) 33 0 = sp_sf (F 0) d s →
    Ev g mX2_correlate 79 [some (.ref (o + 4)), some (.int (nI n)), some (.ref (x + 5)), some (.ref (x + 15)), some (.int (nI s)), none, none, none] [] B I (va_up J (x + 15) F) P Z := by
  intro d
  induction d with
  | zero =>
    intro s hs hq
    obtain rfl : s = 33 := by omega
    rw [show sp_sf (F 0) 0 33 = 33 from rfl] at hq
    rw [hq] at c
    refine ev_iload 81 dX2_correlate_79 rfl rfl ?_
    refine ev_bipushN 83 40 dX2_correlate_81 (by decide +kernel) rfl ?_
    refine ev_icmp_geN 86 105 dX2_correlate_83 (by decide) (by omega) (by omega) rfl (fun hx => absurd hx ((by omega))) (fun hbr => ?_)
    refine ev_aload_n 87 dX2_correlate_86 rfl rfl ?_
    refine ev_iconstN 88 0 dX2_correlate_87 rfl ?_
    refine ev_lald 89 _ dX2_correlate_88 (hV.1 15 _ rfl) rfl (by have hNN := hV.2.1 15 _ rfl; omega) rfl ?_
    refine ev_eqJ (y := (F 0)) ((by rw [va_up_s])) ?_
    refine ev_iload 91 dX2_correlate_89 rfl rfl ?_
    refine ev_lshr 92 dX2_correlate_91 rfl ?_
    refine ev_ldc2 95 dX2_correlate_92 lk692 rfl ?_
    refine ev_lcmp 96 dX2_correlate_95 rfl ?_
    refine ev_lc_lt 99 105 dX2_correlate_96 (by decide) rfl (fun hbr => ?_) (fun hx => absurd ((sp_sf_e _)) hx)
    exact c
  | succ d ih =>
    intro s hs hq
    refine ev_iload 81 dX2_correlate_79 rfl rfl ?_
    refine ev_bipushN 83 40 dX2_correlate_81 (by decide +kernel) rfl ?_
    refine ev_icmp_geN 86 105 dX2_correlate_83 (by decide) (by omega) (by omega) rfl (fun hx => absurd hx ((by omega))) (fun hbr => ?_)
    refine ev_aload_n 87 dX2_correlate_86 rfl rfl ?_
    refine ev_iconstN 88 0 dX2_correlate_87 rfl ?_
    refine ev_lald 89 _ dX2_correlate_88 (hV.1 15 _ rfl) rfl (by have hNN := hV.2.1 15 _ rfl; omega) rfl ?_
    refine ev_eqJ (y := (F 0)) ((by rw [va_up_s])) ?_
    refine ev_iload 91 dX2_correlate_89 rfl rfl ?_
    refine ev_lshr 92 dX2_correlate_91 rfl ?_
    refine ev_ldc2 95 dX2_correlate_92 lk692 rfl ?_
    refine ev_lcmp 96 dX2_correlate_95 rfl ?_
    refine ev_lc_lt 99 105 dX2_correlate_96 (by decide) rfl (fun h => ?_) (fun h => ?_)
    · rw [show sp_sf (F 0) (d + 1) s = s by rw [sp_sf, if_pos h]] at hq
      rw [hq] at c
      exact c
    · refine ev_iincN 102 (lv' := [_, _, _, some (.ref _), _, _, _, _]) 1 dX2_correlate_99 rfl (Nat.le_of_ble_eq_true rfl) rfl rfl ?_
      refine ev_goto 79 dX2_correlate_102 (by decide) ?_
      exact ih (s + 1) (by omega) (by rw [hq, sp_sf, if_neg h])
theorem lx_X2_corr4 {n s : Nat} {F0 : Nat → Int64} (hV : lyV B P x) : ∀ (d k : Nat), k + d = 9 → ∀ (F : Nat → Int64), (∀ j, j < 9 → F j = if j < k then F0 j >>> ((nI s).toInt64 &&& 63) else F0 j) → ∃ F' : Nat → Int64, (∀ j, j < 9 → F' j = F0 j >>> ((nI s).toInt64 &&& 63)) ∧
    Ev g mX2_correlate 108 [some (.ref (o + 4)), some (.int (nI n)), some (.ref (x + 5)), some (.ref (x + 15)), some (.int (nI s)), some (.int (nI k)), none, none] [] B I (va_up J (x + 15) F) P (none, B, I, va_up J (x + 15) F', P) := by
  intro d
  induction d with
  | zero =>
    intro k hk F hF
    obtain rfl : k = 9 := by omega
    refine ⟨F, fun j hj => by rw [hF j hj, if_pos hj], ?_⟩
    refine ev_iload 110 dX2_correlate_108 rfl rfl ?_
    refine ev_bipushN 112 8 dX2_correlate_110 (by decide +kernel) rfl ?_
    refine ev_icmp_gtN 115 130 dX2_correlate_112 (by decide) (by omega) (by omega) rfl (fun hbr => ?_) (fun hx => absurd ((by omega)) hx)
    exact ev_vret dX2_correlate_130 rfl (rfl)
  | succ d ih =>
    intro k hk F hF
    obtain ⟨F', h1, h2⟩ := ih (k + 1) (by omega) (va_up F k (F k >>> ((nI s).toInt64 &&& 63))) (fun j hj => by
      by_cases c : j = k
      · subst c; rw [va_up_s, if_pos (by omega), hF j hj, if_neg (by omega)]
      · rw [va_up_n _ _ c, hF j hj]
        by_cases c2 : j < k
        · rw [if_pos c2, if_pos (by omega)]
        · rw [if_neg c2, if_neg (by omega)])
    refine ⟨F', h1, ?_⟩
    refine ev_iload 110 dX2_correlate_108 rfl rfl ?_
    refine ev_bipushN 112 8 dX2_correlate_110 (by decide +kernel) rfl ?_
    refine ev_icmp_gtN 115 130 dX2_correlate_112 (by decide) (by omega) (by omega) rfl (fun hx => absurd hx ((by omega))) (fun hbr => ?_)
    refine ev_aload_n 116 dX2_correlate_115 rfl rfl ?_
    refine ev_iload 118 dX2_correlate_116 rfl rfl ?_
    refine ev_dup2_11 119 dX2_correlate_118 rfl rfl rfl ?_
    refine ev_lald 120 _ dX2_correlate_119 (hV.1 15 _ rfl) rfl (by have hNN := hV.2.1 15 _ rfl; omega) rfl ?_
    refine ev_iload 122 dX2_correlate_120 rfl rfl ?_
    refine ev_lshr 123 dX2_correlate_122 rfl ?_
    refine ev_last 124 _ dX2_correlate_123 (hV.1 15 _ rfl) rfl (by have hNN := hV.2.1 15 _ rfl; omega) rfl ?_
    refine ev_iincN 127 (lv' := [_, _, _, _, some (.int _), _, _, _]) 1 dX2_correlate_124 rfl (Nat.le_of_ble_eq_true rfl) rfl rfl ?_
    refine ev_goto 108 dX2_correlate_127 (by decide) ?_
    rw [va_up_s, bx_uu]
    exact h2
theorem cx_X2_correlate {n : Nat} (hV : lyV B P x) (hC : lyC B P x o) (hn : n ≤ 320) (h9 : 9 ≤ n) : ∃ F' : Nat → Int64, (∀ j, j ≤ 8 → F' j = sp_ar (I (x + 5)) n j) ∧ Ct g mX2_correlate [.ref (o + 4), .int (nI n)] B I J P (none, B, I, va_up J (x + 15) F', P) := by
  obtain ⟨F1, a1, a2⟩ := lx_X2_corr2 (g := g) (o := o) (I := I) (J := J) hV hn h9 9 0 (by omega) (J (x + 15)) (fun j hj => by omega)
  obtain ⟨F2, b1, b2⟩ := lx_X2_corr4 (g := g) (o := o) (I := I) (J := J) (n := n) (s := sp_sf (F1 0) 33 0) (F0 := F1) hV 9 0 (by omega) F1 (fun j hj => by rw [if_neg (by omega)])
  refine ⟨F2, fun j hj => ?_, ?_⟩
  · rw [b1 j (by omega), a1 j (by omega), a1 0 (by omega)]
    rfl
  · refine ct_of (lv := [some (.ref (o + 4)), some (.int (nI n)), none, none, none, none, none, none]) (by decide +kernel) (Nat.le_of_ble_eq_true rfl) rfl ?_
    refine ev_aload_n 1 dX2_correlate_0 rfl rfl ?_
    refine ev_getP 4 mm_cl2 (j := 1) (Nat.le_of_ble_eq_true rfl) dX2_correlate_1 lk370 (fun _ _ _ => rfl) (hC.1 4 _ rfl) (a := (x + 4)) (hC.2.2.2 1 _ _ _ rfl) rfl ?_
    refine ev_getP 7 mm_cl8 (j := 0) (Nat.le_of_ble_eq_true rfl) dX2_correlate_4 lk133 (fun _ _ _ => rfl) (hV.1 4 _ rfl) (a := (x + 5)) (hV.2.2 8 _ _ _ rfl) rfl ?_
    refine ev_astore_n 8 (lv' := [_, some (.int _), _, _, _, _, _, _]) dX2_correlate_7 (Nat.le_of_ble_eq_true rfl) rfl rfl ?_
    refine ev_aload_n 9 dX2_correlate_8 rfl rfl ?_
    refine ev_getP 12 mm_cl2 (j := 1) (Nat.le_of_ble_eq_true rfl) dX2_correlate_9 lk370 (fun _ _ _ => rfl) (hC.1 4 _ rfl) (a := (x + 4)) (hC.2.2.2 1 _ _ _ rfl) rfl ?_
    refine ev_getP 15 mm_cl8 (j := 10) (Nat.le_of_ble_eq_true rfl) dX2_correlate_12 lk157 (fun _ _ _ => rfl) (hV.1 4 _ rfl) (a := (x + 15)) (hV.2.2 18 _ _ _ rfl) rfl ?_
    refine ev_astore_n 16 (lv' := [_, _, some (.ref _), _, _, _, _, _]) dX2_correlate_15 (Nat.le_of_ble_eq_true rfl) rfl rfl ?_
    refine ev_iconstN 17 0 dX2_correlate_16 rfl ?_
    refine ev_istore 19 (lv' := [_, _, _, some (.ref _), _, _, _, _]) dX2_correlate_17 (Nat.le_of_ble_eq_true rfl) rfl rfl ?_
    rw [va_up_id] at a2
    refine a2 _ ?_
    refine ev_iconstN 77 0 dX2_correlate_76 rfl ?_
    refine ev_istore 79 (lv' := [_, _, _, some (.ref _), _, _, _, _]) dX2_correlate_77 (Nat.le_of_ble_eq_true rfl) rfl rfl ?_
    refine lp_X2_corr3 hV ?_ 33 0 (by omega) rfl
    have hs := sp_sf_le (F1 0) 33 0 (by omega)
    refine ev_iconstN 106 0 dX2_correlate_105 rfl ?_
    refine ev_istore 108 (lv' := [_, _, _, _, some (.int _), _, _, _]) dX2_correlate_106 (Nat.le_of_ble_eq_true rfl) rfl rfl ?_
    exact b2
theorem cx_X2_predict {n t : Nat} (hV : lyV B P x) (hC : lyC B P x o) (hxo : x + 22 ≤ o) (hn : n ≤ 320) (h9 : 9 ≤ n) (ht : I (x + 1) 2 = nI t) (h32 : t < 32) : ∃ (I' : mm_TI) (F' K' : Nat → Int64), Ct g mX2_predict [.ref (o + 4), .int (nI n)] B I J P
    (none, B, I', va_up (va_up (sp_up J (x + 1) 3 (sp_pr (I (x + 5)) n).2) (x + 15) F') (x + 16) K', P) ∧
    I' (o + 16) = (sp_pr (I (x + 5)) n).1 ∧ I' (x + 3) = va_up (I (x + 3)) t (nI 3) ∧ I' (x + 1) = va_up (I (x + 1)) 2 (nI (t + 1)) ∧ (∀ q, q ≠ o + 16 → q ≠ x + 3 → q ≠ x + 1 → I' q = I q) := by
  generalize hI1 : va_up (va_up I (x + 3) (va_up (I (x + 3)) t (nI 3))) (x + 1) (va_up (I (x + 1)) 2 (nI (t + 1))) = I1
  have a1 : ∀ q, q ≠ x + 3 → q ≠ x + 1 → I1 q = I q := fun q h h' => by rw [← hI1, va_up_n _ _ h', va_up_n _ _ h]
  obtain ⟨F, hF, c1⟩ := cx_X2_correlate (g := g) (I := va_up I1 (o + 16) (fun _ => 0)) (J := J) hV hC hn h9
  have e5 : va_up I1 (o + 16) (fun _ => 0) (x + 5) = I (x + 5) := by rw [va_up_n _ _ (by omega), a1 _ (by omega) (by omega)]
  rw [e5] at hF
  obtain ⟨F', K', c2⟩ := cx_X2_reflect (g := g) (I := I1) (J := J) (F := F) (K := J (x + 16)) hV hC hxo hF
  rw [show va_up (va_up J (x + 15) F) (x + 16) (J (x + 16)) = va_up J (x + 15) F by
    have e := va_up_id (va_up J (x + 15) F) (x + 16)
    rw [va_up_n _ _ (show x + 16 ≠ x + 15 by omega)] at e
    exact e] at c2
  refine ⟨va_up I1 (o + 16) (sp_pr (I (x + 5)) n).1, F', K', ?_, ?_, ?_, ?_, fun q h1 h2 h3 => ?_⟩
  · refine ct_of (lv := [some (.ref (o + 4)), some (.int (nI n))]) (by decide +kernel) (Nat.le_of_ble_eq_true rfl) rfl ?_
    refine ev_aload_n 1 dX2_predict_0 rfl rfl ?_
    refine ev_getP 4 mm_cl2 (j := 0) (Nat.le_of_ble_eq_true rfl) dX2_predict_1 lk369 (fun _ _ _ => rfl) (hC.1 4 _ rfl) (a := (x + 1)) (hC.2.2.2 0 _ _ _ rfl) rfl ?_
    refine ev_iconstN 5 3 dX2_predict_4 rfl ?_
    refine ev_invVv 8 (Mc := mX10_mark) ⟨lk665, lk76, hdX10_mark, (Nat.le_of_ble_eq_true rfl), (Nat.le_of_ble_eq_true rfl)⟩ lk662 lk663 lk664 mm_cl10 rfl dX2_predict_5 (ct_X10_mark hV ht h32) rfl (hV.1 1 _ rfl) (Nat.le_of_ble_eq_true rfl) rfl rfl ?_
    rw [hI1]
    refine ev_aload_n 9 dX2_predict_8 rfl rfl ?_
    refine ev_getP 12 mm_cl2 (j := 3) (Nat.le_of_ble_eq_true rfl) dX2_predict_9 lk372 (fun _ _ _ => rfl) (hC.1 4 _ rfl) (a := (o + 13)) (hC.2.2.1 5 _ _ _ rfl) rfl ?_
    refine ev_getP 15 mm_cl6 (j := 2) (Nat.le_of_ble_eq_true rfl) dX2_predict_12 lk347 (fun _ _ _ => rfl) (hC.1 13 _ rfl) (a := (o + 16)) (hC.2.2.1 12 _ _ _ rfl) rfl ?_
    refine ev_iconstN 16 0 dX2_predict_15 rfl ?_
    refine ev_invSv 19 (Mc := mJ7_fill_53178) ⟨lk687, lk90, hdJ7_fill_53178, (Nat.le_of_ble_eq_true rfl), (Nat.le_of_ble_eq_true rfl)⟩ lk685 lk686 dX2_predict_16 (ct_fill0 (hC.1 16 _ rfl) (by rw [hC.2.1 16 _ rfl]; decide)) rfl (Nat.le_of_ble_eq_true rfl) rfl rfl ?_
    refine ev_aload_n 20 dX2_predict_19 rfl rfl ?_
    refine ev_iload_n 21 dX2_predict_20 rfl rfl ?_
    refine ev_invVv 24 (Mc := mX2_correlate) ⟨lk691, lk83, hdX2_correlate, (Nat.le_of_ble_eq_true rfl), (Nat.le_of_ble_eq_true rfl)⟩ lk688 lk690 lk4 mm_cl2 rfl dX2_predict_21 (c1) rfl (hC.1 4 _ rfl) (Nat.le_of_ble_eq_true rfl) rfl rfl ?_
    refine ev_aload_n 25 dX2_predict_24 rfl rfl ?_
    refine ev_invVv 28 (Mc := mX2_reflect) ⟨lk696, lk83, hdX2_reflect, (Nat.le_of_ble_eq_true rfl), (Nat.le_of_ble_eq_true rfl)⟩ lk693 lk695 lk5 mm_cl2 rfl dX2_predict_25 (c2) rfl (hC.1 4 _ rfl) (Nat.le_of_ble_eq_true rfl) rfl rfl ?_
    exact ev_vret dX2_predict_28 rfl (rfl)
  · rw [va_up_s]
  · rw [va_up_n _ _ (by omega), ← hI1, va_up_n _ _ (by omega), va_up_s]
  · rw [va_up_n _ _ (by omega), ← hI1, va_up_s]
  · rw [va_up_n _ _ h1]; exact a1 q h2 h3
end VHP
