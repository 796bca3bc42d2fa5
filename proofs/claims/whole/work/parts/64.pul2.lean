section MOB
variable {g : mm_G} {B : mm_B} {I : mm_TI} {J : mm_TJ} {P : mm_TP} {m : Nat}
theorem lp_X12_tryGains {e d : Int} {s : Option (Int × Nat)} {F : Nat → Int32} {Q : Nat → Int64} (hM : lyM B P m) (he : 0 < e) (he2 : e ≤ 4096) (hd : -8388608 ≤ d) (hd2 : d ≤ 8388608) (hs : sp_ok s) : ∀ (n j : Nat), j + n = 52 →
    Ev g mX12_tryGains 14 [some (.ref m), some (.long (Int64.ofInt e)), none, some (.long (Int64.ofInt d)), none, some (.int (nI (sp_im s (sp_bs e d s j)))), some (.int (nI 1)), some (.long (Int64.ofInt (sp_bf 9223372036854775807 e d j))), none, some (.int (nI j)), none, none, none, none] [] B (va_up I m (mF F (sp_bs e d s j))) (va_up J m (va_up Q 70 (Int64.ofInt (mZ (sp_bs e d s j))))) P
      (some (.int (nI (sp_im s (sp_bs e d s 52)))), B, va_up I m (mF F (sp_bs e d s 52)), va_up J m (va_up Q 70 (Int64.ofInt (mZ (sp_bs e d s 52)))), P) := by
  intro n
  induction n with
  | zero =>
    intro j hj
    obtain rfl : j = 52 := by omega
    have hzz := sp_im_n (a := s) (b := sp_bs e d s 52)
    refine ev_iload 16 dX12_tryGains_14 rfl rfl ?_
    refine ev_bipushN 18 52 dX12_tryGains_16 (by decide +kernel) rfl ?_
    refine ev_icmp_geN 21 102 dX12_tryGains_18 (by decide) (by omega) (by omega) rfl (fun hbr => ?_) (fun hx => absurd ((by omega)) hx)
    refine ev_iload 104 dX12_tryGains_102 rfl rfl ?_
    exact ev_zret dX12_tryGains_104 rfl (by first | rfl | assumption) (rfl)
  | succ n ih =>
    intro j hj
    have e3 := ih (j + 1) (by omega)
    have hzz := sp_im_n (a := s) (b := sp_bs e d s (j + 1))
    have hb := sp_co_b (j := j) he he2 hd hd2 (by omega)
    have hok := sp_ok_bs he he2 hd hd2 hs j (by omega)
    have hcc := mZ_lt hok hb.1 hb.2
    have hend := fun (h1 : 1 ≤ j) (h : sp_co e d (j - 1) ≤ sp_co e d j) => sp_bs_end (s := s) he h1 (show j < 52 by omega) h
    have him := sp_im_1 (s := s) (e := e) (d := d) (k := j)
    have hstay : 1 ≤ j → sp_co e d (j - 1) ≤ sp_co e d j → sp_bs e d s (j + 1) = sp_bs e d s j := by
      intro h1 h2
      obtain ⟨z, e1, e2⟩ := sp_bs_s (e := e) (d := d) (s := s) (j - 1)
      rw [show j - 1 + 1 = j by omega] at e1
      rw [sp_bs, sp_u1_f]
      rw [e1]
      show ¬ _ < z.1
      omega
    generalize hZ : sp_bs e d s 52 = SZ at e3 hend ⊢
    have hbf : Int64.ofInt (sp_bf 9223372036854775807 e d j) < Int64.ofInt (sp_co e d j) ↔ sp_bf 9223372036854775807 e d j < sp_co e d j := by
      cases j with
      | zero => exact ji_lt (show -9223372036854775808 ≤ (9223372036854775807 : Int) by omega) (show (9223372036854775807 : Int) < 9223372036854775808 by omega) (by omega) (by omega)
      | succ i =>
        have hb2 := sp_co_b (j := i) he he2 hd hd2 (by omega)
        exact ji_lt (show -9223372036854775808 ≤ sp_co e d i by omega) (show sp_co e d i < 9223372036854775808 by omega) (by omega) (by omega)
    -- behind the comparison with the best
    have key : ∀ w : Int64, Ev g mX12_tryGains 77 [some (.ref m), some (.long (Int64.ofInt e)), none, some (.long (Int64.ofInt d)), none, some (.int (nI (sp_im s (sp_bs e d s (j + 1))))), some (.int (nI 1)), some (.long (Int64.ofInt (sp_bf 9223372036854775807 e d j))), none, some (.int (nI j)), some (.long w), none, some (.long (Int64.ofInt (sp_co e d j))), none] [] B (va_up I m (mF F (sp_bs e d s (j + 1)))) (va_up J m (va_up Q 70 (Int64.ofInt (mZ (sp_bs e d s (j + 1)))))) P
        (some (.int (nI (sp_im s SZ))), B, va_up I m (mF F SZ), va_up J m (va_up Q 70 (Int64.ofInt (mZ SZ))), P) := by
      intro w
      rw [show sp_bf 9223372036854775807 e d (j + 1) = sp_co e d j from rfl] at e3
      refine ev_lload 79 dX12_tryGains_77 rfl rfl ?_
      refine ev_lload 81 dX12_tryGains_79 rfl rfl ?_
      refine ev_lcmp 82 dX12_tryGains_81 rfl ?_
      refine ev_lc_gt 85 89 dX12_tryGains_82 (by decide) rfl (fun h1 => ?_) (fun h1 => ?_)
      · have h2 := hbf.mp h1
        have h3 : 1 ≤ j := by
          cases j with
          | zero =>
            have h3 : (9223372036854775807 : Int) < sp_co e d 0 := h2
            omega
          | succ i => omega
        have h4 : sp_co e d (j - 1) ≤ sp_co e d j := by
          obtain ⟨i, rfl⟩ : ∃ i, j = i + 1 := ⟨j - 1, by omega⟩
          have : sp_bf 9223372036854775807 e d (i + 1) = sp_co e d i := rfl
          rw [Nat.add_sub_cancel]
          omega
        have hq := (hend h3 h4).trans (hstay h3 h4).symm
        rw [hq]
        refine ev_iconstN 90 0 dX12_tryGains_89 rfl ?_
        refine ev_istore 92 (lv' := [_, _, _, _, _, some (.int _), _, _, _, _, _, _, _, _]) dX12_tryGains_90 (Nat.le_of_ble_eq_true rfl) rfl rfl ?_
        refine ev_lload 94 dX12_tryGains_92 rfl rfl ?_
        refine ev_lstore 96 (lv' := [_, _, _, _, _, _, some (.int _), _, _, _, _, _, _, _]) dX12_tryGains_94 (Nat.le_of_ble_eq_true rfl) rfl rfl ?_
        refine ev_iincN 99 (lv' := [_, _, _, _, _, _, _, _, none, _, _, _, _, _]) 1 dX12_tryGains_96 rfl (Nat.le_of_ble_eq_true rfl) rfl rfl ?_
        refine ev_goto 14 dX12_tryGains_99 (by decide) ?_
        refine ev_iload 16 dX12_tryGains_14 rfl rfl ?_
        refine ev_bipushN 18 52 dX12_tryGains_16 (by decide +kernel) rfl ?_
        refine ev_icmp_geN 21 102 dX12_tryGains_18 (by decide) (by omega) (by omega) rfl (fun h5 => ?_) (fun h5 => ?_)
        · refine ev_iload 104 dX12_tryGains_102 rfl rfl ?_
          exact ev_zret dX12_tryGains_104 rfl (by first | rfl | assumption) (rfl)
        · refine ev_iload 23 dX12_tryGains_21 rfl rfl ?_
          refine ev_if_eqN 26 102 dX12_tryGains_23 (by decide) (by omega) rfl (fun hbr => ?_) (fun hx => absurd (rfl) hx)
          refine ev_iload 104 dX12_tryGains_102 rfl rfl ?_
          exact ev_zret dX12_tryGains_104 rfl (by first | rfl | assumption) (rfl)
      · refine ev_iconstN 86 1 dX12_tryGains_85 rfl ?_
        refine ev_goto 90 dX12_tryGains_86 (by decide) ?_
        refine ev_istore 92 (lv' := [_, _, _, _, _, some (.int _), _, _, _, _, _, _, _, _]) dX12_tryGains_90 (Nat.le_of_ble_eq_true rfl) rfl rfl ?_
        refine ev_lload 94 dX12_tryGains_92 rfl rfl ?_
        refine ev_lstore 96 (lv' := [_, _, _, _, _, _, some (.int _), _, _, _, _, _, _, _]) dX12_tryGains_94 (Nat.le_of_ble_eq_true rfl) rfl rfl ?_
        refine ev_iincN 99 (lv' := [_, _, _, _, _, _, _, _, none, _, _, _, _, _]) 1 dX12_tryGains_96 rfl (Nat.le_of_ble_eq_true rfl) rfl rfl ?_
        refine ev_goto 14 dX12_tryGains_99 (by decide) ?_
        refine ev_le (mle_s (mle_s (mle_n (mle_s (mle_n (mle_s (mle_s (mle_s (mle_n (mle_s (mle_n (mle_n (mle_n (mle_n (mle_0))))))))))))))) ?_
        exact e3
    refine ev_iload 16 dX12_tryGains_14 rfl rfl ?_
    refine ev_bipushN 18 52 dX12_tryGains_16 (by decide +kernel) rfl ?_
    refine ev_icmp_geN 21 102 dX12_tryGains_18 (by decide) (by omega) (by omega) rfl (fun hx => absurd hx ((by omega))) (fun hbr => ?_)
    refine ev_iload 23 dX12_tryGains_21 rfl rfl ?_
    refine ev_if_eqN 26 102 dX12_tryGains_23 (by decide) (by omega) rfl (fun hx => absurd hx ((by omega))) (fun hbr => ?_)
    refine ev_iload 28 dX12_tryGains_26 rfl rfl ?_
    refine ev_invS 31 (Mc := mX12_gain) ⟨lk1685, lk80, hdX12_gain, (Nat.le_of_ble_eq_true rfl), (Nat.le_of_ble_eq_true rfl)⟩ lk1683 lk1684 dX12_tryGains_28 (ct_X12_gain (by omega)) rfl (Nat.le_of_ble_eq_true rfl) rfl rfl ?_
    refine ev_i2l 32 dX12_tryGains_31 rfl ?_
    refine ev_lstore 34 (lv' := [_, _, _, _, _, _, _, _, _, some (.int _), _, _, _, _]) dX12_tryGains_32 (Nat.le_of_ble_eq_true rfl) rfl rfl ?_
    refine ev_lload 36 dX12_tryGains_34 rfl rfl ?_
    refine ev_lload 38 dX12_tryGains_36 rfl rfl ?_
    refine ev_lmul 39 dX12_tryGains_38 rfl ?_
    refine ev_lload_n 40 dX12_tryGains_39 rfl rfl ?_
    refine ev_lmul 41 dX12_tryGains_40 rfl ?_
    refine ev_ldc2 44 dX12_tryGains_41 lk1686 rfl ?_
    refine ev_lload 46 dX12_tryGains_44 rfl rfl ?_
    refine ev_lmul 47 dX12_tryGains_46 rfl ?_
    refine ev_lload_n 48 dX12_tryGains_47 rfl rfl ?_
    refine ev_lmul 49 dX12_tryGains_48 rfl ?_
    refine ev_lsub 50 dX12_tryGains_49 rfl ?_
    refine ev_eqJ (y := (Int64.ofInt (sp_co e d j))) ((sp_coM (by omega))) ?_
    refine ev_lstore 52 (lv' := [_, _, _, _, _, _, _, _, _, _, _, none, _, _]) dX12_tryGains_50 (Nat.le_of_ble_eq_true rfl) rfl rfl ?_
    refine ev_lload 54 dX12_tryGains_52 rfl rfl ?_
    refine ev_aload_n 55 dX12_tryGains_54 rfl rfl ?_
    refine ev_getJ 58 mm_cl12 (j := 70) (Nat.le_of_ble_eq_true rfl) dX12_tryGains_55 lk1355 (fun _ _ _ => rfl) (hM.1 0 _ rfl) rfl ?_
    refine ev_eqJ (y := (Int64.ofInt (mZ (sp_bs e d s j)))) ((by rw [va_up_s, va_up_s])) ?_
    refine ev_lcmp 59 dX12_tryGains_58 rfl ?_
    rw [show sp_bs e d s (j + 1) = sp_u1 (sp_co e d j) j (sp_bs e d s j) from rfl] at key
    refine ev_lc_ge 62 77 dX12_tryGains_59 (by decide) rfl (fun h2 => ?_) (fun h2 => ?_)
    · rw [sp_u1_f (fun z => h2 (hcc.mpr z))] at key
      exact key _
    · have h3 := hcc.mp h2
      have him2 := him h3
      rw [show sp_bs e d s (j + 1) = sp_u1 (sp_co e d j) j (sp_bs e d s j) from rfl, sp_u1_t h3] at him2
      rw [sp_u1_t h3, him2] at key
      refine ev_aload_n 63 dX12_tryGains_62 rfl rfl ?_
      refine ev_lload 65 dX12_tryGains_63 rfl rfl ?_
      refine ev_putJ 68 mm_cl12 (j := 70) (Nat.le_of_ble_eq_true rfl) dX12_tryGains_65 lk1355 rfl (fun _ _ _ => rfl) rfl rfl (hM.1 0 _ rfl) rfl ?_
      refine ev_aload_n 69 dX12_tryGains_68 rfl rfl ?_
      refine ev_iload 71 dX12_tryGains_69 rfl rfl ?_
      refine ev_putI 74 mm_cl12 (j := 77) (Nat.le_of_ble_eq_true rfl) dX12_tryGains_71 lk1362 rfl (fun _ _ _ => rfl) rfl rfl (hM.1 0 _ rfl) rfl ?_
      refine ev_iconstN 75 1 dX12_tryGains_74 rfl ?_
      refine ev_istore 77 (lv' := [_, _, _, _, none, _, _, _, _, _, _, _, _, _]) dX12_tryGains_75 (Nat.le_of_ble_eq_true rfl) rfl rfl ?_
      simp only [va_up_s, bx_uu]
      rw [mF_up (c := sp_co e d j)]
      exact key _
theorem ct_X12_tryGains {e d : Int} {s : Option (Int × Nat)} {F : Nat → Int32} {Q : Nat → Int64} (hM : lyM B P m) (he : 0 < e) (he2 : e ≤ 4096) (hd : -8388608 ≤ d) (hd2 : d ≤ 8388608) (hs : sp_ok s) :
    Ct g mX12_tryGains [.ref m, .long (Int64.ofInt e), .long (Int64.ofInt d)] B (va_up I m (mF F s)) (va_up J m (va_up Q 70 (Int64.ofInt (mZ s)))) P
      (some (.int (nI (sp_im s (sp_bs e d s 52)))), B, va_up I m (mF F (sp_bs e d s 52)), va_up J m (va_up Q 70 (Int64.ofInt (mZ (sp_bs e d s 52)))), P) := by
  have e0 := lp_X12_tryGains (g := g) (I := I) (J := J) (P := P) (F := F) (Q := Q) hM he he2 hd hd2 hs 52 0 (by omega)
  rw [show sp_bs e d s 0 = s from rfl, show sp_bf 9223372036854775807 e d 0 = 9223372036854775807 from rfl, show sp_im s s = 0 by unfold sp_im; rw [if_pos rfl]] at e0
  refine ct_of (lv := [some (.ref m), some (.long (Int64.ofInt e)), none, some (.long (Int64.ofInt d)), none, none, none, none, none, none, none, none, none, none]) (by decide +kernel) (Nat.le_of_ble_eq_true rfl) rfl ?_
  refine ev_iconstN 1 0 dX12_tryGains_0 rfl ?_
  refine ev_istore 3 (lv' := [_, _, _, _, none, _, _, _, _, _, _, _, _, _]) dX12_tryGains_1 (Nat.le_of_ble_eq_true rfl) rfl rfl ?_
  refine ev_iconstN 4 1 dX12_tryGains_3 rfl ?_
  refine ev_istore 6 (lv' := [_, _, _, _, _, some (.int _), _, _, _, _, _, _, _, _]) dX12_tryGains_4 (Nat.le_of_ble_eq_true rfl) rfl rfl ?_
  refine ev_ldc2 9 dX12_tryGains_6 lk1656 rfl ?_
  refine ev_lstore 11 (lv' := [_, _, _, _, _, _, some (.int _), _, _, _, _, _, _, _]) dX12_tryGains_9 (Nat.le_of_ble_eq_true rfl) rfl rfl ?_
  refine ev_iconstN 12 0 dX12_tryGains_11 rfl ?_
  refine ev_istore 14 (lv' := [_, _, _, _, _, _, _, _, none, _, _, _, _, _]) dX12_tryGains_12 (Nat.le_of_ble_eq_true rfl) rfl rfl ?_
  exact e0
theorem ct_X12_shared {sb q r : Nat} (hb : sb ≤ 80) (hq : q < sb) (hr : r < sb) (h1 : q ≠ r) (h2 : q ≠ r + 2) (h3 : r ≠ q + 2) : Ct g mX12_shared [.int (nI q), .int (nI r), .int (nI sb)] B I J P (some (.long (Int64.ofInt (sp_ov sb (min q r) (max q r) : Nat))), B, I, J, P) := by
  unfold sp_ov
  refine ct_of (lv := [some (.int (nI q)), some (.int (nI r)), some (.int (nI sb)), none, none, none]) (by decide +kernel) (Nat.le_of_ble_eq_true rfl) rfl ?_
  refine ev_lconst 1 (v := 0) dX12_shared_0 (by decide +kernel) rfl ?_
  refine ev_lstore_n 2 (lv' := [_, _, some (.int _), _, _, _]) dX12_shared_1 (Nat.le_of_ble_eq_true rfl) rfl rfl ?_
  refine ev_iload_n 3 dX12_shared_2 rfl rfl ?_
  refine ev_iload_n 4 dX12_shared_3 rfl rfl ?_
  refine ev_icmp_leN 7 11 dX12_shared_4 (by decide) (by omega) (by omega) rfl (fun c => ?_) (fun c => ?_)
  · rw [show min q r = q by omega, show max q r = r by omega]
    refine ev_iload_n 12 dX12_shared_11 rfl rfl ?_
    refine ev_istore 14 (lv' := [_, _, _, _, none, _]) dX12_shared_12 (Nat.le_of_ble_eq_true rfl) rfl rfl ?_
    refine ev_iload 16 dX12_shared_14 rfl rfl ?_
    refine ev_iload_n 17 dX12_shared_16 rfl rfl ?_
    refine ev_icmp_geN 20 61 dX12_shared_17 (by decide) (by omega) (by omega) rfl (fun hx => absurd hx ((by omega))) (fun hbr => ?_)
    refine ev_iload 22 dX12_shared_20 rfl rfl ?_
    refine ev_iload_n 23 dX12_shared_22 rfl rfl ?_
    refine ev_iconstN 24 3 dX12_shared_23 rfl ?_
    refine ev_iaddN 25 dX12_shared_24 rfl ?_
    by_cases c1 : r = q + 1
    · rw [if_pos c1]
      subst c1
      refine ev_icmp_geN 28 61 dX12_shared_25 (by decide) (by omega) (by omega) rfl (fun hx => absurd hx ((by omega))) (fun hbr => ?_)
      refine ev_iload 30 dX12_shared_28 rfl rfl ?_
      refine ev_iload_n 31 dX12_shared_30 rfl rfl ?_
      refine ev_iconstN 32 3 dX12_shared_31 rfl ?_
      refine ev_iaddN 33 dX12_shared_32 rfl ?_
      refine ev_icmp_geN 36 61 dX12_shared_33 (by decide) (by omega) (by omega) rfl (fun hx => absurd hx ((by omega))) (fun hbr => ?_)
      refine ev_lload_n 37 dX12_shared_36 rfl rfl ?_
      refine ev_iload 39 dX12_shared_37 rfl rfl ?_
      refine ev_iload_n 40 dX12_shared_39 rfl rfl ?_
      refine ev_isubN 41 dX12_shared_40 (by omega) rfl ?_
      rw [Nat.add_sub_cancel_left]
      refine ev_invS 44 (Mc := mX12_pulse) ⟨lk1669, lk80, hdX12_pulse, (Nat.le_of_ble_eq_true rfl), (Nat.le_of_ble_eq_true rfl)⟩ lk1667 lk1668 dX12_shared_41 (ct_X12_pulse (by omega)) rfl (Nat.le_of_ble_eq_true rfl) rfl rfl ?_
      refine ev_iload 46 dX12_shared_44 rfl rfl ?_
      refine ev_iload_n 47 dX12_shared_46 rfl rfl ?_
      refine ev_isubN 48 dX12_shared_47 (by omega) rfl ?_
      rw [Nat.sub_self]
      refine ev_invS 51 (Mc := mX12_pulse) ⟨lk1669, lk80, hdX12_pulse, (Nat.le_of_ble_eq_true rfl), (Nat.le_of_ble_eq_true rfl)⟩ lk1667 lk1668 dX12_shared_48 (ct_X12_pulse (by omega)) rfl (Nat.le_of_ble_eq_true rfl) rfl rfl ?_
      refine ev_imul 52 dX12_shared_51 rfl ?_
      refine ev_i2l 53 dX12_shared_52 rfl ?_
      refine ev_ladd 54 dX12_shared_53 rfl ?_
      refine ev_lstore_n 55 (lv' := [_, _, some (.int _), _, _, _]) dX12_shared_54 (Nat.le_of_ble_eq_true rfl) rfl rfl ?_
      refine ev_iincN 58 (lv' := [_, _, _, _, none, _]) 1 dX12_shared_55 rfl (Nat.le_of_ble_eq_true rfl) rfl rfl ?_
      refine ev_goto 14 dX12_shared_58 (by decide) ?_
      refine ev_iload 16 dX12_shared_14 rfl rfl ?_
      refine ev_iload_n 17 dX12_shared_16 rfl rfl ?_
      refine ev_icmp_geN 20 61 dX12_shared_17 (by decide) (by omega) (by omega) rfl (fun c2 => ?_) (fun c2 => ?_)
      · rw [if_neg (by omega)]
        refine ev_lload_n 62 dX12_shared_61 rfl rfl ?_
        exact ev_lret dX12_shared_62 rfl ((by rw [show 0 + (sp_ph 1 * sp_ph 0).toInt64 = Int64.ofInt ((512 : Nat) : Int) by decide +kernel]))
      · rw [if_pos (by omega)]
        refine ev_iload 22 dX12_shared_20 rfl rfl ?_
        refine ev_iload_n 23 dX12_shared_22 rfl rfl ?_
        refine ev_iconstN 24 3 dX12_shared_23 rfl ?_
        refine ev_iaddN 25 dX12_shared_24 rfl ?_
        refine ev_icmp_geN 28 61 dX12_shared_25 (by decide) (by omega) (by omega) rfl (fun hx => absurd hx ((by omega))) (fun hbr => ?_)
        refine ev_iload 30 dX12_shared_28 rfl rfl ?_
        refine ev_iload_n 31 dX12_shared_30 rfl rfl ?_
        refine ev_iconstN 32 3 dX12_shared_31 rfl ?_
        refine ev_iaddN 33 dX12_shared_32 rfl ?_
        refine ev_icmp_geN 36 61 dX12_shared_33 (by decide) (by omega) (by omega) rfl (fun hx => absurd hx ((by omega))) (fun hbr => ?_)
        refine ev_lload_n 37 dX12_shared_36 rfl rfl ?_
        refine ev_iload 39 dX12_shared_37 rfl rfl ?_
        refine ev_iload_n 40 dX12_shared_39 rfl rfl ?_
        refine ev_isubN 41 dX12_shared_40 (by omega) rfl ?_
        rw [show q + 1 + 1 - q = 2 by omega]
        refine ev_invS 44 (Mc := mX12_pulse) ⟨lk1669, lk80, hdX12_pulse, (Nat.le_of_ble_eq_true rfl), (Nat.le_of_ble_eq_true rfl)⟩ lk1667 lk1668 dX12_shared_41 (ct_X12_pulse (by omega)) rfl (Nat.le_of_ble_eq_true rfl) rfl rfl ?_
        refine ev_iload 46 dX12_shared_44 rfl rfl ?_
        refine ev_iload_n 47 dX12_shared_46 rfl rfl ?_
        refine ev_isubN 48 dX12_shared_47 (by omega) rfl ?_
        rw [show q + 1 + 1 - (q + 1) = 1 by omega]
        refine ev_invS 51 (Mc := mX12_pulse) ⟨lk1669, lk80, hdX12_pulse, (Nat.le_of_ble_eq_true rfl), (Nat.le_of_ble_eq_true rfl)⟩ lk1667 lk1668 dX12_shared_48 (ct_X12_pulse (by omega)) rfl (Nat.le_of_ble_eq_true rfl) rfl rfl ?_
        refine ev_imul 52 dX12_shared_51 rfl ?_
        refine ev_i2l 53 dX12_shared_52 rfl ?_
        refine ev_ladd 54 dX12_shared_53 rfl ?_
        refine ev_lstore_n 55 (lv' := [_, _, some (.int _), _, _, _]) dX12_shared_54 (Nat.le_of_ble_eq_true rfl) rfl rfl ?_
        refine ev_iincN 58 (lv' := [_, _, _, _, none, _]) 1 dX12_shared_55 rfl (Nat.le_of_ble_eq_true rfl) rfl rfl ?_
        refine ev_goto 14 dX12_shared_58 (by decide) ?_
        rw [show 0 + (sp_ph 1 * sp_ph 0).toInt64 + (sp_ph 2 * sp_ph 1).toInt64 = Int64.ofInt ((384 : Nat) : Int) by decide +kernel]
        refine ev_iload 16 dX12_shared_14 rfl rfl ?_
        refine ev_iload_n 17 dX12_shared_16 rfl rfl ?_
        refine ev_icmp_geN 20 61 dX12_shared_17 (by decide) (by omega) (by omega) rfl (fun c3 => ?_) (fun c3 => ?_)
        · refine ev_lload_n 62 dX12_shared_61 rfl rfl ?_
          exact ev_lret dX12_shared_62 rfl (rfl)
        · refine ev_iload 22 dX12_shared_20 rfl rfl ?_
          refine ev_iload_n 23 dX12_shared_22 rfl rfl ?_
          refine ev_iconstN 24 3 dX12_shared_23 rfl ?_
          refine ev_iaddN 25 dX12_shared_24 rfl ?_
          refine ev_icmp_geN 28 61 dX12_shared_25 (by decide) (by omega) (by omega) rfl (fun hbr => ?_) (fun hx => absurd ((by omega)) hx)
          refine ev_lload_n 62 dX12_shared_61 rfl rfl ?_
          exact ev_lret dX12_shared_62 rfl (rfl)
    · rw [if_neg c1]
      refine ev_icmp_geN 28 61 dX12_shared_25 (by decide) (by omega) (by omega) rfl (fun hbr => ?_) (fun hx => absurd ((by omega)) hx)
      refine ev_lload_n 62 dX12_shared_61 rfl rfl ?_
      exact ev_lret dX12_shared_62 rfl (rfl)
  · rw [show min q r = r by omega, show max q r = q by omega]
    refine ev_iload_n 8 dX12_shared_7 rfl rfl ?_
    refine ev_goto 12 dX12_shared_8 (by decide) ?_
    refine ev_istore 14 (lv' := [_, _, _, _, none, _]) dX12_shared_12 (Nat.le_of_ble_eq_true rfl) rfl rfl ?_
    refine ev_iload 16 dX12_shared_14 rfl rfl ?_
    refine ev_iload_n 17 dX12_shared_16 rfl rfl ?_
    refine ev_icmp_geN 20 61 dX12_shared_17 (by decide) (by omega) (by omega) rfl (fun hx => absurd hx ((by omega))) (fun hbr => ?_)
    refine ev_iload 22 dX12_shared_20 rfl rfl ?_
    refine ev_iload_n 23 dX12_shared_22 rfl rfl ?_
    refine ev_iconstN 24 3 dX12_shared_23 rfl ?_
    refine ev_iaddN 25 dX12_shared_24 rfl ?_
    refine ev_icmp_geN 28 61 dX12_shared_25 (by decide) (by omega) (by omega) rfl (fun hx => absurd hx ((by omega))) (fun hbr => ?_)
    refine ev_iload 30 dX12_shared_28 rfl rfl ?_
    refine ev_iload_n 31 dX12_shared_30 rfl rfl ?_
    refine ev_iconstN 32 3 dX12_shared_31 rfl ?_
    refine ev_iaddN 33 dX12_shared_32 rfl ?_
    by_cases c1 : q = r + 1
    · rw [if_pos c1]
      subst c1
      refine ev_icmp_geN 36 61 dX12_shared_33 (by decide) (by omega) (by omega) rfl (fun hx => absurd hx ((by omega))) (fun hbr => ?_)
      refine ev_lload_n 37 dX12_shared_36 rfl rfl ?_
      refine ev_iload 39 dX12_shared_37 rfl rfl ?_
      refine ev_iload_n 40 dX12_shared_39 rfl rfl ?_
      refine ev_isubN 41 dX12_shared_40 (by omega) rfl ?_
      rw [Nat.sub_self]
      refine ev_invS 44 (Mc := mX12_pulse) ⟨lk1669, lk80, hdX12_pulse, (Nat.le_of_ble_eq_true rfl), (Nat.le_of_ble_eq_true rfl)⟩ lk1667 lk1668 dX12_shared_41 (ct_X12_pulse (by omega)) rfl (Nat.le_of_ble_eq_true rfl) rfl rfl ?_
      refine ev_iload 46 dX12_shared_44 rfl rfl ?_
      refine ev_iload_n 47 dX12_shared_46 rfl rfl ?_
      refine ev_isubN 48 dX12_shared_47 (by omega) rfl ?_
      rw [Nat.add_sub_cancel_left]
      refine ev_invS 51 (Mc := mX12_pulse) ⟨lk1669, lk80, hdX12_pulse, (Nat.le_of_ble_eq_true rfl), (Nat.le_of_ble_eq_true rfl)⟩ lk1667 lk1668 dX12_shared_48 (ct_X12_pulse (by omega)) rfl (Nat.le_of_ble_eq_true rfl) rfl rfl ?_
      refine ev_imul 52 dX12_shared_51 rfl ?_
      refine ev_i2l 53 dX12_shared_52 rfl ?_
      refine ev_ladd 54 dX12_shared_53 rfl ?_
      refine ev_lstore_n 55 (lv' := [_, _, some (.int _), _, _, _]) dX12_shared_54 (Nat.le_of_ble_eq_true rfl) rfl rfl ?_
      refine ev_iincN 58 (lv' := [_, _, _, _, none, _]) 1 dX12_shared_55 rfl (Nat.le_of_ble_eq_true rfl) rfl rfl ?_
      refine ev_goto 14 dX12_shared_58 (by decide) ?_
      refine ev_iload 16 dX12_shared_14 rfl rfl ?_
      refine ev_iload_n 17 dX12_shared_16 rfl rfl ?_
      refine ev_icmp_geN 20 61 dX12_shared_17 (by decide) (by omega) (by omega) rfl (fun c2 => ?_) (fun c2 => ?_)
      · rw [if_neg (by omega)]
        refine ev_lload_n 62 dX12_shared_61 rfl rfl ?_
        exact ev_lret dX12_shared_62 rfl ((by rw [show 0 + (sp_ph 0 * sp_ph 1).toInt64 = Int64.ofInt ((512 : Nat) : Int) by decide +kernel]))
      · rw [if_pos (by omega)]
        refine ev_iload 22 dX12_shared_20 rfl rfl ?_
        refine ev_iload_n 23 dX12_shared_22 rfl rfl ?_
        refine ev_iconstN 24 3 dX12_shared_23 rfl ?_
        refine ev_iaddN 25 dX12_shared_24 rfl ?_
        refine ev_icmp_geN 28 61 dX12_shared_25 (by decide) (by omega) (by omega) rfl (fun hx => absurd hx ((by omega))) (fun hbr => ?_)
        refine ev_iload 30 dX12_shared_28 rfl rfl ?_
        refine ev_iload_n 31 dX12_shared_30 rfl rfl ?_
        refine ev_iconstN 32 3 dX12_shared_31 rfl ?_
        refine ev_iaddN 33 dX12_shared_32 rfl ?_
        refine ev_icmp_geN 36 61 dX12_shared_33 (by decide) (by omega) (by omega) rfl (fun hx => absurd hx ((by omega))) (fun hbr => ?_)
        refine ev_lload_n 37 dX12_shared_36 rfl rfl ?_
        refine ev_iload 39 dX12_shared_37 rfl rfl ?_
        refine ev_iload_n 40 dX12_shared_39 rfl rfl ?_
        refine ev_isubN 41 dX12_shared_40 (by omega) rfl ?_
        rw [show r + 1 + 1 - (r + 1) = 1 by omega]
        refine ev_invS 44 (Mc := mX12_pulse) ⟨lk1669, lk80, hdX12_pulse, (Nat.le_of_ble_eq_true rfl), (Nat.le_of_ble_eq_true rfl)⟩ lk1667 lk1668 dX12_shared_41 (ct_X12_pulse (by omega)) rfl (Nat.le_of_ble_eq_true rfl) rfl rfl ?_
        refine ev_iload 46 dX12_shared_44 rfl rfl ?_
        refine ev_iload_n 47 dX12_shared_46 rfl rfl ?_
        refine ev_isubN 48 dX12_shared_47 (by omega) rfl ?_
        rw [show r + 1 + 1 - r = 2 by omega]
        refine ev_invS 51 (Mc := mX12_pulse) ⟨lk1669, lk80, hdX12_pulse, (Nat.le_of_ble_eq_true rfl), (Nat.le_of_ble_eq_true rfl)⟩ lk1667 lk1668 dX12_shared_48 (ct_X12_pulse (by omega)) rfl (Nat.le_of_ble_eq_true rfl) rfl rfl ?_
        refine ev_imul 52 dX12_shared_51 rfl ?_
        refine ev_i2l 53 dX12_shared_52 rfl ?_
        refine ev_ladd 54 dX12_shared_53 rfl ?_
        refine ev_lstore_n 55 (lv' := [_, _, some (.int _), _, _, _]) dX12_shared_54 (Nat.le_of_ble_eq_true rfl) rfl rfl ?_
        refine ev_iincN 58 (lv' := [_, _, _, _, none, _]) 1 dX12_shared_55 rfl (Nat.le_of_ble_eq_true rfl) rfl rfl ?_
        refine ev_goto 14 dX12_shared_58 (by decide) ?_
        rw [show 0 + (sp_ph 0 * sp_ph 1).toInt64 + (sp_ph 1 * sp_ph 2).toInt64 = Int64.ofInt ((384 : Nat) : Int) by decide +kernel]
        refine ev_iload 16 dX12_shared_14 rfl rfl ?_
        refine ev_iload_n 17 dX12_shared_16 rfl rfl ?_
        refine ev_icmp_geN 20 61 dX12_shared_17 (by decide) (by omega) (by omega) rfl (fun c3 => ?_) (fun c3 => ?_)
        · refine ev_lload_n 62 dX12_shared_61 rfl rfl ?_
          exact ev_lret dX12_shared_62 rfl (rfl)
        · refine ev_iload 22 dX12_shared_20 rfl rfl ?_
          refine ev_iload_n 23 dX12_shared_22 rfl rfl ?_
          refine ev_iconstN 24 3 dX12_shared_23 rfl ?_
          refine ev_iaddN 25 dX12_shared_24 rfl ?_
          refine ev_icmp_geN 28 61 dX12_shared_25 (by decide) (by omega) (by omega) rfl (fun hx => absurd hx ((by omega))) (fun hbr => ?_)
          refine ev_iload 30 dX12_shared_28 rfl rfl ?_
          refine ev_iload_n 31 dX12_shared_30 rfl rfl ?_
          refine ev_iconstN 32 3 dX12_shared_31 rfl ?_
          refine ev_iaddN 33 dX12_shared_32 rfl ?_
          refine ev_icmp_geN 36 61 dX12_shared_33 (by decide) (by omega) (by omega) rfl (fun hbr => ?_) (fun hx => absurd ((by omega)) hx)
          refine ev_lload_n 62 dX12_shared_61 rfl rfl ?_
          exact ev_lret dX12_shared_62 rfl (rfl)
    · rw [if_neg c1]
      refine ev_icmp_geN 36 61 dX12_shared_33 (by decide) (by omega) (by omega) rfl (fun hbr => ?_) (fun hx => absurd ((by omega)) hx)
      refine ev_lload_n 62 dX12_shared_61 rfl rfl ?_
      exact ev_lret dX12_shared_62 rfl (rfl)
end MOB
