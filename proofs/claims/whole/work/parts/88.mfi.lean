/-! filters, the model's -/
section MFI
variable {g : mm_G} {B : mm_B} {I : mm_TI} {J : mm_TJ} {P : mm_TP} {m : Nat}
theorem lp_X12_fi1 {c at_ N z : Nat} {ga : Int32} {Y : Nat → Int32} (hM : lyM B P m) (hc8 : c < 8) (hat : at_ < 32) (hz : z < 2 ^ 31) (hN : N ≤ 320) (hga : I (m + 35) c = ga) (hY : I (m + 54) = Y) : ∀ (d n : Nat), n + d = N →
    Ev g mX12_filter 37 [some (.ref m), some (.int (nI c)), some (.int (nI at_)), some (.int (nI N)), some (.int (nI 1)), some (.int (nI n)), none, none, none] [] B (va_up (va_up I (m + 54) (sgp Y 0 n (nzY z (ga >>> (nI 4 &&& 31)) Y))) (m + 49) (va_up (I (m + 49)) at_ (nI (sp_dz z n)))) (sp_up J m 2 (nzT z (ga >>> (nI 4 &&& 31)) Y n)) P
      (none, B, va_up (va_up I (m + 54) (sgp Y 0 N (nzY z (ga >>> (nI 4 &&& 31)) Y))) (m + 49) (va_up (I (m + 49)) at_ (nI (sp_dz z N))), sp_up J m 2 (nzT z (ga >>> (nI 4 &&& 31)) Y N), P) := by
  intro d
  induction d with
  | zero =>
    intro n hn
    obtain rfl : n = N := by omega
    refine ev_iload 39 dX12_filter_37 rfl rfl ?_
    refine ev_iload_n 40 dX12_filter_39 rfl rfl ?_
    refine ev_icmp_geN 43 311 dX12_filter_40 (by decide) (by omega) (by omega) rfl (fun hbr => ?_) (fun hx => absurd ((by omega)) hx)
    exact ev_vret dX12_filter_311 rfl (rfl)
  | succ d ih =>
    intro n hn
    have e := ih (n + 1) (by omega)
    generalize hst : ga >>> (nI 4 &&& 31) = st at e ⊢
    rw [← sg0_grow (w := nzY z st Y n) rfl, show nzT z st Y (n + 1) = nzT z st Y n + sp_t (nzw z st Y n) from rfl, show sp_dz z (n + 1) = sp_dn (sp_dz z n) from rfl, ← sp_up_up] at e
    refine ev_iload 39 dX12_filter_37 rfl rfl ?_
    refine ev_iload_n 40 dX12_filter_39 rfl rfl ?_
    refine ev_icmp_geN 43 311 dX12_filter_40 (by decide) (by omega) (by omega) rfl (fun hx => absurd hx ((by omega))) (fun hbr => ?_)
    refine ev_iload 45 dX12_filter_43 rfl rfl ?_
    refine ev_if_leN 48 311 dX12_filter_45 (by decide) (by omega) rfl (fun hx => absurd hx ((by omega))) (fun hbr => ?_)
    refine ev_aload_n 49 dX12_filter_48 rfl rfl ?_
    refine ev_getP 52 mm_cl12 (j := 60) (Nat.le_of_ble_eq_true rfl) dX12_filter_49 lk1345 (fun _ _ _ => rfl) (hM.1 0 _ rfl) (a := (m + 54)) (hM.2.2 53 _ _ _ rfl) rfl ?_
    refine ev_iload 54 dX12_filter_52 rfl rfl ?_
    refine ev_iald 55 _ dX12_filter_54 (hM.1 54 _ rfl) rfl (by have hNN := hM.2.1 54 _ rfl; omega) rfl ?_
    refine ev_eqI (y := (Y n)) ((by rw [va_up_n _ _ (by omega), va_up_s, sgp_out (by omega)])) ?_
    refine ev_istore 57 (lv' := [_, _, _, _, _, some (.int _), _, _, _]) dX12_filter_55 (Nat.le_of_ble_eq_true rfl) rfl rfl ?_
    refine ev_iload 59 dX12_filter_57 rfl rfl ?_
    refine ev_iconstN 60 1 dX12_filter_59 rfl ?_
    refine ev_icmp_neN 63 112 dX12_filter_60 (by decide) (by omega) (by omega) rfl (fun hx => absurd ((by omega)) hx) (fun hbr => ?_)
    refine ev_aload_n 64 dX12_filter_63 rfl rfl ?_
    refine ev_getP 67 mm_cl12 (j := 55) (Nat.le_of_ble_eq_true rfl) dX12_filter_64 lk1340 (fun _ _ _ => rfl) (hM.1 0 _ rfl) (a := (m + 49)) (hM.2.2 48 _ _ _ rfl) rfl ?_
    refine ev_iload_n 68 dX12_filter_67 rfl rfl ?_
    refine ev_aload_n 69 dX12_filter_68 rfl rfl ?_
    refine ev_getP 72 mm_cl12 (j := 55) (Nat.le_of_ble_eq_true rfl) dX12_filter_69 lk1340 (fun _ _ _ => rfl) (hM.1 0 _ rfl) (a := (m + 49)) (hM.2.2 48 _ _ _ rfl) rfl ?_
    refine ev_iload_n 73 dX12_filter_72 rfl rfl ?_
    refine ev_iald 74 _ dX12_filter_73 (hM.1 49 _ rfl) rfl (by have hNN := hM.2.1 49 _ rfl; omega) rfl ?_
    refine ev_eqI (y := nI ((sp_dz z n))) ((by rw [va_up_s, va_up_s])) ?_
    refine ev_invS 77 (Mc := mX12_drawn) ⟨lk1585, lk80, hdX12_drawn, (Nat.le_of_ble_eq_true rfl), (Nat.le_of_ble_eq_true rfl)⟩ lk1583 lk1584 dX12_filter_74 (ct_X12_drawn (sp_dz_lt hz n)) rfl (Nat.le_of_ble_eq_true rfl) rfl rfl ?_
    refine ev_iast 78 _ dX12_filter_77 (hM.1 49 _ rfl) rfl (by have hNN := hM.2.1 49 _ rfl; omega) rfl ?_
    rw [va_up_s, bx_uu, bx_uu]
    refine ev_aload_n 79 dX12_filter_78 rfl rfl ?_
    refine ev_iload 81 dX12_filter_79 rfl rfl ?_
    refine ev_aload_n 82 dX12_filter_81 rfl rfl ?_
    refine ev_getP 85 mm_cl12 (j := 55) (Nat.le_of_ble_eq_true rfl) dX12_filter_82 lk1340 (fun _ _ _ => rfl) (hM.1 0 _ rfl) (a := (m + 49)) (hM.2.2 48 _ _ _ rfl) rfl ?_
    refine ev_iload_n 86 dX12_filter_85 rfl rfl ?_
    refine ev_iald 87 _ dX12_filter_86 (hM.1 49 _ rfl) rfl (by have hNN := hM.2.1 49 _ rfl; omega) rfl ?_
    refine ev_eqI (y := nI ((sp_dn (sp_dz z n)))) ((by rw [va_up_s, va_up_s])) ?_
    refine ev_invS 90 (Mc := mX12_told8) ⟨lk1591, lk80, hdX12_told8, (Nat.le_of_ble_eq_true rfl), (Nat.le_of_ble_eq_true rfl)⟩ lk1589 lk1590 dX12_filter_87 (ct_X12_told8 (sp_dn_lt _)) rfl (Nat.le_of_ble_eq_true rfl) rfl rfl ?_
    refine ev_aload_n 91 dX12_filter_90 rfl rfl ?_
    refine ev_getP 94 mm_cl12 (j := 41) (Nat.le_of_ble_eq_true rfl) dX12_filter_91 lk1326 (fun _ _ _ => rfl) (hM.1 0 _ rfl) (a := (m + 35)) (hM.2.2 34 _ _ _ rfl) rfl ?_
    refine ev_iload_n 95 dX12_filter_94 rfl rfl ?_
    refine ev_iald 96 _ dX12_filter_95 (hM.1 35 _ rfl) rfl (by have hNN := hM.2.1 35 _ rfl; omega) rfl ?_
    refine ev_eqI (y := (ga)) ((by rw [va_up_n _ _ (by omega), va_up_n _ _ (by omega)]; exact hga)) ?_
    refine ev_iconstN 97 4 dX12_filter_96 rfl ?_
    refine ev_ishr 98 dX12_filter_97 rfl ?_
    refine ev_eqI (y := (st)) (hst) ?_
    refine ev_imul 99 dX12_filter_98 rfl ?_
    refine ev_bipushN 101 8 dX12_filter_99 (by decide +kernel) rfl ?_
    refine ev_ishr 102 dX12_filter_101 rfl ?_
    refine ev_iadd 103 dX12_filter_102 rfl ?_
    refine ev_i2l 104 dX12_filter_103 rfl ?_
    refine ev_invV 107 (Mc := mX12_sample16) ⟨lk1608, lk80, hdX12_sample16, (Nat.le_of_ble_eq_true rfl), (Nat.le_of_ble_eq_true rfl)⟩ lk1605 lk1607 lk42 mm_cl12 rfl dX12_filter_104 (ct_X12_sample16 hM) rfl (hM.1 0 _ rfl) (Nat.le_of_ble_eq_true rfl) rfl rfl ?_
    refine ev_istore 109 (lv' := [_, _, _, _, _, some (.int _), _, _, _]) dX12_filter_107 (Nat.le_of_ble_eq_true rfl) rfl rfl ?_
    refine ev_goto 296 dX12_filter_109 (by decide) ?_
    refine ev_aload_n 297 dX12_filter_296 rfl rfl ?_
    refine ev_getP 300 mm_cl12 (j := 60) (Nat.le_of_ble_eq_true rfl) dX12_filter_297 lk1345 (fun _ _ _ => rfl) (hM.1 0 _ rfl) (a := (m + 54)) (hM.2.2 53 _ _ _ rfl) rfl ?_
    refine ev_iload 302 dX12_filter_300 rfl rfl ?_
    refine ev_iload 304 dX12_filter_302 rfl rfl ?_
    refine ev_iast 305 _ dX12_filter_304 (hM.1 54 _ rfl) rfl (by have hNN := hM.2.1 54 _ rfl; omega) rfl ?_
    rw [va_3 I (a := m + 54) (b := m + 49) _ _ _ (by omega), va_up_n _ _ (show m + 54 ≠ m + 49 by omega), va_up_s]
    refine ev_iincN 308 (lv' := [_, _, _, _, some (.int _), _, _, _, _]) 1 dX12_filter_305 rfl (Nat.le_of_ble_eq_true rfl) rfl rfl ?_
    refine ev_goto 37 dX12_filter_308 (by decide) ?_
    refine ev_le (mle_s (mle_s (mle_s (mle_s (mle_s (mle_s (mle_n (mle_n (mle_n (mle_0)))))))))) ?_
    exact e
theorem lp_X12_fi2 {c at_ N : Nat} {c0 : Int32} {Y : Nat → Int32} (hM : lyM B P m) (hc8 : c < 8) (hat : at_ < 32) (hN : N ≤ 320) (hY : I (m + 54) = Y) : ∀ (d n : Nat), n + d = N →
    Ev g mX12_filter 37 [some (.ref m), some (.int (nI c)), some (.int (nI at_)), some (.int (nI N)), some (.int (nI 2)), some (.int (nI n)), none, none, none] [] B (va_up (va_up I (m + 54) (sgp Y 0 n (tlY c0 Y))) (m + 50) (va_up (I (m + 50)) at_ (if n = 0 then c0 else Y (n - 1)))) (sp_up J m 2 (tlT c0 Y n)) P
      (none, B, va_up (va_up I (m + 54) (sgp Y 0 N (tlY c0 Y))) (m + 50) (va_up (I (m + 50)) at_ (if N = 0 then c0 else Y (N - 1))), sp_up J m 2 (tlT c0 Y N), P) := by
  intro d
  induction d with
  | zero =>
    intro n hn
    obtain rfl : n = N := by omega
    refine ev_iload 39 dX12_filter_37 rfl rfl ?_
    refine ev_iload_n 40 dX12_filter_39 rfl rfl ?_
    refine ev_icmp_geN 43 311 dX12_filter_40 (by decide) (by omega) (by omega) rfl (fun hbr => ?_) (fun hx => absurd ((by omega)) hx)
    exact ev_vret dX12_filter_311 rfl (rfl)
  | succ d ih =>
    intro n hn
    have e := ih (n + 1) (by omega)
    rw [← sg0_grow (w := tlY c0 Y n) rfl, show tlT c0 Y (n + 1) = tlT c0 Y n + sp_t (tlw c0 Y n) from rfl, ← sp_up_up, if_neg (show ¬ n + 1 = 0 by omega), show n + 1 - 1 = n from rfl] at e
    refine ev_iload 39 dX12_filter_37 rfl rfl ?_
    refine ev_iload_n 40 dX12_filter_39 rfl rfl ?_
    refine ev_icmp_geN 43 311 dX12_filter_40 (by decide) (by omega) (by omega) rfl (fun hx => absurd hx ((by omega))) (fun hbr => ?_)
    refine ev_iload 45 dX12_filter_43 rfl rfl ?_
    refine ev_if_leN 48 311 dX12_filter_45 (by decide) (by omega) rfl (fun hx => absurd hx ((by omega))) (fun hbr => ?_)
    refine ev_aload_n 49 dX12_filter_48 rfl rfl ?_
    refine ev_getP 52 mm_cl12 (j := 60) (Nat.le_of_ble_eq_true rfl) dX12_filter_49 lk1345 (fun _ _ _ => rfl) (hM.1 0 _ rfl) (a := (m + 54)) (hM.2.2 53 _ _ _ rfl) rfl ?_
    refine ev_iload 54 dX12_filter_52 rfl rfl ?_
    refine ev_iald 55 _ dX12_filter_54 (hM.1 54 _ rfl) rfl (by have hNN := hM.2.1 54 _ rfl; omega) rfl ?_
    refine ev_eqI (y := (Y n)) ((by rw [va_up_n _ _ (by omega), va_up_s, sgp_out (by omega)])) ?_
    refine ev_istore 57 (lv' := [_, _, _, _, _, some (.int _), _, _, _]) dX12_filter_55 (Nat.le_of_ble_eq_true rfl) rfl rfl ?_
    refine ev_iload 59 dX12_filter_57 rfl rfl ?_
    refine ev_iconstN 60 1 dX12_filter_59 rfl ?_
    refine ev_icmp_neN 63 112 dX12_filter_60 (by decide) (by omega) (by omega) rfl (fun hbr => ?_) (fun hx => absurd hx ((by omega)))
    refine ev_iload 114 dX12_filter_112 rfl rfl ?_
    refine ev_iconstN 115 4 dX12_filter_114 rfl ?_
    refine ev_icmp_neN 118 152 dX12_filter_115 (by decide) (by omega) (by omega) rfl (fun hbr => ?_) (fun hx => absurd hx ((by omega)))
    refine ev_iload 154 dX12_filter_152 rfl rfl ?_
    refine ev_istore 156 (lv' := [_, _, _, _, _, _, some (.int _), _, _]) dX12_filter_154 (Nat.le_of_ble_eq_true rfl) rfl rfl ?_
    refine ev_aload_n 157 dX12_filter_156 rfl rfl ?_
    refine ev_iload 159 dX12_filter_157 rfl rfl ?_
    refine ev_i2l 160 dX12_filter_159 rfl ?_
    refine ev_aload_n 161 dX12_filter_160 rfl rfl ?_
    refine ev_getP 164 mm_cl12 (j := 56) (Nat.le_of_ble_eq_true rfl) dX12_filter_161 lk1341 (fun _ _ _ => rfl) (hM.1 0 _ rfl) (a := (m + 50)) (hM.2.2 49 _ _ _ rfl) rfl ?_
    refine ev_iload_n 165 dX12_filter_164 rfl rfl ?_
    refine ev_iald 166 _ dX12_filter_165 (hM.1 50 _ rfl) rfl (by have hNN := hM.2.1 50 _ rfl; omega) rfl ?_
    refine ev_eqI (y := (if n = 0 then c0 else Y (n - 1))) ((by rw [va_up_s, va_up_s])) ?_
    refine ev_i2l 167 dX12_filter_166 rfl ?_
    refine ev_ldc2 170 dX12_filter_167 lk1818 rfl ?_
    refine ev_invS 173 (Mc := mX12_half) ⟨lk1603, lk80, hdX12_half, (Nat.le_of_ble_eq_true rfl), (Nat.le_of_ble_eq_true rfl)⟩ lk1601 lk1602 dX12_filter_170 (ct_X12_half) rfl (Nat.le_of_ble_eq_true rfl) rfl rfl ?_
    refine ev_lsub 174 dX12_filter_173 rfl ?_
    refine ev_invV 177 (Mc := mX12_sample16) ⟨lk1608, lk80, hdX12_sample16, (Nat.le_of_ble_eq_true rfl), (Nat.le_of_ble_eq_true rfl)⟩ lk1605 lk1607 lk42 mm_cl12 rfl dX12_filter_174 (ct_X12_sample16 hM) rfl (hM.1 0 _ rfl) (Nat.le_of_ble_eq_true rfl) rfl rfl ?_
    refine ev_istore 179 (lv' := [_, _, _, _, _, some (.int _), _, _, _]) dX12_filter_177 (Nat.le_of_ble_eq_true rfl) rfl rfl ?_
    refine ev_aload_n 180 dX12_filter_179 rfl rfl ?_
    refine ev_getP 183 mm_cl12 (j := 56) (Nat.le_of_ble_eq_true rfl) dX12_filter_180 lk1341 (fun _ _ _ => rfl) (hM.1 0 _ rfl) (a := (m + 50)) (hM.2.2 49 _ _ _ rfl) rfl ?_
    refine ev_iload_n 184 dX12_filter_183 rfl rfl ?_
    refine ev_iload 186 dX12_filter_184 rfl rfl ?_
    refine ev_iast 187 _ dX12_filter_186 (hM.1 50 _ rfl) rfl (by have hNN := hM.2.1 50 _ rfl; omega) rfl ?_
    rw [va_up_s, bx_uu, bx_uu]
    refine ev_iload 189 dX12_filter_187 rfl rfl ?_
    refine ev_iconstN 190 3 dX12_filter_189 rfl ?_
    refine ev_icmp_neN 193 296 dX12_filter_190 (by decide) (by omega) (by omega) rfl (fun hbr => ?_) (fun hx => absurd hx ((by omega)))
    refine ev_aload_n 297 dX12_filter_296 rfl rfl ?_
    refine ev_getP 300 mm_cl12 (j := 60) (Nat.le_of_ble_eq_true rfl) dX12_filter_297 lk1345 (fun _ _ _ => rfl) (hM.1 0 _ rfl) (a := (m + 54)) (hM.2.2 53 _ _ _ rfl) rfl ?_
    refine ev_iload 302 dX12_filter_300 rfl rfl ?_
    refine ev_iload 304 dX12_filter_302 rfl rfl ?_
    refine ev_iast 305 _ dX12_filter_304 (hM.1 54 _ rfl) rfl (by have hNN := hM.2.1 54 _ rfl; omega) rfl ?_
    rw [va_3 I (a := m + 54) (b := m + 50) _ _ _ (by omega), va_up_n _ _ (show m + 54 ≠ m + 50 by omega), va_up_s]
    refine ev_iincN 308 (lv' := [_, _, _, _, some (.int _), _, _, _, _]) 1 dX12_filter_305 rfl (Nat.le_of_ble_eq_true rfl) rfl rfl ?_
    refine ev_goto 37 dX12_filter_308 (by decide) ?_
    refine ev_le (mle_s (mle_s (mle_s (mle_s (mle_s (mle_s (mle_n (mle_n (mle_n (mle_0)))))))))) ?_
    exact e
theorem lp_X12_fi4 {c at_ N : Nat} {g0 : Int32} {Y : Nat → Int32} (hM : lyM B P m) (hc8 : c < 8) (hat : at_ < 32) (hN : N ≤ 320) (hY : I (m + 54) = Y) : ∀ (d n : Nat), n + d = N →
    Ev g mX12_filter 37 [some (.ref m), some (.int (nI c)), some (.int (nI at_)), some (.int (nI N)), some (.int (nI 4)), some (.int (nI n)), none, none, none] [] B (va_up (va_up I (m + 54) (sgp Y 0 n (fun k => emG g0 Y (k + 1)))) (m + 51) (va_up (I (m + 51)) at_ (emG g0 Y n))) (sp_up J m 2 (emT g0 Y n)) P
      (none, B, va_up (va_up I (m + 54) (sgp Y 0 N (fun k => emG g0 Y (k + 1)))) (m + 51) (va_up (I (m + 51)) at_ (emG g0 Y N)), sp_up J m 2 (emT g0 Y N), P) := by
  intro d
  induction d with
  | zero =>
    intro n hn
    obtain rfl : n = N := by omega
    refine ev_iload 39 dX12_filter_37 rfl rfl ?_
    refine ev_iload_n 40 dX12_filter_39 rfl rfl ?_
    refine ev_icmp_geN 43 311 dX12_filter_40 (by decide) (by omega) (by omega) rfl (fun hbr => ?_) (fun hx => absurd ((by omega)) hx)
    exact ev_vret dX12_filter_311 rfl (rfl)
  | succ d ih =>
    intro n hn
    have e := ih (n + 1) (by omega)
    rw [← sg0_grow (f := Y) (v := fun k => emG g0 Y (k + 1)) (n := n) (w := emG g0 Y (n + 1)) rfl, show emT g0 Y (n + 1) = emT g0 Y n + sp_t ((Y n).toInt64 + sp_half (emG g0 Y n).toInt64 22282) from rfl, ← sp_up_up, show emG g0 Y (n + 1) = sp_S ((Y n).toInt64 + sp_half (emG g0 Y n).toInt64 22282) from rfl] at e
    refine ev_iload 39 dX12_filter_37 rfl rfl ?_
    refine ev_iload_n 40 dX12_filter_39 rfl rfl ?_
    refine ev_icmp_geN 43 311 dX12_filter_40 (by decide) (by omega) (by omega) rfl (fun hx => absurd hx ((by omega))) (fun hbr => ?_)
    refine ev_iload 45 dX12_filter_43 rfl rfl ?_
    refine ev_if_leN 48 311 dX12_filter_45 (by decide) (by omega) rfl (fun hx => absurd hx ((by omega))) (fun hbr => ?_)
    refine ev_aload_n 49 dX12_filter_48 rfl rfl ?_
    refine ev_getP 52 mm_cl12 (j := 60) (Nat.le_of_ble_eq_true rfl) dX12_filter_49 lk1345 (fun _ _ _ => rfl) (hM.1 0 _ rfl) (a := (m + 54)) (hM.2.2 53 _ _ _ rfl) rfl ?_
    refine ev_iload 54 dX12_filter_52 rfl rfl ?_
    refine ev_iald 55 _ dX12_filter_54 (hM.1 54 _ rfl) rfl (by have hNN := hM.2.1 54 _ rfl; omega) rfl ?_
    refine ev_eqI (y := (Y n)) ((by rw [va_up_n _ _ (by omega), va_up_s, sgp_out (by omega)])) ?_
    refine ev_istore 57 (lv' := [_, _, _, _, _, some (.int _), _, _, _]) dX12_filter_55 (Nat.le_of_ble_eq_true rfl) rfl rfl ?_
    refine ev_iload 59 dX12_filter_57 rfl rfl ?_
    refine ev_iconstN 60 1 dX12_filter_59 rfl ?_
    refine ev_icmp_neN 63 112 dX12_filter_60 (by decide) (by omega) (by omega) rfl (fun hbr => ?_) (fun hx => absurd hx ((by omega)))
    refine ev_iload 114 dX12_filter_112 rfl rfl ?_
    refine ev_iconstN 115 4 dX12_filter_114 rfl ?_
    refine ev_icmp_neN 118 152 dX12_filter_115 (by decide) (by omega) (by omega) rfl (fun hx => absurd ((by omega)) hx) (fun hbr => ?_)
    refine ev_aload_n 119 dX12_filter_118 rfl rfl ?_
    refine ev_iload 121 dX12_filter_119 rfl rfl ?_
    refine ev_i2l 122 dX12_filter_121 rfl ?_
    refine ev_aload_n 123 dX12_filter_122 rfl rfl ?_
    refine ev_getP 126 mm_cl12 (j := 57) (Nat.le_of_ble_eq_true rfl) dX12_filter_123 lk1342 (fun _ _ _ => rfl) (hM.1 0 _ rfl) (a := (m + 51)) (hM.2.2 50 _ _ _ rfl) rfl ?_
    refine ev_iload_n 127 dX12_filter_126 rfl rfl ?_
    refine ev_iald 128 _ dX12_filter_127 (hM.1 51 _ rfl) rfl (by have hNN := hM.2.1 51 _ rfl; omega) rfl ?_
    refine ev_eqI (y := (emG g0 Y n)) ((by rw [va_up_s, va_up_s])) ?_
    refine ev_i2l 129 dX12_filter_128 rfl ?_
    refine ev_ldc2 132 dX12_filter_129 lk1600 rfl ?_
    refine ev_invS 135 (Mc := mX12_half) ⟨lk1603, lk80, hdX12_half, (Nat.le_of_ble_eq_true rfl), (Nat.le_of_ble_eq_true rfl)⟩ lk1601 lk1602 dX12_filter_132 (ct_X12_half) rfl (Nat.le_of_ble_eq_true rfl) rfl rfl ?_
    refine ev_ladd 136 dX12_filter_135 rfl ?_
    refine ev_invV 139 (Mc := mX12_sample16) ⟨lk1608, lk80, hdX12_sample16, (Nat.le_of_ble_eq_true rfl), (Nat.le_of_ble_eq_true rfl)⟩ lk1605 lk1607 lk42 mm_cl12 rfl dX12_filter_136 (ct_X12_sample16 hM) rfl (hM.1 0 _ rfl) (Nat.le_of_ble_eq_true rfl) rfl rfl ?_
    refine ev_istore 141 (lv' := [_, _, _, _, _, some (.int _), _, _, _]) dX12_filter_139 (Nat.le_of_ble_eq_true rfl) rfl rfl ?_
    refine ev_aload_n 142 dX12_filter_141 rfl rfl ?_
    refine ev_getP 145 mm_cl12 (j := 57) (Nat.le_of_ble_eq_true rfl) dX12_filter_142 lk1342 (fun _ _ _ => rfl) (hM.1 0 _ rfl) (a := (m + 51)) (hM.2.2 50 _ _ _ rfl) rfl ?_
    refine ev_iload_n 146 dX12_filter_145 rfl rfl ?_
    refine ev_iload 148 dX12_filter_146 rfl rfl ?_
    refine ev_iast 149 _ dX12_filter_148 (hM.1 51 _ rfl) rfl (by have hNN := hM.2.1 51 _ rfl; omega) rfl ?_
    rw [va_up_s, bx_uu, bx_uu]
    refine ev_goto 296 dX12_filter_149 (by decide) ?_
    refine ev_aload_n 297 dX12_filter_296 rfl rfl ?_
    refine ev_getP 300 mm_cl12 (j := 60) (Nat.le_of_ble_eq_true rfl) dX12_filter_297 lk1345 (fun _ _ _ => rfl) (hM.1 0 _ rfl) (a := (m + 54)) (hM.2.2 53 _ _ _ rfl) rfl ?_
    refine ev_iload 302 dX12_filter_300 rfl rfl ?_
    refine ev_iload 304 dX12_filter_302 rfl rfl ?_
    refine ev_iast 305 _ dX12_filter_304 (hM.1 54 _ rfl) rfl (by have hNN := hM.2.1 54 _ rfl; omega) rfl ?_
    rw [va_3 I (a := m + 54) (b := m + 51) _ _ _ (by omega), va_up_n _ _ (show m + 54 ≠ m + 51 by omega), va_up_s]
    refine ev_iincN 308 (lv' := [_, _, _, _, some (.int _), _, _, _, _]) 1 dX12_filter_305 rfl (Nat.le_of_ble_eq_true rfl) rfl rfl ?_
    refine ev_goto 37 dX12_filter_308 (by decide) ?_
    refine ev_le (mle_s (mle_s (mle_s (mle_s (mle_s (mle_s (mle_n (mle_n (mle_n (mle_0)))))))))) ?_
    exact e
theorem lp_X12_fi3s {c at_ N n : Nat} {w cm : Int32} {G : Nat → Int32} {Z : mm_Z} (hM : lyM B P m) (hat : at_ < 32)
    (K : Ev g mX12_filter 280 [some (.ref m), some (.int (nI c)), some (.int (nI at_)), some (.int (nI N)), some (.int (nI 3)), some (.int (nI n)), some (.int w), some (.int cm), none] [] B (va_up I (m + 52) (sgp G (160 * at_) 159 (fun j => G (160 * at_ + j + 1)))) J P Z) : ∀ (d k : Nat), k + d = 159 →
    Ev g mX12_filter 238 [some (.ref m), some (.int (nI c)), some (.int (nI at_)), some (.int (nI N)), some (.int (nI 3)), some (.int (nI n)), some (.int w), some (.int cm), some (.int (nI k))] [] B (va_up I (m + 52) (sgp G (160 * at_) k (fun j => G (160 * at_ + j + 1)))) J P Z := by
  intro d
  induction d with
  | zero =>
    intro k hk
    obtain rfl : k = 159 := by omega
    refine ev_iload 240 dX12_filter_238 rfl rfl ?_
    refine ev_sipushN 243 159 dX12_filter_240 (by decide +kernel) rfl ?_
    refine ev_icmp_geN 246 280 dX12_filter_243 (by decide) (by omega) (by omega) rfl (fun hbr => ?_) (fun hx => absurd ((by omega)) hx)
    refine ev_le (mle_s (mle_s (mle_s (mle_s (mle_s (mle_s (mle_s (mle_s (mle_n (mle_0)))))))))) ?_
    exact K
  | succ d ih =>
    intro k hk
    have e := ih (k + 1) (by omega)
    rw [← sgp_grow (f := G) (off := 160 * at_) (n := k) (v := fun j => G (160 * at_ + j + 1)) (x := G (160 * at_ + k + 1)) rfl] at e
    refine ev_iload 240 dX12_filter_238 rfl rfl ?_
    refine ev_sipushN 243 159 dX12_filter_240 (by decide +kernel) rfl ?_
    refine ev_icmp_geN 246 280 dX12_filter_243 (by decide) (by omega) (by omega) rfl (fun hx => absurd hx ((by omega))) (fun hbr => ?_)
    refine ev_aload_n 247 dX12_filter_246 rfl rfl ?_
    refine ev_getP 250 mm_cl12 (j := 58) (Nat.le_of_ble_eq_true rfl) dX12_filter_247 lk1343 (fun _ _ _ => rfl) (hM.1 0 _ rfl) (a := (m + 52)) (hM.2.2 51 _ _ _ rfl) rfl ?_
    refine ev_sipushN 253 160 dX12_filter_250 (by decide +kernel) rfl ?_
    refine ev_iload_n 254 dX12_filter_253 rfl rfl ?_
    refine ev_imulN 255 dX12_filter_254 rfl ?_
    refine ev_iload 257 dX12_filter_255 rfl rfl ?_
    refine ev_iaddN 258 dX12_filter_257 rfl ?_
    refine ev_aload_n 259 dX12_filter_258 rfl rfl ?_
    refine ev_getP 262 mm_cl12 (j := 58) (Nat.le_of_ble_eq_true rfl) dX12_filter_259 lk1343 (fun _ _ _ => rfl) (hM.1 0 _ rfl) (a := (m + 52)) (hM.2.2 51 _ _ _ rfl) rfl ?_
    refine ev_sipushN 265 160 dX12_filter_262 (by decide +kernel) rfl ?_
    refine ev_iload_n 266 dX12_filter_265 rfl rfl ?_
    refine ev_imulN 267 dX12_filter_266 rfl ?_
    refine ev_iload 269 dX12_filter_267 rfl rfl ?_
    refine ev_iaddN 270 dX12_filter_269 rfl ?_
    refine ev_iconstN 271 1 dX12_filter_270 rfl ?_
    refine ev_iaddN 272 dX12_filter_271 rfl ?_
    refine ev_iald 273 _ dX12_filter_272 (hM.1 52 _ rfl) rfl (by have hNN := hM.2.1 52 _ rfl; omega) rfl ?_
    refine ev_eqI (y := (G (160 * at_ + k + 1))) ((by rw [va_up_s, sgp_out (by omega)])) ?_
    refine ev_iast 274 _ dX12_filter_273 (hM.1 52 _ rfl) rfl (by have hNN := hM.2.1 52 _ rfl; omega) rfl ?_
    refine ev_iincN 277 (lv' := [_, _, _, _, _, _, _, some (.int _), _]) 1 dX12_filter_274 rfl (Nat.le_of_ble_eq_true rfl) rfl rfl ?_
    refine ev_goto 238 dX12_filter_277 (by decide) ?_
    rw [va_up_s, bx_uu]
    exact e
theorem lx_X12_fi3 {c at_ N lag : Nat} {c0 : Int32} {Y K T V : Nat → Int32} (hM : lyM B P m) (hc8 : c < 8) (hat : at_ < 32) (hN : N ≤ 320) (hl : 20 ≤ lag) (hl2 : lag ≤ 147) (hlag : I (m + 18) (2 * c + 1) = nI lag) (hY : I (m + 54) = Y) (hT : ∀ n, n < N → T n = tlY c0 Y n) (hVv : cmY T K lag N = V) : ∀ (d n : Nat), n + d = N → ∀ (G : Nat → Int32), (∀ j, j < 160 → G (160 * at_ + j) = if j + n < 160 then K (j + n) else V (j + n - 160)) →
    ∃ G' : Nat → Int32, (∀ j, j < 160 → G' (160 * at_ + j) = if j + N < 160 then K (j + N) else V (j + N - 160)) ∧ (∀ j, j < 160 * at_ ∨ 160 * at_ + 160 ≤ j → G' j = G j) ∧
    Ev g mX12_filter 37 [some (.ref m), some (.int (nI c)), some (.int (nI at_)), some (.int (nI N)), some (.int (nI 3)), some (.int (nI n)), none, none, none] [] B (va_up (va_up (va_up I (m + 54) (sgp Y 0 n V)) (m + 50) (va_up (I (m + 50)) at_ (if n = 0 then c0 else Y (n - 1)))) (m + 52) G) (sp_up J m 2 (tlT c0 Y n + cmT T K lag n)) P
      (none, B, va_up (va_up (va_up I (m + 54) (sgp Y 0 N V)) (m + 50) (va_up (I (m + 50)) at_ (if N = 0 then c0 else Y (N - 1)))) (m + 52) G', sp_up J m 2 (tlT c0 Y N + cmT T K lag N), P) := by
  intro d
  induction d with
  | zero =>
    intro n hn G hG
    obtain rfl : n = N := by omega
    refine ⟨G, hG, fun j _ => rfl, ?_⟩
    refine ev_iload 39 dX12_filter_37 rfl rfl ?_
    refine ev_iload_n 40 dX12_filter_39 rfl rfl ?_
    refine ev_icmp_geN 43 311 dX12_filter_40 (by decide) (by omega) (by omega) rfl (fun hbr => ?_) (fun hx => absurd ((by omega)) hx)
    exact ev_vret dX12_filter_311 rfl (rfl)
  | succ d ih =>
    intro n hn G hG
    -- what comes out at n
    have hback : G (160 * at_ + 160 - lag) = if n < lag then K (160 + n - lag) else cmY T K lag n (n - lag) := by
      rw [show 160 * at_ + 160 - lag = 160 * at_ + (160 - lag) by omega, hG _ (by omega)]
      by_cases c1 : n < lag
      · rw [if_pos c1, if_pos (by omega), show 160 - lag + n = 160 + n - lag by omega]
      · rw [if_neg c1, if_neg (by omega), show 160 - lag + n - 160 = n - lag by omega, ← hVv, cmY_s N _ (by omega), cmY_s n _ (by omega)]
    have hVn : V n = sp_S (cmw T K (cmY T K lag n) lag n) := by
      rw [← hVv, cmY_s N n (by omega)]
      show va_up (cmY T K lag n) n _ n = _
      rw [va_up_s]
    have hcw : cmw T K (cmY T K lag n) lag n = (tlY c0 Y n).toInt64 + sp_half (G (160 * at_ + 160 - lag)).toInt64 6554 := by
      unfold cmw
      rw [hT n (by omega), hback]
    obtain ⟨G', g1, g2, e⟩ := ih (n + 1) (by omega) (va_up (sgp G (160 * at_) 159 (fun j => G (160 * at_ + j + 1))) (160 * at_ + 159) (V n)) (fun j hj => by
      by_cases c1 : j = 159
      · subst c1; rw [va_up_s, if_neg (by omega), show 159 + (n + 1) - 160 = n by omega]
      · rw [va_up_n _ _ (by omega), sgp_in (by omega), show 160 * at_ + j + 1 = 160 * at_ + (j + 1) by omega, hG _ (by omega), show j + 1 + n = j + (n + 1) by omega])
    refine ⟨G', g1, fun j hj => by rw [g2 j hj, va_up_n _ _ (by omega), sgp_out (by omega)], ?_⟩
    rw [← sg0_grow (w := V n) rfl, show tlT c0 Y (n + 1) + cmT T K lag (n + 1) = tlT c0 Y n + cmT T K lag n + sp_t (tlw c0 Y n) + sp_t (cmw T K (cmY T K lag n) lag n) by
      show tlT c0 Y n + sp_t (tlw c0 Y n) + (cmT T K lag n + sp_t (cmw T K (cmY T K lag n) lag n)) = _
      rw [Int64.add_assoc, Int64.add_assoc, Int64.add_assoc, ← Int64.add_assoc (sp_t (tlw c0 Y n)), Int64.add_comm (sp_t (tlw c0 Y n)), Int64.add_assoc], ← sp_up_up, ← sp_up_up, if_neg (show ¬ n + 1 = 0 by omega), show n + 1 - 1 = n from rfl, hVn, hcw] at e
    have sh := fun (Z : mm_Z) (w cmv : Int32) (I1 : mm_TI) (J1 : mm_TJ) KK => lp_X12_fi3s (g := g) (B := B) (I := I1) (J := J1) (P := P) (m := m) (c := c) (at_ := at_) (N := N) (n := n) (w := w) (cm := cmv) (G := G) (Z := Z) hM hat KK 159 0 (by omega)
    generalize hJ0 : sp_up J m 2 (tlT c0 Y n + cmT T K lag n) = J0 at e ⊢
    generalize hF : sgp Y 0 n V = F at e ⊢
    have hFn : F n = Y n := by rw [← hF, sgp_out (by omega)]
    have k235 : Ev g mX12_filter 235 [some (.ref m), some (.int (nI c)), some (.int (nI at_)), some (.int (nI N)), some (.int (nI 3)), some (.int (nI n)), some (.int ((sp_S ((tlY c0 Y n).toInt64 + sp_half (G (160 * at_ + 160 - lag)).toInt64 6554)))), some (.int (Y n)), none] [] B (va_up (va_up (va_up I (m + 54) F) (m + 50) (va_up (I (m + 50)) at_ (Y n))) (m + 52) G) (sp_up (sp_up J0 m 2 (sp_t (tlw c0 Y n))) m 2 (sp_t ((tlY c0 Y n).toInt64 + sp_half (G (160 * at_ + 160 - lag)).toInt64 6554))) P
        (none, B, va_up (va_up (va_up I (m + 54) (sgp Y 0 N V)) (m + 50) (va_up (I (m + 50)) at_ (if N = 0 then c0 else Y (N - 1)))) (m + 52) G', sp_up J m 2 (tlT c0 Y N + cmT T K lag N), P) := by
      generalize hw : sp_S ((tlY c0 Y n).toInt64 + sp_half (G (160 * at_ + 160 - lag)).toInt64 6554) = w at e ⊢
      have s0 := sh (none, B, va_up (va_up (va_up I (m + 54) (sgp Y 0 N V)) (m + 50) (va_up (I (m + 50)) at_ (if N = 0 then c0 else Y (N - 1)))) (m + 52) G', sp_up J m 2 (tlT c0 Y N + cmT T K lag N), P) w (Y n) (va_up (va_up I (m + 54) F) (m + 50) (va_up (I (m + 50)) at_ (Y n))) (sp_up (sp_up J0 m 2 (sp_t (tlw c0 Y n))) m 2 (sp_t ((tlY c0 Y n).toInt64 + sp_half (G (160 * at_ + 160 - lag)).toInt64 6554))) (by
        refine ev_aload_n 281 dX12_filter_280 rfl rfl ?_
        refine ev_getP 284 mm_cl12 (j := 58) (Nat.le_of_ble_eq_true rfl) dX12_filter_281 lk1343 (fun _ _ _ => rfl) (hM.1 0 _ rfl) (a := (m + 52)) (hM.2.2 51 _ _ _ rfl) rfl ?_
        refine ev_sipushN 287 160 dX12_filter_284 (by decide +kernel) rfl ?_
        refine ev_iload_n 288 dX12_filter_287 rfl rfl ?_
        refine ev_imulN 289 dX12_filter_288 rfl ?_
        refine ev_sipushN 292 159 dX12_filter_289 (by decide +kernel) rfl ?_
        refine ev_iaddN 293 dX12_filter_292 rfl ?_
        refine ev_iload 295 dX12_filter_293 rfl rfl ?_
        refine ev_iast 296 _ dX12_filter_295 (hM.1 52 _ rfl) rfl (by have hNN := hM.2.1 52 _ rfl; omega) rfl ?_
        rw [va_up_s, bx_uu]
        refine ev_aload_n 297 dX12_filter_296 rfl rfl ?_
        refine ev_getP 300 mm_cl12 (j := 60) (Nat.le_of_ble_eq_true rfl) dX12_filter_297 lk1345 (fun _ _ _ => rfl) (hM.1 0 _ rfl) (a := (m + 54)) (hM.2.2 53 _ _ _ rfl) rfl ?_
        refine ev_iload 302 dX12_filter_300 rfl rfl ?_
        refine ev_iload 304 dX12_filter_302 rfl rfl ?_
        refine ev_iast 305 _ dX12_filter_304 (hM.1 54 _ rfl) rfl (by have hNN := hM.2.1 54 _ rfl; omega) rfl ?_
        rw [va_comm _ _ _ (show m + 52 ≠ m + 54 by omega), va_3 I (a := m + 54) (b := m + 50) _ _ _ (by omega), va_up_n _ _ (show m + 54 ≠ m + 52 by omega), va_up_n _ _ (show m + 54 ≠ m + 50 by omega), va_up_s]
        refine ev_iincN 308 (lv' := [_, _, _, _, some (.int _), _, _, _, _]) 1 dX12_filter_305 rfl (Nat.le_of_ble_eq_true rfl) rfl rfl ?_
        refine ev_goto 37 dX12_filter_308 (by decide) ?_
        refine ev_le (mle_s (mle_s (mle_s (mle_s (mle_s (mle_s (mle_n (mle_n (mle_n (mle_0)))))))))) ?_
        exact e)
      rw [sgp_0] at s0
      refine ev_iconstN 236 0 dX12_filter_235 rfl ?_
      refine ev_istore 238 (lv' := [_, _, _, _, _, _, _, some (.int _), _]) dX12_filter_236 (Nat.le_of_ble_eq_true rfl) rfl rfl ?_
      exact s0
    refine ev_iload 39 dX12_filter_37 rfl rfl ?_
    refine ev_iload_n 40 dX12_filter_39 rfl rfl ?_
    refine ev_icmp_geN 43 311 dX12_filter_40 (by decide) (by omega) (by omega) rfl (fun hx => absurd hx ((by omega))) (fun hbr => ?_)
    refine ev_iload 45 dX12_filter_43 rfl rfl ?_
    refine ev_if_leN 48 311 dX12_filter_45 (by decide) (by omega) rfl (fun hx => absurd hx ((by omega))) (fun hbr => ?_)
    refine ev_aload_n 49 dX12_filter_48 rfl rfl ?_
    refine ev_getP 52 mm_cl12 (j := 60) (Nat.le_of_ble_eq_true rfl) dX12_filter_49 lk1345 (fun _ _ _ => rfl) (hM.1 0 _ rfl) (a := (m + 54)) (hM.2.2 53 _ _ _ rfl) rfl ?_
    refine ev_iload 54 dX12_filter_52 rfl rfl ?_
    refine ev_iald 55 _ dX12_filter_54 (hM.1 54 _ rfl) rfl (by have hNN := hM.2.1 54 _ rfl; omega) rfl ?_
    refine ev_eqI (y := (Y n)) ((by rw [va_up_n _ _ (by omega), va_up_n _ _ (by omega), va_up_s]; exact hFn)) ?_
    refine ev_istore 57 (lv' := [_, _, _, _, _, some (.int _), _, _, _]) dX12_filter_55 (Nat.le_of_ble_eq_true rfl) rfl rfl ?_
    refine ev_iload 59 dX12_filter_57 rfl rfl ?_
    refine ev_iconstN 60 1 dX12_filter_59 rfl ?_
    refine ev_icmp_neN 63 112 dX12_filter_60 (by decide) (by omega) (by omega) rfl (fun hbr => ?_) (fun hx => absurd hx ((by omega)))
    refine ev_iload 114 dX12_filter_112 rfl rfl ?_
    refine ev_iconstN 115 4 dX12_filter_114 rfl ?_
    refine ev_icmp_neN 118 152 dX12_filter_115 (by decide) (by omega) (by omega) rfl (fun hbr => ?_) (fun hx => absurd hx ((by omega)))
    refine ev_iload 154 dX12_filter_152 rfl rfl ?_
    refine ev_istore 156 (lv' := [_, _, _, _, _, _, some (.int _), _, _]) dX12_filter_154 (Nat.le_of_ble_eq_true rfl) rfl rfl ?_
    refine ev_aload_n 157 dX12_filter_156 rfl rfl ?_
    refine ev_iload 159 dX12_filter_157 rfl rfl ?_
    refine ev_i2l 160 dX12_filter_159 rfl ?_
    refine ev_aload_n 161 dX12_filter_160 rfl rfl ?_
    refine ev_getP 164 mm_cl12 (j := 56) (Nat.le_of_ble_eq_true rfl) dX12_filter_161 lk1341 (fun _ _ _ => rfl) (hM.1 0 _ rfl) (a := (m + 50)) (hM.2.2 49 _ _ _ rfl) rfl ?_
    refine ev_iload_n 165 dX12_filter_164 rfl rfl ?_
    refine ev_iald 166 _ dX12_filter_165 (hM.1 50 _ rfl) rfl (by have hNN := hM.2.1 50 _ rfl; omega) rfl ?_
    refine ev_eqI (y := (if n = 0 then c0 else Y (n - 1))) ((by rw [va_up_n _ _ (by omega), va_up_s, va_up_s])) ?_
    refine ev_i2l 167 dX12_filter_166 rfl ?_
    refine ev_ldc2 170 dX12_filter_167 lk1818 rfl ?_
    refine ev_invS 173 (Mc := mX12_half) ⟨lk1603, lk80, hdX12_half, (Nat.le_of_ble_eq_true rfl), (Nat.le_of_ble_eq_true rfl)⟩ lk1601 lk1602 dX12_filter_170 (ct_X12_half) rfl (Nat.le_of_ble_eq_true rfl) rfl rfl ?_
    refine ev_lsub 174 dX12_filter_173 rfl ?_
    refine ev_invV 177 (Mc := mX12_sample16) ⟨lk1608, lk80, hdX12_sample16, (Nat.le_of_ble_eq_true rfl), (Nat.le_of_ble_eq_true rfl)⟩ lk1605 lk1607 lk42 mm_cl12 rfl dX12_filter_174 (ct_X12_sample16 hM) rfl (hM.1 0 _ rfl) (Nat.le_of_ble_eq_true rfl) rfl rfl ?_
    refine ev_istore 179 (lv' := [_, _, _, _, _, some (.int _), _, _, _]) dX12_filter_177 (Nat.le_of_ble_eq_true rfl) rfl rfl ?_
    refine ev_aload_n 180 dX12_filter_179 rfl rfl ?_
    refine ev_getP 183 mm_cl12 (j := 56) (Nat.le_of_ble_eq_true rfl) dX12_filter_180 lk1341 (fun _ _ _ => rfl) (hM.1 0 _ rfl) (a := (m + 50)) (hM.2.2 49 _ _ _ rfl) rfl ?_
    refine ev_iload_n 184 dX12_filter_183 rfl rfl ?_
    refine ev_iload 186 dX12_filter_184 rfl rfl ?_
    refine ev_iast 187 _ dX12_filter_186 (hM.1 50 _ rfl) rfl (by have hNN := hM.2.1 50 _ rfl; omega) rfl ?_
    rw [va_3 (va_up I (m + 54) F) (a := m + 50) (b := m + 52) _ _ _ (by omega), va_up_n _ _ (show m + 50 ≠ m + 52 by omega), va_up_s, bx_uu]
    refine ev_iload 189 dX12_filter_187 rfl rfl ?_
    refine ev_iconstN 190 3 dX12_filter_189 rfl ?_
    refine ev_icmp_neN 193 296 dX12_filter_190 (by decide) (by omega) (by omega) rfl (fun hx => absurd ((by omega)) hx) (fun hbr => ?_)
    refine ev_aload_n 194 dX12_filter_193 rfl rfl ?_
    refine ev_iload 196 dX12_filter_194 rfl rfl ?_
    refine ev_i2l 197 dX12_filter_196 rfl ?_
    refine ev_aload_n 198 dX12_filter_197 rfl rfl ?_
    refine ev_getP 201 mm_cl12 (j := 58) (Nat.le_of_ble_eq_true rfl) dX12_filter_198 lk1343 (fun _ _ _ => rfl) (hM.1 0 _ rfl) (a := (m + 52)) (hM.2.2 51 _ _ _ rfl) rfl ?_
    refine ev_sipushN 204 160 dX12_filter_201 (by decide +kernel) rfl ?_
    refine ev_iload_n 205 dX12_filter_204 rfl rfl ?_
    refine ev_imulN 206 dX12_filter_205 rfl ?_
    refine ev_sipushN 209 160 dX12_filter_206 (by decide +kernel) rfl ?_
    refine ev_iaddN 210 dX12_filter_209 rfl ?_
    refine ev_aload_n 211 dX12_filter_210 rfl rfl ?_
    refine ev_getP 214 mm_cl12 (j := 23) (Nat.le_of_ble_eq_true rfl) dX12_filter_211 lk1308 (fun _ _ _ => rfl) (hM.1 0 _ rfl) (a := (m + 18)) (hM.2.2 17 _ _ _ rfl) rfl ?_
    refine ev_iconstN 215 2 dX12_filter_214 rfl ?_
    refine ev_iload_n 216 dX12_filter_215 rfl rfl ?_
    refine ev_imulN 217 dX12_filter_216 rfl ?_
    refine ev_iconstN 218 1 dX12_filter_217 rfl ?_
    refine ev_iaddN 219 dX12_filter_218 rfl ?_
    refine ev_iald 220 _ dX12_filter_219 (hM.1 18 _ rfl) rfl (by have hNN := hM.2.1 18 _ rfl; omega) rfl ?_
    refine ev_eqI (y := nI (lag)) ((by rw [va_up_n _ _ (by omega), va_up_n _ _ (by omega), va_up_n _ _ (by omega)]; exact hlag)) ?_
    refine ev_isubN 221 dX12_filter_220 (by omega) rfl ?_
    refine ev_iald 222 _ dX12_filter_221 (hM.1 52 _ rfl) rfl (by have hNN := hM.2.1 52 _ rfl; omega) rfl ?_
    refine ev_eqI (y := (G (160 * at_ + 160 - lag))) ((by rw [va_up_s])) ?_
    refine ev_i2l 223 dX12_filter_222 rfl ?_
    refine ev_ldc2 226 dX12_filter_223 lk1819 rfl ?_
    refine ev_invS 229 (Mc := mX12_half) ⟨lk1603, lk80, hdX12_half, (Nat.le_of_ble_eq_true rfl), (Nat.le_of_ble_eq_true rfl)⟩ lk1601 lk1602 dX12_filter_226 (ct_X12_half) rfl (Nat.le_of_ble_eq_true rfl) rfl rfl ?_
    refine ev_ladd 230 dX12_filter_229 rfl ?_
    refine ev_invV 233 (Mc := mX12_sample16) ⟨lk1608, lk80, hdX12_sample16, (Nat.le_of_ble_eq_true rfl), (Nat.le_of_ble_eq_true rfl)⟩ lk1605 lk1607 lk42 mm_cl12 rfl dX12_filter_230 (ct_X12_sample16 hM) rfl (hM.1 0 _ rfl) (Nat.le_of_ble_eq_true rfl) rfl rfl ?_
    refine ev_istore 235 (lv' := [_, _, _, _, _, some (.int _), _, _, _]) dX12_filter_233 (Nat.le_of_ble_eq_true rfl) rfl rfl ?_
    exact k235
end MFI
