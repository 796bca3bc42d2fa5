theorem sp_ap_c (f : Nat → Int32) (e es a o os c : Nat) : va_up (sp_ap (sp_ap f e es a) o os c) (e + a) (sp_ap (sp_ap f e es a) o os c (e + a) + sp_pp es a) = sp_ap (sp_ap f e es (a + 1)) o os c := by
  funext n
  by_cases h : n = e + a
  · subst h
    rw [va_up_s]
    unfold sp_ap
    rw [if_neg (show ¬ (e ≤ e + a ∧ e + a < e + a) by omega), if_pos (show e ≤ e + a ∧ e + a < e + (a + 1) by omega), Nat.add_sub_cancel_left]
    split
    · rw [Int32.add_assoc, Int32.add_comm (sp_pp os _), ← Int32.add_assoc]
    · rfl
  · rw [va_up_n _ _ h]
    unfold sp_ap
    by_cases c1 : e ≤ n ∧ n < e + a
    · rw [if_pos c1, if_pos (show e ≤ n ∧ n < e + (a + 1) by omega)]
    · rw [if_neg c1, if_neg (show ¬ (e ≤ n ∧ n < e + (a + 1)) by omega)]
theorem sp_ap_cg {f f' : Nat → Int32} {n : Nat} (e es a : Nat) (h : f n = f' n) : sp_ap f e es a n = sp_ap f' e es a n := by
  unfold sp_ap
  rw [h]
section MO5
variable {g : mm_G} {B : mm_B} {I : mm_TI} {J : mm_TJ} {P : mm_TP} {m : Nat}
theorem lp_X12_exc1 {s fr sb L ev es od os j : Nat} {p : Int32} {Z : mm_Z} (hM : lyM B P m) (hb : sb ≤ 80)
    (k : Ev g mX12_excited 31 [some (.ref m), some (.int (nI s)), some (.int (nI fr)), some (.int (nI sb)), some (.int (nI L)), some (.int p), some (.int (nI ev)), some (.int (nI es)), some (.int (nI od)), some (.int (nI os)), some (.int (nI j)), none] [] B (va_up I (m + 58) (sgp (I (m + 58)) 0 sb (fun _ => nI 0))) J P Z) : ∀ (d n : Nat), n + d = sb →
    Ev g mX12_excited 11 [some (.ref m), some (.int (nI s)), some (.int (nI fr)), some (.int (nI sb)), some (.int (nI L)), some (.int p), some (.int (nI ev)), some (.int (nI es)), some (.int (nI od)), some (.int (nI os)), some (.int (nI j)), some (.int (nI n))] [] B (va_up I (m + 58) (sgp (I (m + 58)) 0 n (fun _ => nI 0))) J P Z := by
  intro d
  induction d with
  | zero =>
    intro n hn
    refine ev_iload 13 dX12_excited_11 rfl rfl ?_
    refine ev_iload_n 14 dX12_excited_13 rfl rfl ?_
    refine ev_icmp_geN 17 31 dX12_excited_14 (by decide) (by omega) (by omega) rfl (fun hbr => ?_) (fun hx => absurd ((by omega)) hx)
    obtain rfl : n = sb := by omega
    refine ev_le (mle_s (mle_s (mle_s (mle_s (mle_s (mle_s (mle_s (mle_s (mle_s (mle_s (mle_s (mle_n (mle_0))))))))))))) ?_
    exact k
  | succ d ih =>
    intro n hn
    have e2 := sgp_grow (f := I (m + 58)) (off := 0) (n := n) (v := fun _ => nI 0) (x := nI 0) rfl
    simp only [Nat.zero_add] at e2
    refine ev_iload 13 dX12_excited_11 rfl rfl ?_
    refine ev_iload_n 14 dX12_excited_13 rfl rfl ?_
    refine ev_icmp_geN 17 31 dX12_excited_14 (by decide) (by omega) (by omega) rfl (fun hx => absurd hx ((by omega))) (fun hbr => ?_)
    refine ev_aload_n 18 dX12_excited_17 rfl rfl ?_
    refine ev_getP 21 mm_cl12 (j := 64) (Nat.le_of_ble_eq_true rfl) dX12_excited_18 lk1349 (fun _ _ _ => rfl) (hM.1 0 _ rfl) (a := (m + 58)) (hM.2.2 57 _ _ _ rfl) rfl ?_
    refine ev_iload 23 dX12_excited_21 rfl rfl ?_
    refine ev_iconstN 24 0 dX12_excited_23 rfl ?_
    refine ev_iast 25 _ dX12_excited_24 (hM.1 58 _ rfl) rfl (by have hNN := hM.2.1 58 _ rfl; omega) rfl ?_
    refine ev_iincN 28 (lv' := [_, _, _, _, _, _, _, _, _, _, some (.int _), _]) 1 dX12_excited_25 rfl (Nat.le_of_ble_eq_true rfl) rfl rfl ?_
    refine ev_goto 11 dX12_excited_28 (by decide) ?_
    rw [va_up_s, bx_uu, e2]
    exact ih (n + 1) (by omega)
/-- the second half of a round over k: the odd pulse -/
theorem lp_X12_exc2o {s fr sb L ev es od os j c1 k : Nat} {p : Int32} {F : Nat → Int32} {Z : mm_Z} (hM : lyM B P m) (hb : sb ≤ 80) (hod : od < sb) (hk : k < 3) (hos : os < 2 ^ 31)
    (K : Ev g mX12_excited 34 [some (.ref m), some (.int (nI s)), some (.int (nI fr)), some (.int (nI sb)), some (.int (nI L)), some (.int p), some (.int (nI ev)), some (.int (nI es)), some (.int (nI od)), some (.int (nI os)), some (.int (nI j)), some (.int (nI (k + 1)))] [] B (va_up I (m + 58) (sp_ap (sp_ap F ev es c1) od os (min (k + 1) (sb - od)))) J P Z) :
    Ev g mX12_excited 81 [some (.ref m), some (.int (nI s)), some (.int (nI fr)), some (.int (nI sb)), some (.int (nI L)), some (.int p), some (.int (nI ev)), some (.int (nI es)), some (.int (nI od)), some (.int (nI os)), some (.int (nI j)), some (.int (nI k))] [] B (va_up I (m + 58) (sp_ap (sp_ap F ev es c1) od os (min k (sb - od)))) J P Z := by
  refine ev_iload 83 dX12_excited_81 rfl rfl ?_
  refine ev_iload 85 dX12_excited_83 rfl rfl ?_
  refine ev_iaddN 86 dX12_excited_85 rfl ?_
  refine ev_iload_n 87 dX12_excited_86 rfl rfl ?_
  refine ev_icmp_geN 90 122 dX12_excited_87 (by decide) (by omega) (by omega) rfl (fun h1 => ?_) (fun h1 => ?_)
  · refine ev_iincN 125 (lv' := [_, _, _, _, _, _, _, _, _, _, some (.int _), _]) 1 dX12_excited_122 rfl (Nat.le_of_ble_eq_true rfl) rfl rfl ?_
    refine ev_goto 34 dX12_excited_125 (by decide) ?_
    rw [show min (k + 1) (sb - od) = min k (sb - od) by omega] at K
    exact K
  · rw [show min k (sb - od) = k by omega]
    rw [show min (k + 1) (sb - od) = k + 1 by omega, ← sp_ap_s] at K
    refine ev_aload_n 91 dX12_excited_90 rfl rfl ?_
    refine ev_getP 94 mm_cl12 (j := 64) (Nat.le_of_ble_eq_true rfl) dX12_excited_91 lk1349 (fun _ _ _ => rfl) (hM.1 0 _ rfl) (a := (m + 58)) (hM.2.2 57 _ _ _ rfl) rfl ?_
    refine ev_iload 96 dX12_excited_94 rfl rfl ?_
    refine ev_iload 98 dX12_excited_96 rfl rfl ?_
    refine ev_iaddN 99 dX12_excited_98 rfl ?_
    refine ev_dup2_11 100 dX12_excited_99 rfl rfl rfl ?_
    refine ev_iald 101 _ dX12_excited_100 (hM.1 58 _ rfl) rfl (by have hNN := hM.2.1 58 _ rfl; omega) rfl ?_
    refine ev_iload 103 dX12_excited_101 rfl rfl ?_
    refine ev_if_neN 106 114 dX12_excited_103 (by decide) (by omega) rfl (fun h2 => ?_) (fun h2 => ?_)
    · refine ev_iload 116 dX12_excited_114 rfl rfl ?_
      refine ev_invS 119 (Mc := mX12_pulse) ⟨lk1669, lk80, hdX12_pulse, (Nat.le_of_ble_eq_true rfl), (Nat.le_of_ble_eq_true rfl)⟩ lk1667 lk1668 dX12_excited_116 (ct_X12_pulse (by omega)) rfl (Nat.le_of_ble_eq_true rfl) rfl rfl ?_
      refine ev_ineg 120 dX12_excited_119 rfl ?_
      refine ev_iadd 121 dX12_excited_120 rfl ?_
      refine ev_iast 122 _ dX12_excited_121 (hM.1 58 _ rfl) rfl (by have hNN := hM.2.1 58 _ rfl; omega) rfl ?_
      refine ev_iincN 125 (lv' := [_, _, _, _, _, _, _, _, _, _, some (.int _), _]) 1 dX12_excited_122 rfl (Nat.le_of_ble_eq_true rfl) rfl rfl ?_
      refine ev_goto 34 dX12_excited_125 (by decide) ?_
      rw [va_up_s, bx_uu]
      rw [show sp_pp os k = - sp_ph k by unfold sp_pp; rw [if_neg h2]] at K
      exact K
    · refine ev_iload 108 dX12_excited_106 rfl rfl ?_
      refine ev_invS 111 (Mc := mX12_pulse) ⟨lk1669, lk80, hdX12_pulse, (Nat.le_of_ble_eq_true rfl), (Nat.le_of_ble_eq_true rfl)⟩ lk1667 lk1668 dX12_excited_108 (ct_X12_pulse (by omega)) rfl (Nat.le_of_ble_eq_true rfl) rfl rfl ?_
      refine ev_goto 120 dX12_excited_111 (by decide) ?_
      refine ev_iadd 121 dX12_excited_120 rfl ?_
      refine ev_iast 122 _ dX12_excited_121 (hM.1 58 _ rfl) rfl (by have hNN := hM.2.1 58 _ rfl; omega) rfl ?_
      refine ev_iincN 125 (lv' := [_, _, _, _, _, _, _, _, _, _, some (.int _), _]) 1 dX12_excited_122 rfl (Nat.le_of_ble_eq_true rfl) rfl rfl ?_
      refine ev_goto 34 dX12_excited_125 (by decide) ?_
      rw [va_up_s, bx_uu]
      rw [show sp_pp os k = sp_ph k by unfold sp_pp; rw [if_pos h2]] at K
      exact K
theorem lp_X12_exc2 {s fr sb L ev es od os j : Nat} {p : Int32} {F : Nat → Int32} {Z : mm_Z} (hM : lyM B P m) (hb : sb ≤ 80) (hev : ev < sb) (hod : od < sb) (hes : es < 2 ^ 31) (hos : os < 2 ^ 31)
    (K : Ev g mX12_excited 128 [some (.ref m), some (.int (nI s)), some (.int (nI fr)), some (.int (nI sb)), some (.int (nI L)), some (.int p), some (.int (nI ev)), some (.int (nI es)), some (.int (nI od)), some (.int (nI os)), some (.int (nI j)), none] [] B (va_up I (m + 58) (sp_ap (sp_ap F ev es (min 3 (sb - ev))) od os (min 3 (sb - od)))) J P Z) : ∀ (d k : Nat), k + d = 3 →
    Ev g mX12_excited 34 [some (.ref m), some (.int (nI s)), some (.int (nI fr)), some (.int (nI sb)), some (.int (nI L)), some (.int p), some (.int (nI ev)), some (.int (nI es)), some (.int (nI od)), some (.int (nI os)), some (.int (nI j)), some (.int (nI k))] [] B (va_up I (m + 58) (sp_ap (sp_ap F ev es (min k (sb - ev))) od os (min k (sb - od)))) J P Z := by
  intro d
  induction d with
  | zero =>
    intro k hk
    obtain rfl : k = 3 := by omega
    refine ev_iload 36 dX12_excited_34 rfl rfl ?_
    refine ev_iconstN 37 3 dX12_excited_36 rfl ?_
    refine ev_icmp_geN 40 128 dX12_excited_37 (by decide) (by omega) (by omega) rfl (fun hbr => ?_) (fun hx => absurd ((Nat.le_refl 3)) hx)
    refine ev_le (mle_s (mle_s (mle_s (mle_s (mle_s (mle_s (mle_s (mle_s (mle_s (mle_s (mle_s (mle_n (mle_0))))))))))))) ?_
    exact K
  | succ d ih =>
    intro k hk
    have e := lp_X12_exc2o (g := g) (I := I) (J := J) (s := s) (fr := fr) (sb := sb) (L := L) (ev := ev) (es := es) (od := od) (os := os) (j := j) (p := p) (c1 := min (k + 1) (sb - ev)) (k := k) (F := F) (Z := Z) hM hb hod (by omega) hos (ih (k + 1) (by omega))
    refine ev_iload 36 dX12_excited_34 rfl rfl ?_
    refine ev_iconstN 37 3 dX12_excited_36 rfl ?_
    refine ev_icmp_geN 40 128 dX12_excited_37 (by decide) (by omega) (by omega) rfl (fun hx => absurd hx ((by omega))) (fun hbr => ?_)
    refine ev_iload 42 dX12_excited_40 rfl rfl ?_
    refine ev_iload 44 dX12_excited_42 rfl rfl ?_
    refine ev_iaddN 45 dX12_excited_44 rfl ?_
    refine ev_iload_n 46 dX12_excited_45 rfl rfl ?_
    refine ev_icmp_geN 49 81 dX12_excited_46 (by decide) (by omega) (by omega) rfl (fun h1 => ?_) (fun h1 => ?_)
    · rw [show min (k + 1) (sb - ev) = min k (sb - ev) by omega] at e
      exact e
    · rw [show min k (sb - ev) = k by omega]
      rw [show min (k + 1) (sb - ev) = k + 1 by omega, ← sp_ap_c] at e
      refine ev_aload_n 50 dX12_excited_49 rfl rfl ?_
      refine ev_getP 53 mm_cl12 (j := 64) (Nat.le_of_ble_eq_true rfl) dX12_excited_50 lk1349 (fun _ _ _ => rfl) (hM.1 0 _ rfl) (a := (m + 58)) (hM.2.2 57 _ _ _ rfl) rfl ?_
      refine ev_iload 55 dX12_excited_53 rfl rfl ?_
      refine ev_iload 57 dX12_excited_55 rfl rfl ?_
      refine ev_iaddN 58 dX12_excited_57 rfl ?_
      refine ev_dup2_11 59 dX12_excited_58 rfl rfl rfl ?_
      refine ev_iald 60 _ dX12_excited_59 (hM.1 58 _ rfl) rfl (by have hNN := hM.2.1 58 _ rfl; omega) rfl ?_
      refine ev_iload 62 dX12_excited_60 rfl rfl ?_
      refine ev_if_neN 65 73 dX12_excited_62 (by decide) (by omega) rfl (fun h2 => ?_) (fun h2 => ?_)
      · refine ev_iload 75 dX12_excited_73 rfl rfl ?_
        refine ev_invS 78 (Mc := mX12_pulse) ⟨lk1669, lk80, hdX12_pulse, (Nat.le_of_ble_eq_true rfl), (Nat.le_of_ble_eq_true rfl)⟩ lk1667 lk1668 dX12_excited_75 (ct_X12_pulse (by omega)) rfl (Nat.le_of_ble_eq_true rfl) rfl rfl ?_
        refine ev_ineg 79 dX12_excited_78 rfl ?_
        refine ev_iadd 80 dX12_excited_79 rfl ?_
        refine ev_iast 81 _ dX12_excited_80 (hM.1 58 _ rfl) rfl (by have hNN := hM.2.1 58 _ rfl; omega) rfl ?_
        rw [va_up_s, bx_uu]
        rw [show sp_pp es k = - sp_ph k by unfold sp_pp; rw [if_neg h2]] at e
        exact e
      · refine ev_iload 67 dX12_excited_65 rfl rfl ?_
        refine ev_invS 70 (Mc := mX12_pulse) ⟨lk1669, lk80, hdX12_pulse, (Nat.le_of_ble_eq_true rfl), (Nat.le_of_ble_eq_true rfl)⟩ lk1667 lk1668 dX12_excited_67 (ct_X12_pulse (by omega)) rfl (Nat.le_of_ble_eq_true rfl) rfl rfl ?_
        refine ev_goto 79 dX12_excited_70 (by decide) ?_
        refine ev_iadd 80 dX12_excited_79 rfl ?_
        refine ev_iast 81 _ dX12_excited_80 (hM.1 58 _ rfl) rfl (by have hNN := hM.2.1 58 _ rfl; omega) rfl ?_
        rw [va_up_s, bx_uu]
        rw [show sp_pp es k = sp_ph k by unfold sp_pp; rw [if_pos h2]] at e
        exact e
theorem lp_X12_exc3 {s fr sb L ev es od os j : Nat} {p : Int32} {A V : Nat → Int32} {Z : mm_Z} (hM : lyM B P m) (hb : sb ≤ 80) (hj : j < 52) (eA : ∀ n, n < sb → I (m + 55) n = A n) (eV : ∀ n, n < sb → I (m + 58) n = V n)
    (K : Ev g mX12_excited 185 [some (.ref m), some (.int (nI s)), some (.int (nI fr)), some (.int (nI sb)), some (.int (nI L)), some (.int p), some (.int (nI ev)), some (.int (nI es)), some (.int (nI od)), some (.int (nI os)), some (.int (nI j)), none] [] B (va_up I (m + 57) (sgp (I (m + 57)) 0 sb (sp_eE p (nI (sp_gn j)) A V))) (sp_up J m 2 (sp_eT p (nI (sp_gn j)) A V sb)) P Z) : ∀ (d n : Nat), n + d = sb →
    Ev g mX12_excited 131 [some (.ref m), some (.int (nI s)), some (.int (nI fr)), some (.int (nI sb)), some (.int (nI L)), some (.int p), some (.int (nI ev)), some (.int (nI es)), some (.int (nI od)), some (.int (nI os)), some (.int (nI j)), some (.int (nI n))] [] B (va_up I (m + 57) (sgp (I (m + 57)) 0 n (sp_eE p (nI (sp_gn j)) A V))) (sp_up J m 2 (sp_eT p (nI (sp_gn j)) A V n)) P Z := by
  intro d
  induction d with
  | zero =>
    intro n hn
    refine ev_iload 133 dX12_excited_131 rfl rfl ?_
    refine ev_iload_n 134 dX12_excited_133 rfl rfl ?_
    refine ev_icmp_geN 137 185 dX12_excited_134 (by decide) (by omega) (by omega) rfl (fun hbr => ?_) (fun hx => absurd ((by omega)) hx)
    obtain rfl : n = sb := by omega
    refine ev_le (mle_s (mle_s (mle_s (mle_s (mle_s (mle_s (mle_s (mle_s (mle_s (mle_s (mle_s (mle_n (mle_0))))))))))))) ?_
    exact K
  | succ d ih =>
    intro n hn
    have e3 := ih (n + 1) (by omega)
    have e2 := sgp_grow (f := I (m + 57)) (off := 0) (n := n) (v := sp_eE p (nI (sp_gn j)) A V) (x := sp_S (sp_ew p (nI (sp_gn j)) A V n)) rfl
    simp only [Nat.zero_add] at e2
    rw [← e2] at e3
    refine ev_iload 133 dX12_excited_131 rfl rfl ?_
    refine ev_iload_n 134 dX12_excited_133 rfl rfl ?_
    refine ev_icmp_geN 137 185 dX12_excited_134 (by decide) (by omega) (by omega) rfl (fun hx => absurd hx ((by omega))) (fun hbr => ?_)
    refine ev_aload_n 138 dX12_excited_137 rfl rfl ?_
    refine ev_getP 141 mm_cl12 (j := 63) (Nat.le_of_ble_eq_true rfl) dX12_excited_138 lk1348 (fun _ _ _ => rfl) (hM.1 0 _ rfl) (a := (m + 57)) (hM.2.2 56 _ _ _ rfl) rfl ?_
    refine ev_iload 143 dX12_excited_141 rfl rfl ?_
    refine ev_aload_n 144 dX12_excited_143 rfl rfl ?_
    refine ev_iconstN 145 5 dX12_excited_144 rfl ?_
    refine ev_iload 147 dX12_excited_145 rfl rfl ?_
    refine ev_imul 148 dX12_excited_147 rfl ?_
    refine ev_aload_n 149 dX12_excited_148 rfl rfl ?_
    refine ev_getP 152 mm_cl12 (j := 61) (Nat.le_of_ble_eq_true rfl) dX12_excited_149 lk1346 (fun _ _ _ => rfl) (hM.1 0 _ rfl) (a := (m + 55)) (hM.2.2 54 _ _ _ rfl) rfl ?_
    refine ev_iload 154 dX12_excited_152 rfl rfl ?_
    refine ev_iald 155 _ dX12_excited_154 (hM.1 55 _ rfl) rfl (by have hNN := hM.2.1 55 _ rfl; omega) rfl ?_
    refine ev_eqI (y := (A n)) ((by rw [va_up_n _ _ (by omega)]; exact eA n (by omega))) ?_
    refine ev_imul 156 dX12_excited_155 rfl ?_
    refine ev_iconstN 157 5 dX12_excited_156 rfl ?_
    refine ev_ishr 158 dX12_excited_157 rfl ?_
    refine ev_iload 160 dX12_excited_158 rfl rfl ?_
    refine ev_invS 163 (Mc := mX12_gain) ⟨lk1685, lk80, hdX12_gain, (Nat.le_of_ble_eq_true rfl), (Nat.le_of_ble_eq_true rfl)⟩ lk1683 lk1684 dX12_excited_160 (ct_X12_gain hj) rfl (Nat.le_of_ble_eq_true rfl) rfl rfl ?_
    refine ev_aload_n 164 dX12_excited_163 rfl rfl ?_
    refine ev_getP 167 mm_cl12 (j := 64) (Nat.le_of_ble_eq_true rfl) dX12_excited_164 lk1349 (fun _ _ _ => rfl) (hM.1 0 _ rfl) (a := (m + 58)) (hM.2.2 57 _ _ _ rfl) rfl ?_
    refine ev_iload 169 dX12_excited_167 rfl rfl ?_
    refine ev_iald 170 _ dX12_excited_169 (hM.1 58 _ rfl) rfl (by have hNN := hM.2.1 58 _ rfl; omega) rfl ?_
    refine ev_eqI (y := (V n)) ((by rw [va_up_n _ _ (by omega)]; exact eV n (by omega))) ?_
    refine ev_imul 171 dX12_excited_170 rfl ?_
    refine ev_iconstN 172 5 dX12_excited_171 rfl ?_
    refine ev_ishr 173 dX12_excited_172 rfl ?_
    refine ev_iadd 174 dX12_excited_173 rfl ?_
    refine ev_i2l 175 dX12_excited_174 rfl ?_
    refine ev_invV 178 (Mc := mX12_sample16) ⟨lk1608, lk80, hdX12_sample16, (Nat.le_of_ble_eq_true rfl), (Nat.le_of_ble_eq_true rfl)⟩ lk1605 lk1607 lk42 mm_cl12 rfl dX12_excited_175 (ct_X12_sample16 hM) rfl (hM.1 0 _ rfl) (Nat.le_of_ble_eq_true rfl) rfl rfl ?_
    rw [sp_up_up]
    refine ev_iast 179 _ dX12_excited_178 (hM.1 57 _ rfl) rfl (by have hNN := hM.2.1 57 _ rfl; omega) rfl ?_
    refine ev_iincN 182 (lv' := [_, _, _, _, _, _, _, _, _, _, some (.int _), _]) 1 dX12_excited_179 rfl (Nat.le_of_ble_eq_true rfl) rfl rfl ?_
    refine ev_goto 131 dX12_excited_182 (by decide) ?_
    rw [va_up_s, bx_uu]
    exact e3
/-- EXCITED in the model -/
theorem cx_X12_excited {s fr sb L ev es od os j : Nat} {p : Int32} (hM : lyM B P m) (hs : s < 16) (hb : sb ≤ 80) (hfr : fr + sb ≤ 340) (hL : 20 ≤ L) (hL2 : L ≤ 147) (hj : j < 52) (hev : ev < sb) (hod : od < sb) (hes : es < 2 ^ 31) (hos : os < 2 ^ 31) : ∃ I' : mm_TI,
    Ct g mX12_excited [.ref m, .int (nI s), .int (nI fr), .int (nI sb), .int (nI L), .int p, .int (nI ev), .int (nI es), .int (nI od), .int (nI os), .int (nI j)] B I J P
    (none, B, I', sp_up J m 2 (sp_eT p (nI (sp_gn j)) (sp_beh (sg (I (m + 15)) (160 * s) 160) L) (sp_pv sb ev es od os) sb + (sp_sq (sg (I (m + 17)) (8 * s) 8) (sp_eE p (nI (sp_gn j)) (sp_beh (sg (I (m + 15)) (160 * s) 160) L) (sp_pv sb ev es od os)) fr (sg (I (m + 16)) (8 * s) 8, I (m + 54), 0) sb).2.2), P) ∧
    I' (m + 15) = sgp (I (m + 15)) (160 * s) 160 (sp_sh (sg (I (m + 15)) (160 * s) 160) (sp_eE p (nI (sp_gn j)) (sp_beh (sg (I (m + 15)) (160 * s) 160) L) (sp_pv sb ev es od os)) sb) ∧
    I' (m + 16) = sgp (I (m + 16)) (8 * s) 8 (sp_sq (sg (I (m + 17)) (8 * s) 8) (sp_eE p (nI (sp_gn j)) (sp_beh (sg (I (m + 15)) (160 * s) 160) L) (sp_pv sb ev es od os)) fr (sg (I (m + 16)) (8 * s) 8, I (m + 54), 0) sb).1 ∧
    I' (m + 54) = (sp_sq (sg (I (m + 17)) (8 * s) 8) (sp_eE p (nI (sp_gn j)) (sp_beh (sg (I (m + 15)) (160 * s) 160) L) (sp_pv sb ev es od os)) fr (sg (I (m + 16)) (8 * s) 8, I (m + 54), 0) sb).2.1 ∧
    (∀ q, q ≠ m + 15 → q ≠ m + 16 → q ≠ m + 54 → q ≠ m + 55 → q ≠ m + 57 → q ≠ m + 58 → I' q = I q) := by
  generalize hA : sp_beh (sg (I (m + 15)) (160 * s) 160) L = A
  generalize hV : sp_pv sb ev es od os = V
  generalize hE : sp_eE p (nI (sp_gn j)) A V = E
  generalize hI1 : va_up I (m + 55) (sgp (I (m + 55)) 0 sb A) = I1
  have a1 : ∀ q, q ≠ m + 55 → I1 q = I q := fun q h => by rw [← hI1, va_up_n _ _ h]
  generalize hW : sp_ap (sp_ap (sgp (I1 (m + 58)) 0 sb (fun _ => nI 0)) ev es (min 3 (sb - ev))) od os (min 3 (sb - od)) = W
  generalize hI2 : va_up I1 (m + 58) W = I2
  have a2 : ∀ q, q ≠ m + 55 → q ≠ m + 58 → I2 q = I q := fun q h h' => by rw [← hI2, va_up_n _ _ h']; exact a1 q h
  have eA : ∀ n, n < sb → I2 (m + 55) n = A n := fun n hn => by
    rw [← hI2, va_up_n _ _ (by omega), ← hI1, va_up_s]
    have e := sgp_in (f := I (m + 55)) (v := A) (off := 0) hn
    rw [Nat.zero_add] at e
    exact e
  have eV : ∀ n, n < sb → I2 (m + 58) n = V n := fun n hn => by
    rw [← hI2, va_up_s, ← hW, ← hV]
    unfold sp_pv
    refine sp_ap_cg _ _ _ (sp_ap_cg _ _ _ ?_)
    have e := sgp_in (f := I1 (m + 58)) (v := fun _ => nI 0) (off := 0) hn
    rw [Nat.zero_add] at e
    rw [e, nI_0]
  obtain ⟨I', c', r1, r2, r3, r4⟩ := cx_X12_sound (g := g) (I := va_up I2 (m + 57) (sgp (I2 (m + 57)) 0 sb E)) (J := sp_up J m 2 (sp_eT p (nI (sp_gn j)) A V sb)) (s := s) (fr := fr) (sb := sb) (E := E) (H := sg (I (m + 15)) (160 * s) 160) (V := sg (I (m + 16)) (8 * s) 8) hM hs hb hfr
    (fun n hn => by rw [va_up_s]; have e := sgp_in (f := I2 (m + 57)) (v := E) (off := 0) hn; rw [Nat.zero_add] at e; exact e)
    (by rw [va_up_n _ _ (by omega), a2 _ (by omega) (by omega)]) (by rw [va_up_n _ _ (by omega), a2 _ (by omega) (by omega)])
  simp only [va_up_n I2 (k := m + 57) (j := m + 15) _ (by omega), va_up_n I2 (k := m + 57) (j := m + 16) _ (by omega), va_up_n I2 (k := m + 57) (j := m + 17) _ (by omega), va_up_n I2 (k := m + 57) (j := m + 54) _ (by omega), a2 (m + 15) (by omega) (by omega), a2 (m + 16) (by omega) (by omega), a2 (m + 17) (by omega) (by omega), a2 (m + 54) (by omega) (by omega), sp_up_up] at c' r1 r2 r3
  refine ⟨I', ?_, r1, r2, r3, fun q h1 h2 h3 h4 h5 h6 => ?_⟩
  · refine ct_of (lv := [some (.ref m), some (.int (nI s)), some (.int (nI fr)), some (.int (nI sb)), some (.int (nI L)), some (.int p), some (.int (nI ev)), some (.int (nI es)), some (.int (nI od)), some (.int (nI os)), some (.int (nI j)), none]) (by decide +kernel) (Nat.le_of_ble_eq_true rfl) rfl ?_
    refine ev_aload_n 1 dX12_excited_0 rfl rfl ?_
    refine ev_iload_n 2 dX12_excited_1 rfl rfl ?_
    refine ev_iload 4 dX12_excited_2 rfl rfl ?_
    refine ev_iload_n 5 dX12_excited_4 rfl rfl ?_
    refine ev_invVv 8 (Mc := mX12_behind) ⟨lk1694, lk80, hdX12_behind, (Nat.le_of_ble_eq_true rfl), (Nat.le_of_ble_eq_true rfl)⟩ lk1691 lk1693 lk58 mm_cl12 rfl dX12_excited_5 (ct_X12_behind hM hs hL hL2 hb) rfl (hM.1 0 _ rfl) (Nat.le_of_ble_eq_true rfl) rfl rfl ?_
    rw [hA, hI1]
    refine ev_iconstN 9 0 dX12_excited_8 rfl ?_
    refine ev_istore 11 (lv' := [_, _, _, _, _, _, _, _, _, _, some (.int _), _]) dX12_excited_9 (Nat.le_of_ble_eq_true rfl) rfl rfl ?_
    have e1 := lp_X12_exc1 (g := g) (I := I1) (J := J) (s := s) (fr := fr) (sb := sb) (L := L) (ev := ev) (es := es) (od := od) (os := os) (j := j) (p := p) (Z := (none, B, I', sp_up J m 2 (sp_eT p (nI (sp_gn j)) A V sb + (sp_sq (sg (I (m + 17)) (8 * s) 8) E fr (sg (I (m + 16)) (8 * s) 8, I (m + 54), 0) sb).2.2), P)) hM hb ?_ sb 0 (by omega)
    · rw [sgp_0, va_up_id] at e1
      exact e1
    refine ev_iconstN 32 0 dX12_excited_31 rfl ?_
    refine ev_istore 34 (lv' := [_, _, _, _, _, _, _, _, _, _, some (.int _), _]) dX12_excited_32 (Nat.le_of_ble_eq_true rfl) rfl rfl ?_
    have e2 := lp_X12_exc2 (g := g) (I := I1) (J := J) (s := s) (fr := fr) (sb := sb) (L := L) (ev := ev) (es := es) (od := od) (os := os) (j := j) (p := p) (F := sgp (I1 (m + 58)) 0 sb (fun _ => nI 0)) (Z := (none, B, I', sp_up J m 2 (sp_eT p (nI (sp_gn j)) A V sb + (sp_sq (sg (I (m + 17)) (8 * s) 8) E fr (sg (I (m + 16)) (8 * s) 8, I (m + 54), 0) sb).2.2), P)) hM hb hev hod hes hos ?_ 3 0 (by omega)
    · rw [Nat.zero_min, Nat.zero_min, sp_ap_0, sp_ap_0] at e2
      exact e2
    rw [hW, hI2]
    refine ev_iconstN 129 0 dX12_excited_128 rfl ?_
    refine ev_istore 131 (lv' := [_, _, _, _, _, _, _, _, _, _, some (.int _), _]) dX12_excited_129 (Nat.le_of_ble_eq_true rfl) rfl rfl ?_
    have e3 := lp_X12_exc3 (g := g) (I := I2) (J := J) (s := s) (fr := fr) (sb := sb) (L := L) (ev := ev) (es := es) (od := od) (os := os) (j := j) (p := p) (A := A) (V := V) (Z := (none, B, I', sp_up J m 2 (sp_eT p (nI (sp_gn j)) A V sb + (sp_sq (sg (I (m + 17)) (8 * s) 8) E fr (sg (I (m + 16)) (8 * s) 8, I (m + 54), 0) sb).2.2), P)) hM hb hj eA eV ?_ sb 0 (by omega)
    · rw [sgp_0, va_up_id, show sp_eT p (nI (sp_gn j)) A V 0 = 0 from rfl, sp_up_0] at e3
      exact e3
    rw [hE]
    refine ev_aload_n 186 dX12_excited_185 rfl rfl ?_
    refine ev_iload_n 187 dX12_excited_186 rfl rfl ?_
    refine ev_iload_n 188 dX12_excited_187 rfl rfl ?_
    refine ev_iload_n 189 dX12_excited_188 rfl rfl ?_
    refine ev_invVv 192 (Mc := mX12_sound) ⟨lk1622, lk80, hdX12_sound, (Nat.le_of_ble_eq_true rfl), (Nat.le_of_ble_eq_true rfl)⟩ lk1619 lk1621 lk45 mm_cl12 rfl dX12_excited_189 (c') rfl (hM.1 0 _ rfl) (Nat.le_of_ble_eq_true rfl) rfl rfl ?_
    exact ev_vret dX12_excited_192 rfl (rfl)
  · rw [r4 q h1 h2 h3, va_up_n _ _ h5]
    exact a2 q h4 h6
end MO5
