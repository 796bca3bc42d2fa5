section MO1
variable {g : mm_G} {B : mm_B} {I : mm_TI} {J : mm_TJ} {P : mm_TP} {m : Nat}
theorem ct_X12_tell {a : Int32} {t : Nat} (hM : lyM B P m) (ht : I m 5 = nI t) (h64 : t < 64) : Ct g mX12_tell [.ref m, .int a] B I J P (none, B, va_up (va_up I (m + 2) (va_up (I (m + 2)) t a)) m (va_up (I m) 5 (nI (t + 1))), J, P) := by
  refine ct_of (lv := [some (.ref m), some (.int a)]) (by decide +kernel) (Nat.le_of_ble_eq_true rfl) rfl ?_
  refine ev_aload_n 1 dX12_tell_0 rfl rfl ?_
  refine ev_getP 4 mm_cl12 (j := 4) (Nat.le_of_ble_eq_true rfl) dX12_tell_1 lk1289 (fun _ _ _ => rfl) (hM.1 0 _ rfl) (a := (m + 2)) (hM.2.2 1 _ _ _ rfl) rfl ?_
  refine ev_aload_n 5 dX12_tell_4 rfl rfl ?_
  refine ev_getI 8 mm_cl12 (j := 5) (Nat.le_of_ble_eq_true rfl) dX12_tell_5 lk1290 (fun _ _ _ => rfl) (hM.1 0 _ rfl) rfl ?_
  refine ev_eqI (y := nI (t)) (ht) ?_
  refine ev_iload_n 9 dX12_tell_8 rfl rfl ?_
  refine ev_iast 10 _ dX12_tell_9 (hM.1 2 _ rfl) rfl (by have hNN := hM.2.1 2 _ rfl; omega) rfl ?_
  refine ev_aload_n 11 dX12_tell_10 rfl rfl ?_
  refine ev_dup 12 dX12_tell_11 rfl rfl ?_
  refine ev_getI 15 mm_cl12 (j := 5) (Nat.le_of_ble_eq_true rfl) dX12_tell_12 lk1290 (fun _ _ _ => rfl) (hM.1 0 _ rfl) rfl ?_
  refine ev_eqI (y := nI (t)) ((by rw [va_up_n _ _ (by omega)]; exact ht)) ?_
  refine ev_iconstN 16 1 dX12_tell_15 rfl ?_
  refine ev_iaddN 17 dX12_tell_16 rfl ?_
  refine ev_putI 20 mm_cl12 (j := 5) (Nat.le_of_ble_eq_true rfl) dX12_tell_17 lk1290 rfl (fun _ _ _ => rfl) rfl rfl (hM.1 0 _ rfl) rfl ?_
  rw [va_up_n I (k := m + 2) (j := m) _ (by omega)]
  exact ev_vret dX12_tell_20 rfl (rfl)
end MO1
/-- SYNTHESIS of one number: from place k down; the answer, V, the saturations -/
def sp_syn (ix : Nat → Int32) : Nat → Int32 → (Nat → Int32) → Int64 → Int32 × (Nat → Int32) × Int64
  | 0, f, V, t => (f, va_up V 0 f, t)
  | k + 1, f, V, t => sp_syn ix k (sp_S (f.toInt64 - sp_half (V k).toInt64 (nI 1024 * ix k).toInt64))
      (if k + 1 < 8 then va_up V (k + 1) (sp_S ((V k).toInt64 + sp_half (sp_S (f.toInt64 - sp_half (V k).toInt64 (nI 1024 * ix k).toInt64)).toInt64 (nI 1024 * ix k).toInt64)) else V)
      (t + (sp_t (f.toInt64 - sp_half (V k).toInt64 (nI 1024 * ix k).toInt64) + sp_t ((V k).toInt64 + sp_half (sp_S (f.toInt64 - sp_half (V k).toInt64 (nI 1024 * ix k).toInt64)).toInt64 (nI 1024 * ix k).toInt64)))
section MO2
variable {g : mm_G} {B : mm_B} {I : mm_TI} {J : mm_TJ} {P : mm_TP} {m : Nat}
theorem lp_X12_synthesis {s : Nat} {n : Int32} (hM : lyM B P m) (hs : s < 16) : ∀ (k : Nat) (f : Int32) (V : Nat → Int32) (t : Int64), k ≤ 8 →
    Ev g mX12_synthesis 6 [some (.ref m), some (.int (nI s)), some (.int n), some (.int f), some (.int (nI k)), none, none, none] [] B (va_up I (m + 16) (sgp (I (m + 16)) (8 * s) 8 V)) (sp_up J m 2 t) P
      (some (.int (sp_syn (sg (I (m + 17)) (8 * s) 8) k f V t).1), B, va_up I (m + 16) (sgp (I (m + 16)) (8 * s) 8 (sp_syn (sg (I (m + 17)) (8 * s) 8) k f V t).2.1), sp_up J m 2 (sp_syn (sg (I (m + 17)) (8 * s) 8) k f V t).2.2, P) := by
  intro k
  induction k with
  | zero =>
    intro f V t _
    refine ev_iload 8 dX12_synthesis_6 rfl rfl ?_
    refine ev_if_leN 11 109 dX12_synthesis_8 (by decide) (by omega) rfl (fun hbr => ?_) (fun hx => absurd ((Nat.le_refl 0)) hx)
    refine ev_aload_n 110 dX12_synthesis_109 rfl rfl ?_
    refine ev_getP 113 mm_cl12 (j := 21) (Nat.le_of_ble_eq_true rfl) dX12_synthesis_110 lk1306 (fun _ _ _ => rfl) (hM.1 0 _ rfl) (a := (m + 16)) (hM.2.2 15 _ _ _ rfl) rfl ?_
    refine ev_bipushN 115 8 dX12_synthesis_113 (by decide +kernel) rfl ?_
    refine ev_iload_n 116 dX12_synthesis_115 rfl rfl ?_
    refine ev_imulN 117 dX12_synthesis_116 rfl ?_
    refine ev_iload_n 118 dX12_synthesis_117 rfl rfl ?_
    refine ev_iast 119 _ dX12_synthesis_118 (hM.1 16 _ rfl) rfl (by have hNN := hM.2.1 16 _ rfl; omega) rfl ?_
    refine ev_iload_n 120 dX12_synthesis_119 rfl rfl ?_
    have e := sgp_up (f := I (m + 16)) (off := 8 * s) (len := 8) (k := 0) (v := V) (x := f) (by decide)
    simp only [Nat.add_zero] at e
    rw [va_up_s, bx_uu, e]
    exact ev_iret dX12_synthesis_120 rfl (rfl)
  | succ k ih =>
    intro f V t hk
    refine ev_iload 8 dX12_synthesis_6 rfl rfl ?_
    refine ev_if_leN 11 109 dX12_synthesis_8 (by decide) (by omega) rfl (fun hx => absurd hx ((by omega))) (fun hbr => ?_)
    refine ev_sipushN 14 1024 dX12_synthesis_11 (by decide +kernel) rfl ?_
    refine ev_aload_n 15 dX12_synthesis_14 rfl rfl ?_
    refine ev_getP 18 mm_cl12 (j := 22) (Nat.le_of_ble_eq_true rfl) dX12_synthesis_15 lk1307 (fun _ _ _ => rfl) (hM.1 0 _ rfl) (a := (m + 17)) (hM.2.2 16 _ _ _ rfl) rfl ?_
    refine ev_bipushN 20 8 dX12_synthesis_18 (by decide +kernel) rfl ?_
    refine ev_iload_n 21 dX12_synthesis_20 rfl rfl ?_
    refine ev_imulN 22 dX12_synthesis_21 rfl ?_
    refine ev_iload 24 dX12_synthesis_22 rfl rfl ?_
    refine ev_iaddN 25 dX12_synthesis_24 rfl ?_
    refine ev_iconstN 26 1 dX12_synthesis_25 rfl ?_
    refine ev_isubN 27 dX12_synthesis_26 (by omega) rfl ?_
    refine ev_iald 28 _ dX12_synthesis_27 (hM.1 17 _ rfl) rfl (by have hNN := hM.2.1 17 _ rfl; omega) rfl ?_
    refine ev_eqI (y := (sg (I (m + 17)) (8 * s) 8 k)) ((by rw [va_up_n _ _ (by omega), sg_in (by omega), show 8 * s + (k + 1) - 1 = 8 * s + k by omega])) ?_
    refine ev_imul 29 dX12_synthesis_28 rfl ?_
    refine ev_istore 31 (lv' := [_, _, _, _, some (.int _), _, _, _]) dX12_synthesis_29 (Nat.le_of_ble_eq_true rfl) rfl rfl ?_
    refine ev_aload_n 32 dX12_synthesis_31 rfl rfl ?_
    refine ev_getP 35 mm_cl12 (j := 21) (Nat.le_of_ble_eq_true rfl) dX12_synthesis_32 lk1306 (fun _ _ _ => rfl) (hM.1 0 _ rfl) (a := (m + 16)) (hM.2.2 15 _ _ _ rfl) rfl ?_
    refine ev_bipushN 37 8 dX12_synthesis_35 (by decide +kernel) rfl ?_
    refine ev_iload_n 38 dX12_synthesis_37 rfl rfl ?_
    refine ev_imulN 39 dX12_synthesis_38 rfl ?_
    refine ev_iload 41 dX12_synthesis_39 rfl rfl ?_
    refine ev_iaddN 42 dX12_synthesis_41 rfl ?_
    refine ev_iconstN 43 1 dX12_synthesis_42 rfl ?_
    refine ev_isubN 44 dX12_synthesis_43 (by omega) rfl ?_
    refine ev_iald 45 _ dX12_synthesis_44 (hM.1 16 _ rfl) rfl (by have hNN := hM.2.1 16 _ rfl; omega) rfl ?_
    refine ev_eqI (y := (V k)) ((by rw [va_up_s, show 8 * s + (k + 1) - 1 = 8 * s + k by omega, sgp_in (by omega)])) ?_
    refine ev_istore 47 (lv' := [_, _, _, _, _, some (.int _), _, _]) dX12_synthesis_45 (Nat.le_of_ble_eq_true rfl) rfl rfl ?_
    refine ev_aload_n 48 dX12_synthesis_47 rfl rfl ?_
    refine ev_iload_n 49 dX12_synthesis_48 rfl rfl ?_
    refine ev_i2l 50 dX12_synthesis_49 rfl ?_
    refine ev_iload 52 dX12_synthesis_50 rfl rfl ?_
    refine ev_i2l 53 dX12_synthesis_52 rfl ?_
    refine ev_iload 55 dX12_synthesis_53 rfl rfl ?_
    refine ev_i2l 56 dX12_synthesis_55 rfl ?_
    refine ev_invS 59 (Mc := mX12_half) ⟨lk1603, lk80, hdX12_half, (Nat.le_of_ble_eq_true rfl), (Nat.le_of_ble_eq_true rfl)⟩ lk1601 lk1602 dX12_synthesis_56 (ct_X12_half) rfl (Nat.le_of_ble_eq_true rfl) rfl rfl ?_
    refine ev_lsub 60 dX12_synthesis_59 rfl ?_
    refine ev_invV 63 (Mc := mX12_sample16) ⟨lk1608, lk80, hdX12_sample16, (Nat.le_of_ble_eq_true rfl), (Nat.le_of_ble_eq_true rfl)⟩ lk1605 lk1607 lk42 mm_cl12 rfl dX12_synthesis_60 (ct_X12_sample16 hM) rfl (hM.1 0 _ rfl) (Nat.le_of_ble_eq_true rfl) rfl rfl ?_
    refine ev_istore_n 64 (lv' := [_, _, some (.int _), _, _, _, _, _]) dX12_synthesis_63 (Nat.le_of_ble_eq_true rfl) rfl rfl ?_
    refine ev_aload_n 65 dX12_synthesis_64 rfl rfl ?_
    refine ev_iload 67 dX12_synthesis_65 rfl rfl ?_
    refine ev_i2l 68 dX12_synthesis_67 rfl ?_
    refine ev_iload_n 69 dX12_synthesis_68 rfl rfl ?_
    refine ev_i2l 70 dX12_synthesis_69 rfl ?_
    refine ev_iload 72 dX12_synthesis_70 rfl rfl ?_
    refine ev_i2l 73 dX12_synthesis_72 rfl ?_
    refine ev_invS 76 (Mc := mX12_half) ⟨lk1603, lk80, hdX12_half, (Nat.le_of_ble_eq_true rfl), (Nat.le_of_ble_eq_true rfl)⟩ lk1601 lk1602 dX12_synthesis_73 (ct_X12_half) rfl (Nat.le_of_ble_eq_true rfl) rfl rfl ?_
    refine ev_ladd 77 dX12_synthesis_76 rfl ?_
    refine ev_invV 80 (Mc := mX12_sample16) ⟨lk1608, lk80, hdX12_sample16, (Nat.le_of_ble_eq_true rfl), (Nat.le_of_ble_eq_true rfl)⟩ lk1605 lk1607 lk42 mm_cl12 rfl dX12_synthesis_77 (ct_X12_sample16 hM) rfl (hM.1 0 _ rfl) (Nat.le_of_ble_eq_true rfl) rfl rfl ?_
    rw [sp_up_up, sp_up_up]
    refine ev_istore 82 (lv' := [_, _, _, _, _, _, some (.int _), _]) dX12_synthesis_80 (Nat.le_of_ble_eq_true rfl) rfl rfl ?_
    refine ev_iload 84 dX12_synthesis_82 rfl rfl ?_
    refine ev_bipushN 86 8 dX12_synthesis_84 (by decide +kernel) rfl ?_
    refine ev_icmp_geN 89 103 dX12_synthesis_86 (by decide) (by omega) (by omega) rfl (fun h8 => ?_) (fun h8 => ?_)
    · refine ev_iincM 106 (lv' := [_, _, _, some (.int _), _, _, _, _]) 1 dX12_synthesis_103 rfl (by omega) (Nat.le_of_ble_eq_true rfl) rfl rfl ?_
      refine ev_goto 6 dX12_synthesis_106 (by decide) ?_
      refine ev_le (mle_s (mle_s (mle_s (mle_s (mle_s (mle_n (mle_n (mle_n (mle_0))))))))) ?_
      rw [Nat.add_sub_cancel]
      unfold sp_syn
      rw [if_neg (by omega)]
      exact ih _ _ _ (by omega)
    · refine ev_aload_n 90 dX12_synthesis_89 rfl rfl ?_
      refine ev_getP 93 mm_cl12 (j := 21) (Nat.le_of_ble_eq_true rfl) dX12_synthesis_90 lk1306 (fun _ _ _ => rfl) (hM.1 0 _ rfl) (a := (m + 16)) (hM.2.2 15 _ _ _ rfl) rfl ?_
      refine ev_bipushN 95 8 dX12_synthesis_93 (by decide +kernel) rfl ?_
      refine ev_iload_n 96 dX12_synthesis_95 rfl rfl ?_
      refine ev_imulN 97 dX12_synthesis_96 rfl ?_
      refine ev_iload 99 dX12_synthesis_97 rfl rfl ?_
      refine ev_iaddN 100 dX12_synthesis_99 rfl ?_
      refine ev_iload 102 dX12_synthesis_100 rfl rfl ?_
      refine ev_iast 103 _ dX12_synthesis_102 (hM.1 16 _ rfl) rfl (by have hNN := hM.2.1 16 _ rfl; omega) rfl ?_
      refine ev_iincM 106 (lv' := [_, _, _, some (.int _), _, _, _, _]) 1 dX12_synthesis_103 rfl (by omega) (Nat.le_of_ble_eq_true rfl) rfl rfl ?_
      refine ev_goto 6 dX12_synthesis_106 (by decide) ?_
      refine ev_le (mle_s (mle_s (mle_s (mle_s (mle_s (mle_n (mle_n (mle_n (mle_0))))))))) ?_
      rw [Nat.add_sub_cancel, va_up_s, bx_uu, sgp_up (by omega)]
      unfold sp_syn
      rw [if_pos (by omega)]
      exact ih _ _ _ (by omega)
theorem ct_X12_synthesis {s : Nat} {f : Int32} (hM : lyM B P m) (hs : s < 16) : Ct g mX12_synthesis [.ref m, .int (nI s), .int f] B I J P
    (some (.int (sp_syn (sg (I (m + 17)) (8 * s) 8) 8 f (sg (I (m + 16)) (8 * s) 8) 0).1), B, va_up I (m + 16) (sgp (I (m + 16)) (8 * s) 8 (sp_syn (sg (I (m + 17)) (8 * s) 8) 8 f (sg (I (m + 16)) (8 * s) 8) 0).2.1), sp_up J m 2 (sp_syn (sg (I (m + 17)) (8 * s) 8) 8 f (sg (I (m + 16)) (8 * s) 8) 0).2.2, P) := by
  refine ct_of (lv := [some (.ref m), some (.int (nI s)), some (.int f), none, none, none, none, none]) (by decide +kernel) (Nat.le_of_ble_eq_true rfl) rfl ?_
  refine ev_iload_n 1 dX12_synthesis_0 rfl rfl ?_
  refine ev_istore_n 2 (lv' := [_, _, some (.int _), _, _, _, _, _]) dX12_synthesis_1 (Nat.le_of_ble_eq_true rfl) rfl rfl ?_
  refine ev_bipushN 4 8 dX12_synthesis_2 (by decide +kernel) rfl ?_
  refine ev_istore 6 (lv' := [_, _, _, some (.int _), _, _, _, _]) dX12_synthesis_4 (Nat.le_of_ble_eq_true rfl) rfl rfl ?_
  have e := lp_X12_synthesis (g := g) (I := I) (J := J) (n := f) hM hs 8 f (sg (I (m + 16)) (8 * s) 8) 0 (Nat.le_refl 8)
  rw [sgp_sg, va_up_id, sp_up_0] at e
  exact e
end MO2
