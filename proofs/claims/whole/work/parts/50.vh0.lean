/-! THE CLASS: numbers -/
section VH0
variable {g : mm_G} {B : mm_B} {I : mm_TI} {J : mm_TJ} {P : mm_TP} {x b : Nat}
theorem ct_X11_half {p q : Int64} : Ct g mX11_half [.long p, .long q] B I J P (some (.long (sp_half p q)), B, I, J, P) := by
  refine ct_of (lv := [some (.long p), none, some (.long q), none]) (by decide +kernel) (Nat.le_of_ble_eq_true rfl) rfl ?_
  refine ev_lload_n 1 dX11_half_0 rfl rfl ?_
  refine ev_lload_n 2 dX11_half_1 rfl rfl ?_
  refine ev_lmul 3 dX11_half_2 rfl ?_
  refine ev_ldc2 6 dX11_half_3 lk670 rfl ?_
  refine ev_ladd 7 dX11_half_6 rfl ?_
  refine ev_bipushN 9 15 dX11_half_7 (by decide +kernel) rfl ?_
  refine ev_lshr 10 dX11_half_9 rfl ?_
  exact ev_lret dX11_half_10 rfl (rfl)
theorem ct_X10_narrow {w : Int64} (hV : lyV B P x) : Ct g mX10_narrow [.ref (x + 1), .long w] B I J P (some (.int (sp_S w)), B, I, sp_up J (x + 1) 3 (sp_t w), P) := by
  refine ct_of (lv := [some (.ref (x + 1)), some (.long w), none]) (by decide +kernel) (Nat.le_of_ble_eq_true rfl) rfl ?_
  refine ev_lload_n 1 dX10_narrow_0 rfl rfl ?_
  refine ev_ldc2 4 dX10_narrow_1 lk675 rfl ?_
  refine ev_lcmp 5 dX10_narrow_4 rfl ?_
  refine ev_lc_ge 8 22 dX10_narrow_5 (by decide) rfl (fun h1 => ?_) (fun h1 => ?_)
  · refine ev_lload_n 23 dX10_narrow_22 rfl rfl ?_
    refine ev_ldc2 26 dX10_narrow_23 lk676 rfl ?_
    refine ev_lcmp 27 dX10_narrow_26 rfl ?_
    refine ev_lc_le 30 44 dX10_narrow_27 (by decide) rfl (fun h2 => ?_) (fun h2 => ?_)
    · refine ev_lload_n 45 dX10_narrow_44 rfl rfl ?_
      refine ev_l2i 46 dX10_narrow_45 rfl ?_
      rw [show sp_S w = w.toInt32 by unfold sp_S; rw [if_neg h1, if_neg h2], show sp_t w = 0 by unfold sp_t; rw [if_neg (fun h => h.elim h1 h2)], sp_up_0]
      exact ev_iret dX10_narrow_46 rfl (rfl)
    · refine ev_aload_n 31 dX10_narrow_30 rfl rfl ?_
      refine ev_dup 32 dX10_narrow_31 rfl rfl ?_
      refine ev_getJ 35 mm_cl10 (j := 3) (Nat.le_of_ble_eq_true rfl) dX10_narrow_32 lk114 (fun _ _ _ => rfl) (hV.1 1 _ rfl) rfl ?_
      refine ev_lconst 36 (v := 1) dX10_narrow_35 (by decide +kernel) rfl ?_
      refine ev_ladd 37 dX10_narrow_36 rfl ?_
      refine ev_putJ 40 mm_cl10 (j := 3) (Nat.le_of_ble_eq_true rfl) dX10_narrow_37 lk114 rfl (fun _ _ _ => rfl) rfl rfl (hV.1 1 _ rfl) rfl ?_
      refine ev_sipushN 43 32767 dX10_narrow_40 (by decide +kernel) rfl ?_
      rw [show sp_S w = nI 32767 by unfold sp_S; rw [if_neg h1, if_pos h2]; decide +kernel, show sp_t w = 1 by unfold sp_t; rw [if_pos (Or.inr h2)]]
      exact ev_iret dX10_narrow_43 rfl (rfl)
  · refine ev_aload_n 9 dX10_narrow_8 rfl rfl ?_
    refine ev_dup 10 dX10_narrow_9 rfl rfl ?_
    refine ev_getJ 13 mm_cl10 (j := 3) (Nat.le_of_ble_eq_true rfl) dX10_narrow_10 lk114 (fun _ _ _ => rfl) (hV.1 1 _ rfl) rfl ?_
    refine ev_lconst 14 (v := 1) dX10_narrow_13 (by decide +kernel) rfl ?_
    refine ev_ladd 15 dX10_narrow_14 rfl ?_
    refine ev_putJ 18 mm_cl10 (j := 3) (Nat.le_of_ble_eq_true rfl) dX10_narrow_15 lk114 rfl (fun _ _ _ => rfl) rfl rfl (hV.1 1 _ rfl) rfl ?_
    refine ev_sipush 21 (v := -32768) dX10_narrow_18 (by decide +kernel) rfl ?_
    rw [show sp_S w = -32768 by unfold sp_S; rw [if_pos h1], show sp_t w = 1 by unfold sp_t; rw [if_pos (Or.inl h1)]]
    exact ev_iret dX10_narrow_21 rfl (rfl)
theorem lp_X6_synthesized {n : Int32} (hV : lyV B P x) (hK : lyK B P x b) : ∀ (k : Nat) (f : Int32) (V : Nat → Int32) (t : Int64), k ≤ 8 →
    Ev g mX6_synthesized 5 [some (.ref b), some (.int n), some (.int f), some (.int (nI k)), none, none, none] [] B (va_up I (b + 2) V) (sp_up J (x + 1) 3 t) P
      (some (.int (sp_syn (I (b + 3)) k f V t).1), B, va_up I (b + 2) (sp_syn (I (b + 3)) k f V t).2.1, sp_up J (x + 1) 3 (sp_syn (I (b + 3)) k f V t).2.2, P) := by
  intro k
  induction k with
  | zero =>
    intro f V t _
    refine ev_iload_n 6 dX6_synthesized_5 rfl rfl ?_
    refine ev_iconstN 7 1 dX6_synthesized_6 rfl ?_
    refine ev_icmp_ltN 10 95 dX6_synthesized_7 (by decide) (by omega) (by omega) rfl (fun hbr => ?_) (fun hx => absurd ((by omega)) hx)
    refine ev_aload_n 96 dX6_synthesized_95 rfl rfl ?_
    refine ev_getP 99 mm_cl6 (j := 1) (Nat.le_of_ble_eq_true rfl) dX6_synthesized_96 lk344 (fun _ _ _ => rfl) (hK.1 0 _ rfl) (a := (b + 2)) (hK.2.2.1 1 _ _ _ rfl) rfl ?_
    refine ev_iconstN 100 0 dX6_synthesized_99 rfl ?_
    refine ev_iload_n 101 dX6_synthesized_100 rfl rfl ?_
    refine ev_iast 102 _ dX6_synthesized_101 (hK.1 2 _ rfl) rfl (by have hNN := hK.2.1 2 _ rfl; omega) rfl ?_
    refine ev_iload_n 103 dX6_synthesized_102 rfl rfl ?_
    rw [va_up_s, bx_uu]
    exact ev_iret dX6_synthesized_103 rfl (rfl)
  | succ k ih =>
    intro f V t hk
    refine ev_iload_n 6 dX6_synthesized_5 rfl rfl ?_
    refine ev_iconstN 7 1 dX6_synthesized_6 rfl ?_
    refine ev_icmp_ltN 10 95 dX6_synthesized_7 (by decide) (by omega) (by omega) rfl (fun hx => absurd hx ((by omega))) (fun hbr => ?_)
    refine ev_sipushN 13 1024 dX6_synthesized_10 (by decide +kernel) rfl ?_
    refine ev_aload_n 14 dX6_synthesized_13 rfl rfl ?_
    refine ev_getP 17 mm_cl6 (j := 2) (Nat.le_of_ble_eq_true rfl) dX6_synthesized_14 lk346 (fun _ _ _ => rfl) (hK.1 0 _ rfl) (a := (b + 3)) (hK.2.2.1 2 _ _ _ rfl) rfl ?_
    refine ev_iload_n 18 dX6_synthesized_17 rfl rfl ?_
    refine ev_iconstN 19 1 dX6_synthesized_18 rfl ?_
    refine ev_isubN 20 dX6_synthesized_19 (by omega) rfl ?_
    refine ev_iald 21 _ dX6_synthesized_20 (hK.1 3 _ rfl) rfl (by have hNN := hK.2.1 3 _ rfl; omega) rfl ?_
    refine ev_eqI (y := (I (b + 3) k)) ((by rw [va_up_n _ _ (by omega), Nat.add_sub_cancel])) ?_
    refine ev_imul 22 dX6_synthesized_21 rfl ?_
    refine ev_istore 24 (lv' := [_, _, _, some (.int _), _, _, _]) dX6_synthesized_22 (Nat.le_of_ble_eq_true rfl) rfl rfl ?_
    refine ev_aload_n 25 dX6_synthesized_24 rfl rfl ?_
    refine ev_getP 28 mm_cl6 (j := 1) (Nat.le_of_ble_eq_true rfl) dX6_synthesized_25 lk344 (fun _ _ _ => rfl) (hK.1 0 _ rfl) (a := (b + 2)) (hK.2.2.1 1 _ _ _ rfl) rfl ?_
    refine ev_iload_n 29 dX6_synthesized_28 rfl rfl ?_
    refine ev_iconstN 30 1 dX6_synthesized_29 rfl ?_
    refine ev_isubN 31 dX6_synthesized_30 (by omega) rfl ?_
    refine ev_iald 32 _ dX6_synthesized_31 (hK.1 2 _ rfl) rfl (by have hNN := hK.2.1 2 _ rfl; omega) rfl ?_
    refine ev_eqI (y := (V k)) ((by rw [va_up_s, Nat.add_sub_cancel])) ?_
    refine ev_istore 34 (lv' := [_, _, _, _, some (.int _), _, _]) dX6_synthesized_32 (Nat.le_of_ble_eq_true rfl) rfl rfl ?_
    refine ev_aload_n 35 dX6_synthesized_34 rfl rfl ?_
    refine ev_getP 38 mm_cl6 (j := 4) (Nat.le_of_ble_eq_true rfl) dX6_synthesized_35 lk354 (fun _ _ _ => rfl) (hK.1 0 _ rfl) (a := (x + 1)) (hK.2.2.2 0 _ _ _ rfl) rfl ?_
    refine ev_iload_n 39 dX6_synthesized_38 rfl rfl ?_
    refine ev_i2l 40 dX6_synthesized_39 rfl ?_
    refine ev_iload 42 dX6_synthesized_40 rfl rfl ?_
    refine ev_i2l 43 dX6_synthesized_42 rfl ?_
    refine ev_iload 45 dX6_synthesized_43 rfl rfl ?_
    refine ev_i2l 46 dX6_synthesized_45 rfl ?_
    refine ev_invSN 49 (Mc := mX11_half) ⟨lk669, lk75, hdX11_half, (Nat.le_of_ble_eq_true rfl), (Nat.le_of_ble_eq_true rfl)⟩ lk824 lk668 dX6_synthesized_46 (ct_X11_half) rfl (Nat.le_of_ble_eq_true rfl) rfl rfl ?_
    refine ev_lsub 50 dX6_synthesized_49 rfl ?_
    refine ev_invV 53 (Mc := mX10_narrow) ⟨lk674, lk76, hdX10_narrow, (Nat.le_of_ble_eq_true rfl), (Nat.le_of_ble_eq_true rfl)⟩ lk814 lk672 lk673 mm_cl10 rfl dX6_synthesized_50 (ct_X10_narrow hV) rfl (hV.1 1 _ rfl) (Nat.le_of_ble_eq_true rfl) rfl rfl ?_
    refine ev_istore_n 54 (lv' := [_, some (.int _), _, _, _, _, _]) dX6_synthesized_53 (Nat.le_of_ble_eq_true rfl) rfl rfl ?_
    refine ev_aload_n 55 dX6_synthesized_54 rfl rfl ?_
    refine ev_getP 58 mm_cl6 (j := 4) (Nat.le_of_ble_eq_true rfl) dX6_synthesized_55 lk354 (fun _ _ _ => rfl) (hK.1 0 _ rfl) (a := (x + 1)) (hK.2.2.2 0 _ _ _ rfl) rfl ?_
    refine ev_iload 60 dX6_synthesized_58 rfl rfl ?_
    refine ev_i2l 61 dX6_synthesized_60 rfl ?_
    refine ev_iload_n 62 dX6_synthesized_61 rfl rfl ?_
    refine ev_i2l 63 dX6_synthesized_62 rfl ?_
    refine ev_iload 65 dX6_synthesized_63 rfl rfl ?_
    refine ev_i2l 66 dX6_synthesized_65 rfl ?_
    refine ev_invSN 69 (Mc := mX11_half) ⟨lk669, lk75, hdX11_half, (Nat.le_of_ble_eq_true rfl), (Nat.le_of_ble_eq_true rfl)⟩ lk824 lk668 dX6_synthesized_66 (ct_X11_half) rfl (Nat.le_of_ble_eq_true rfl) rfl rfl ?_
    refine ev_ladd 70 dX6_synthesized_69 rfl ?_
    refine ev_invV 73 (Mc := mX10_narrow) ⟨lk674, lk76, hdX10_narrow, (Nat.le_of_ble_eq_true rfl), (Nat.le_of_ble_eq_true rfl)⟩ lk814 lk672 lk673 mm_cl10 rfl dX6_synthesized_70 (ct_X10_narrow hV) rfl (hV.1 1 _ rfl) (Nat.le_of_ble_eq_true rfl) rfl rfl ?_
    rw [sp_up_up, sp_up_up]
    refine ev_istore 75 (lv' := [_, _, _, _, _, some (.int _), _]) dX6_synthesized_73 (Nat.le_of_ble_eq_true rfl) rfl rfl ?_
    refine ev_iload_n 76 dX6_synthesized_75 rfl rfl ?_
    refine ev_bipushN 78 8 dX6_synthesized_76 (by decide +kernel) rfl ?_
    refine ev_icmp_geN 81 89 dX6_synthesized_78 (by decide) (by omega) (by omega) rfl (fun h8 => ?_) (fun h8 => ?_)
    · refine ev_iincM 92 (lv' := [_, _, some (.int _), _, _, _, _]) 1 dX6_synthesized_89 rfl (by omega) (Nat.le_of_ble_eq_true rfl) rfl rfl ?_
      refine ev_goto 5 dX6_synthesized_92 (by decide) ?_
      refine ev_le (mle_s (mle_s (mle_s (mle_s (mle_n (mle_n (mle_n (mle_0)))))))) ?_
      rw [Nat.add_sub_cancel]
      unfold sp_syn
      rw [if_neg (by omega)]
      exact ih _ _ _ (by omega)
    · refine ev_aload_n 82 dX6_synthesized_81 rfl rfl ?_
      refine ev_getP 85 mm_cl6 (j := 1) (Nat.le_of_ble_eq_true rfl) dX6_synthesized_82 lk344 (fun _ _ _ => rfl) (hK.1 0 _ rfl) (a := (b + 2)) (hK.2.2.1 1 _ _ _ rfl) rfl ?_
      refine ev_iload_n 86 dX6_synthesized_85 rfl rfl ?_
      refine ev_iload 88 dX6_synthesized_86 rfl rfl ?_
      refine ev_iast 89 _ dX6_synthesized_88 (hK.1 2 _ rfl) rfl (by have hNN := hK.2.1 2 _ rfl; omega) rfl ?_
      refine ev_iincM 92 (lv' := [_, _, some (.int _), _, _, _, _]) 1 dX6_synthesized_89 rfl (by omega) (Nat.le_of_ble_eq_true rfl) rfl rfl ?_
      refine ev_goto 5 dX6_synthesized_92 (by decide) ?_
      refine ev_le (mle_s (mle_s (mle_s (mle_s (mle_n (mle_n (mle_n (mle_0)))))))) ?_
      rw [Nat.add_sub_cancel, va_up_s, bx_uu]
      unfold sp_syn
      rw [if_pos (by omega)]
      exact ih _ _ _ (by omega)
theorem ct_X6_synthesized {f : Int32} (hV : lyV B P x) (hK : lyK B P x b) : Ct g mX6_synthesized [.ref b, .int f] B I J P
    (some (.int (sp_syn (I (b + 3)) 8 f (I (b + 2)) 0).1), B, va_up I (b + 2) (sp_syn (I (b + 3)) 8 f (I (b + 2)) 0).2.1, sp_up J (x + 1) 3 (sp_syn (I (b + 3)) 8 f (I (b + 2)) 0).2.2, P) := by
  refine ct_of (lv := [some (.ref b), some (.int f), none, none, none, none, none]) (by decide +kernel) (Nat.le_of_ble_eq_true rfl) rfl ?_
  refine ev_iload_n 1 dX6_synthesized_0 rfl rfl ?_
  refine ev_istore_n 2 (lv' := [_, some (.int _), _, _, _, _, _]) dX6_synthesized_1 (Nat.le_of_ble_eq_true rfl) rfl rfl ?_
  refine ev_bipushN 4 8 dX6_synthesized_2 (by decide +kernel) rfl ?_
  refine ev_istore_n 5 (lv' := [_, _, some (.int _), _, _, _, _]) dX6_synthesized_4 (Nat.le_of_ble_eq_true rfl) rfl rfl ?_
  have e := lp_X6_synthesized (g := g) (I := I) (J := J) (n := f) hV hK 8 f (I (b + 2)) 0 (Nat.le_refl 8)
  rw [va_up_id, sp_up_0] at e
  exact e
end VH0
