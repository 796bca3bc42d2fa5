/-- LATTICE of one sample, m steps: f, b, D, the saturations -/
def sp_rs (ix : Nat → Int32) (x : Int32) (D : Nat → Int32) : Nat → Int32 × Int32 × (Nat → Int32) × Int64
  | 0 => (x, x, D, 0)
  | m + 1 => (sp_S ((sp_rs ix x D m).1.toInt64 + sp_half ((sp_rs ix x D m).2.2.1 m).toInt64 (nI 1024 * ix m).toInt64),
      sp_S (((sp_rs ix x D m).2.2.1 m).toInt64 + sp_half (sp_rs ix x D m).1.toInt64 (nI 1024 * ix m).toInt64),
      va_up (sp_rs ix x D m).2.2.1 m (sp_rs ix x D m).2.1,
      (sp_rs ix x D m).2.2.2 + (sp_t ((sp_rs ix x D m).1.toInt64 + sp_half ((sp_rs ix x D m).2.2.1 m).toInt64 (nI 1024 * ix m).toInt64) + sp_t (((sp_rs ix x D m).2.2.1 m).toInt64 + sp_half (sp_rs ix x D m).1.toInt64 (nI 1024 * ix m).toInt64)))
/-- LATTICE of n samples: D, the RESTS, the saturations -/
def sp_la (ix X : Nat → Int32) (s : (Nat → Int32) × (Nat → Int32) × Int64) : Nat → (Nat → Int32) × (Nat → Int32) × Int64
  | 0 => s
  | n + 1 => ((sp_rs ix (X n) (sp_la ix X s n).1 8).2.2.1, va_up (sp_la ix X s n).2.1 n (sp_rs ix (X n) (sp_la ix X s n).1 8).1, (sp_la ix X s n).2.2 + (sp_rs ix (X n) (sp_la ix X s n).1 8).2.2.2)
theorem sp_rs_z {ix : Nat → Int32} {x : Int32} {D : Nat → Int32} (h : ∀ j, 8 ≤ j → D j = 0) : ∀ (m : Nat), m ≤ 8 → ∀ j, 8 ≤ j → (sp_rs ix x D m).2.2.1 j = 0 := by
  intro m
  induction m with
  | zero => intro _; exact h
  | succ m ih => intro hm j hj; show va_up _ m _ j = 0; rw [va_up_n _ _ (by omega)]; exact ih (by omega) j hj
theorem sp_la_z {ix X : Nat → Int32} {s : (Nat → Int32) × (Nat → Int32) × Int64} (h : ∀ j, 8 ≤ j → s.1 j = 0) : ∀ (n j : Nat), 8 ≤ j → (sp_la ix X s n).1 j = 0 := by
  intro n
  induction n with
  | zero => exact h
  | succ n ih => exact sp_rs_z ih 8 (Nat.le_refl 8)
section VHL
variable {g : mm_G} {B : mm_B} {I : mm_TI} {J : mm_TJ} {P : mm_TP} {x o : Nat}
theorem ct_X10_mark {a : Int32} {t : Nat} (hV : lyV B P x) (ht : I (x + 1) 2 = nI t) (h32 : t < 32) : Ct g mX10_mark [.ref (x + 1), .int a] B I J P (none, B, va_up (va_up I (x + 3) (va_up (I (x + 3)) t a)) (x + 1) (va_up (I (x + 1)) 2 (nI (t + 1))), J, P) := by
  refine ct_of (lv := [some (.ref (x + 1)), some (.int a)]) (by decide +kernel) (Nat.le_of_ble_eq_true rfl) rfl ?_
  refine ev_aload_n 1 dX10_mark_0 rfl rfl ?_
  refine ev_getI 4 mm_cl10 (j := 2) (Nat.le_of_ble_eq_true rfl) dX10_mark_1 lk110 (fun _ _ _ => rfl) (hV.1 1 _ rfl) rfl ?_
  refine ev_eqI (y := nI (t)) (ht) ?_
  refine ev_bipushN 6 32 dX10_mark_4 (by decide +kernel) rfl ?_
  refine ev_icmp_geN 9 29 dX10_mark_6 (by decide) (by omega) (by omega) rfl (fun hx => absurd hx ((by omega))) (fun hbr => ?_)
  refine ev_aload_n 10 dX10_mark_9 rfl rfl ?_
  refine ev_getP 13 mm_cl10 (j := 1) (Nat.le_of_ble_eq_true rfl) dX10_mark_10 lk108 (fun _ _ _ => rfl) (hV.1 1 _ rfl) (a := (x + 3)) (hV.2.2 7 _ _ _ rfl) rfl ?_
  refine ev_aload_n 14 dX10_mark_13 rfl rfl ?_
  refine ev_getI 17 mm_cl10 (j := 2) (Nat.le_of_ble_eq_true rfl) dX10_mark_14 lk110 (fun _ _ _ => rfl) (hV.1 1 _ rfl) rfl ?_
  refine ev_eqI (y := nI (t)) (ht) ?_
  refine ev_iload_n 18 dX10_mark_17 rfl rfl ?_
  refine ev_iast 19 _ dX10_mark_18 (hV.1 3 _ rfl) rfl (by have hNN := hV.2.1 3 _ rfl; omega) rfl ?_
  refine ev_aload_n 20 dX10_mark_19 rfl rfl ?_
  refine ev_dup 21 dX10_mark_20 rfl rfl ?_
  refine ev_getI 24 mm_cl10 (j := 2) (Nat.le_of_ble_eq_true rfl) dX10_mark_21 lk110 (fun _ _ _ => rfl) (hV.1 1 _ rfl) rfl ?_
  refine ev_eqI (y := nI (t)) ((by rw [va_up_n _ _ (by omega)]; exact ht)) ?_
  refine ev_iconstN 25 1 dX10_mark_24 rfl ?_
  refine ev_iaddN 26 dX10_mark_25 rfl ?_
  refine ev_putI 29 mm_cl10 (j := 2) (Nat.le_of_ble_eq_true rfl) dX10_mark_26 lk110 rfl (fun _ _ _ => rfl) rfl rfl (hV.1 1 _ rfl) rfl ?_
  rw [va_up_n I (k := x + 3) (j := x + 1) _ (by omega)]
  exact ev_vret dX10_mark_29 rfl (rfl)
theorem lp_X2_restOf {w : Int32} (hV : lyV B P x) (hC : lyC B P x o) (hxo : x + 22 ≤ o) : ∀ (d k : Nat), k + d = 8 →
    Ev g mX2_restOf 7 [some (.ref (o + 4)), some (.int w), some (.int (sp_rs (I (o + 16)) w (I (o + 5)) k).1), some (.int (sp_rs (I (o + 16)) w (I (o + 5)) k).2.1), some (.int (nI k)), none, none, none] [] B (va_up I (o + 5) (sp_rs (I (o + 16)) w (I (o + 5)) k).2.2.1) (sp_up J (x + 1) 3 (sp_rs (I (o + 16)) w (I (o + 5)) k).2.2.2) P
      (some (.int (sp_rs (I (o + 16)) w (I (o + 5)) 8).1), B, va_up I (o + 5) (sp_rs (I (o + 16)) w (I (o + 5)) 8).2.2.1, sp_up J (x + 1) 3 (sp_rs (I (o + 16)) w (I (o + 5)) 8).2.2.2, P) := by
  intro d
  induction d with
  | zero =>
    intro k hk
    obtain rfl : k = 8 := by omega
    refine ev_iload 9 dX2_restOf_7 rfl rfl ?_
    refine ev_bipushN 11 8 dX2_restOf_9 (by decide +kernel) rfl ?_
    refine ev_icmp_geN 14 97 dX2_restOf_11 (by decide) (by omega) (by omega) rfl (fun hbr => ?_) (fun hx => absurd ((Nat.le_refl 8)) hx)
    refine ev_iload_n 98 dX2_restOf_97 rfl rfl ?_
    exact ev_iret dX2_restOf_98 rfl (rfl)
  | succ d ih =>
    intro k hk
    have e := ih (k + 1) (by omega)
    generalize hq : sp_rs (I (o + 16)) w (I (o + 5)) k = q
    generalize hZ : sp_rs (I (o + 16)) w (I (o + 5)) 8 = qz at e ⊢
    simp only [sp_rs, hq] at e
    obtain ⟨f, b, D, t⟩ := q
    refine ev_iload 9 dX2_restOf_7 rfl rfl ?_
    refine ev_bipushN 11 8 dX2_restOf_9 (by decide +kernel) rfl ?_
    refine ev_icmp_geN 14 97 dX2_restOf_11 (by decide) (by omega) (by omega) rfl (fun hx => absurd hx ((by omega))) (fun hbr => ?_)
    refine ev_sipushN 17 1024 dX2_restOf_14 (by decide +kernel) rfl ?_
    refine ev_aload_n 18 dX2_restOf_17 rfl rfl ?_
    refine ev_getP 21 mm_cl2 (j := 3) (Nat.le_of_ble_eq_true rfl) dX2_restOf_18 lk372 (fun _ _ _ => rfl) (hC.1 4 _ rfl) (a := (o + 13)) (hC.2.2.1 5 _ _ _ rfl) rfl ?_
    refine ev_getP 24 mm_cl6 (j := 2) (Nat.le_of_ble_eq_true rfl) dX2_restOf_21 lk347 (fun _ _ _ => rfl) (hC.1 13 _ rfl) (a := (o + 16)) (hC.2.2.1 12 _ _ _ rfl) rfl ?_
    refine ev_iload 26 dX2_restOf_24 rfl rfl ?_
    refine ev_iald 27 _ dX2_restOf_26 (hC.1 16 _ rfl) rfl (by have hNN := hC.2.1 16 _ rfl; omega) rfl ?_
    refine ev_eqI (y := (I (o + 16) k)) ((by rw [va_up_n _ _ (by omega)])) ?_
    refine ev_imul 28 dX2_restOf_27 rfl ?_
    refine ev_istore 30 (lv' := [_, _, _, _, some (.int _), _, _, _]) dX2_restOf_28 (Nat.le_of_ble_eq_true rfl) rfl rfl ?_
    refine ev_aload_n 31 dX2_restOf_30 rfl rfl ?_
    refine ev_getP 34 mm_cl2 (j := 4) (Nat.le_of_ble_eq_true rfl) dX2_restOf_31 lk374 (fun _ _ _ => rfl) (hC.1 4 _ rfl) (a := (o + 5)) (hC.2.2.1 6 _ _ _ rfl) rfl ?_
    refine ev_iload 36 dX2_restOf_34 rfl rfl ?_
    refine ev_iald 37 _ dX2_restOf_36 (hC.1 5 _ rfl) rfl (by have hNN := hC.2.1 5 _ rfl; omega) rfl ?_
    refine ev_eqI (y := (D k)) ((by rw [va_up_s])) ?_
    refine ev_istore 39 (lv' := [_, _, _, _, _, some (.int _), _, _]) dX2_restOf_37 (Nat.le_of_ble_eq_true rfl) rfl rfl ?_
    refine ev_aload_n 40 dX2_restOf_39 rfl rfl ?_
    refine ev_getP 43 mm_cl2 (j := 4) (Nat.le_of_ble_eq_true rfl) dX2_restOf_40 lk374 (fun _ _ _ => rfl) (hC.1 4 _ rfl) (a := (o + 5)) (hC.2.2.1 6 _ _ _ rfl) rfl ?_
    refine ev_iload 45 dX2_restOf_43 rfl rfl ?_
    refine ev_iload_n 46 dX2_restOf_45 rfl rfl ?_
    refine ev_iast 47 _ dX2_restOf_46 (hC.1 5 _ rfl) rfl (by have hNN := hC.2.1 5 _ rfl; omega) rfl ?_
    refine ev_aload_n 48 dX2_restOf_47 rfl rfl ?_
    refine ev_getP 51 mm_cl2 (j := 0) (Nat.le_of_ble_eq_true rfl) dX2_restOf_48 lk369 (fun _ _ _ => rfl) (hC.1 4 _ rfl) (a := (x + 1)) (hC.2.2.2 0 _ _ _ rfl) rfl ?_
    refine ev_iload_n 52 dX2_restOf_51 rfl rfl ?_
    refine ev_i2l 53 dX2_restOf_52 rfl ?_
    refine ev_iload 55 dX2_restOf_53 rfl rfl ?_
    refine ev_i2l 56 dX2_restOf_55 rfl ?_
    refine ev_iload 58 dX2_restOf_56 rfl rfl ?_
    refine ev_i2l 59 dX2_restOf_58 rfl ?_
    rw [va_up_s, bx_uu]
    refine ev_invSN 62 (Mc := mX11_half) ⟨lk669, lk75, hdX11_half, (Nat.le_of_ble_eq_true rfl), (Nat.le_of_ble_eq_true rfl)⟩ lk667 lk668 dX2_restOf_59 (ct_X11_half) rfl (Nat.le_of_ble_eq_true rfl) rfl rfl ?_
    refine ev_ladd 63 dX2_restOf_62 rfl ?_
    refine ev_invV 66 (Mc := mX10_narrow) ⟨lk674, lk76, hdX10_narrow, (Nat.le_of_ble_eq_true rfl), (Nat.le_of_ble_eq_true rfl)⟩ lk671 lk672 lk673 mm_cl10 rfl dX2_restOf_63 (ct_X10_narrow hV) rfl (hV.1 1 _ rfl) (Nat.le_of_ble_eq_true rfl) rfl rfl ?_
    refine ev_istore 68 (lv' := [_, _, _, _, _, _, some (.int _), _]) dX2_restOf_66 (Nat.le_of_ble_eq_true rfl) rfl rfl ?_
    refine ev_aload_n 69 dX2_restOf_68 rfl rfl ?_
    refine ev_getP 72 mm_cl2 (j := 0) (Nat.le_of_ble_eq_true rfl) dX2_restOf_69 lk369 (fun _ _ _ => rfl) (hC.1 4 _ rfl) (a := (x + 1)) (hC.2.2.2 0 _ _ _ rfl) rfl ?_
    refine ev_iload 74 dX2_restOf_72 rfl rfl ?_
    refine ev_i2l 75 dX2_restOf_74 rfl ?_
    refine ev_iload_n 76 dX2_restOf_75 rfl rfl ?_
    refine ev_i2l 77 dX2_restOf_76 rfl ?_
    refine ev_iload 79 dX2_restOf_77 rfl rfl ?_
    refine ev_i2l 80 dX2_restOf_79 rfl ?_
    refine ev_invSN 83 (Mc := mX11_half) ⟨lk669, lk75, hdX11_half, (Nat.le_of_ble_eq_true rfl), (Nat.le_of_ble_eq_true rfl)⟩ lk667 lk668 dX2_restOf_80 (ct_X11_half) rfl (Nat.le_of_ble_eq_true rfl) rfl rfl ?_
    refine ev_ladd 84 dX2_restOf_83 rfl ?_
    refine ev_invV 87 (Mc := mX10_narrow) ⟨lk674, lk76, hdX10_narrow, (Nat.le_of_ble_eq_true rfl), (Nat.le_of_ble_eq_true rfl)⟩ lk671 lk672 lk673 mm_cl10 rfl dX2_restOf_84 (ct_X10_narrow hV) rfl (hV.1 1 _ rfl) (Nat.le_of_ble_eq_true rfl) rfl rfl ?_
    rw [sp_up_up, sp_up_up]
    refine ev_istore_n 88 (lv' := [_, _, some (.int _), _, _, _, _, _]) dX2_restOf_87 (Nat.le_of_ble_eq_true rfl) rfl rfl ?_
    refine ev_iload 90 dX2_restOf_88 rfl rfl ?_
    refine ev_istore_n 91 (lv' := [_, some (.int _), _, _, _, _, _, _]) dX2_restOf_90 (Nat.le_of_ble_eq_true rfl) rfl rfl ?_
    refine ev_iincN 94 (lv' := [_, _, _, some (.int _), _, _, _, _]) 1 dX2_restOf_91 rfl (Nat.le_of_ble_eq_true rfl) rfl rfl ?_
    refine ev_goto 7 dX2_restOf_94 (by decide) ?_
    refine ev_le (mle_s (mle_s (mle_s (mle_s (mle_s (mle_n (mle_n (mle_n (mle_0))))))))) ?_
    exact e
theorem ct_X2_restOf {w : Int32} (hV : lyV B P x) (hC : lyC B P x o) (hxo : x + 22 ≤ o) : Ct g mX2_restOf [.ref (o + 4), .int w] B I J P
    (some (.int (sp_rs (I (o + 16)) w (I (o + 5)) 8).1), B, va_up I (o + 5) (sp_rs (I (o + 16)) w (I (o + 5)) 8).2.2.1, sp_up J (x + 1) 3 (sp_rs (I (o + 16)) w (I (o + 5)) 8).2.2.2, P) := by
  have e := lp_X2_restOf (g := g) (I := I) (J := J) (w := w) hV hC hxo 8 0 (by omega)
  rw [show sp_rs (I (o + 16)) w (I (o + 5)) 0 = (w, w, I (o + 5), 0) from rfl, va_up_id, sp_up_0] at e
  refine ct_of (lv := [some (.ref (o + 4)), some (.int w), none, none, none, none, none, none]) (by decide +kernel) (Nat.le_of_ble_eq_true rfl) rfl ?_
  refine ev_iload_n 1 dX2_restOf_0 rfl rfl ?_
  refine ev_istore_n 2 (lv' := [_, some (.int _), _, _, _, _, _, _]) dX2_restOf_1 (Nat.le_of_ble_eq_true rfl) rfl rfl ?_
  refine ev_iload_n 3 dX2_restOf_2 rfl rfl ?_
  refine ev_istore_n 4 (lv' := [_, _, some (.int _), _, _, _, _, _]) dX2_restOf_3 (Nat.le_of_ble_eq_true rfl) rfl rfl ?_
  refine ev_iconstN 5 0 dX2_restOf_4 rfl ?_
  refine ev_istore 7 (lv' := [_, _, _, some (.int _), _, _, _, _]) dX2_restOf_5 (Nat.le_of_ble_eq_true rfl) rfl rfl ?_
  exact e
theorem lp_X2_whiten {n : Nat} (hV : lyV B P x) (hC : lyC B P x o) (hxo : x + 22 ≤ o) (hn : n ≤ 320) : ∀ (d i : Nat), i + d = n →
    Ev g mX2_whiten 10 [some (.ref (o + 4)), some (.int (nI n)), some (.int (nI i))] [] B (va_up (va_up I (o + 5) (sp_la (I (o + 16)) (I (x + 5)) (I (o + 5), I (o + 11), 0) i).1) (o + 11) (sp_la (I (o + 16)) (I (x + 5)) (I (o + 5), I (o + 11), 0) i).2.1) (sp_up J (x + 1) 3 (sp_la (I (o + 16)) (I (x + 5)) (I (o + 5), I (o + 11), 0) i).2.2) P
      (none, B, va_up (va_up I (o + 5) (sp_la (I (o + 16)) (I (x + 5)) (I (o + 5), I (o + 11), 0) n).1) (o + 11) (sp_la (I (o + 16)) (I (x + 5)) (I (o + 5), I (o + 11), 0) n).2.1, sp_up J (x + 1) 3 (sp_la (I (o + 16)) (I (x + 5)) (I (o + 5), I (o + 11), 0) n).2.2, P) := by
  intro d
  induction d with
  | zero =>
    intro i hi
    obtain rfl : i = n := by omega
    refine ev_iload_n 11 dX2_whiten_10 rfl rfl ?_
    refine ev_iload_n 12 dX2_whiten_11 rfl rfl ?_
    refine ev_icmp_geN 15 40 dX2_whiten_12 (by decide) (by omega) (by omega) rfl (fun hbr => ?_) (fun hx => absurd ((Nat.le_refl _)) hx)
    exact ev_vret dX2_whiten_40 rfl (rfl)
  | succ d ih =>
    intro i hi
    have e := ih (i + 1) (by omega)
    generalize hq : sp_la (I (o + 16)) (I (x + 5)) (I (o + 5), I (o + 11), 0) i = q
    generalize hZ : sp_la (I (o + 16)) (I (x + 5)) (I (o + 5), I (o + 11), 0) n = qz at e ⊢
    simp only [sp_la, hq] at e
    obtain ⟨D, R, t⟩ := q
    have n5 : ∀ (M Y : Nat → Int32), va_up (va_up I (o + 5) M) (o + 11) Y (o + 5) = M := fun M Y => by rw [va_up_n _ _ (by omega), va_up_s]
    have n16 : ∀ (M Y : Nat → Int32), va_up (va_up I (o + 5) M) (o + 11) Y (o + 16) = I (o + 16) := fun M Y => by rw [va_up_n _ _ (by omega), va_up_n _ _ (by omega)]
    have nx5 : ∀ (M Y : Nat → Int32), va_up (va_up I (o + 5) M) (o + 11) Y (x + 5) = I (x + 5) := fun M Y => by rw [va_up_n _ _ (by omega), va_up_n _ _ (by omega)]
    refine ev_iload_n 11 dX2_whiten_10 rfl rfl ?_
    refine ev_iload_n 12 dX2_whiten_11 rfl rfl ?_
    refine ev_icmp_geN 15 40 dX2_whiten_12 (by decide) (by omega) (by omega) rfl (fun hx => absurd hx ((by omega))) (fun hbr => ?_)
    refine ev_aload_n 16 dX2_whiten_15 rfl rfl ?_
    refine ev_getP 19 mm_cl2 (j := 6) (Nat.le_of_ble_eq_true rfl) dX2_whiten_16 lk377 (fun _ _ _ => rfl) (hC.1 4 _ rfl) (a := (o + 11)) (hC.2.2.1 8 _ _ _ rfl) rfl ?_
    refine ev_iload_n 20 dX2_whiten_19 rfl rfl ?_
    refine ev_aload_n 21 dX2_whiten_20 rfl rfl ?_
    refine ev_aload_n 22 dX2_whiten_21 rfl rfl ?_
    refine ev_getP 25 mm_cl2 (j := 1) (Nat.le_of_ble_eq_true rfl) dX2_whiten_22 lk370 (fun _ _ _ => rfl) (hC.1 4 _ rfl) (a := (x + 4)) (hC.2.2.2 1 _ _ _ rfl) rfl ?_
    refine ev_getP 28 mm_cl8 (j := 0) (Nat.le_of_ble_eq_true rfl) dX2_whiten_25 lk133 (fun _ _ _ => rfl) (hV.1 4 _ rfl) (a := (x + 5)) (hV.2.2 8 _ _ _ rfl) rfl ?_
    refine ev_iload_n 29 dX2_whiten_28 rfl rfl ?_
    refine ev_iald 30 _ dX2_whiten_29 (hV.1 5 _ rfl) rfl (by have hNN := hV.2.1 5 _ rfl; omega) rfl ?_
    refine ev_invV 33 (Mc := mX2_restOf) ⟨lk732, lk83, hdX2_restOf, (Nat.le_of_ble_eq_true rfl), (Nat.le_of_ble_eq_true rfl)⟩ lk729 lk731 lk8 mm_cl2 rfl dX2_whiten_30 (ct_X2_restOf hV hC hxo) rfl (hC.1 4 _ rfl) (Nat.le_of_ble_eq_true rfl) rfl rfl ?_
    rw [sp_up_up]
    refine ev_iast 34 _ dX2_whiten_33 (hC.1 11 _ rfl) rfl (by have hNN := hC.2.1 11 _ rfl; omega) rfl ?_
    refine ev_iincN 37 (lv' := [_, some (.int _), _]) 1 dX2_whiten_34 rfl (Nat.le_of_ble_eq_true rfl) rfl rfl ?_
    refine ev_goto 10 dX2_whiten_37 (by decide) ?_
    simp only [n5, n16, nx5]
    rw [va_3 I (a := o + 5) (b := o + 11) _ _ _ (by omega), va_up_s, bx_uu]
    exact e
theorem cx_X2_whiten {n t : Nat} (hV : lyV B P x) (hC : lyC B P x o) (hxo : x + 22 ≤ o) (hn : n ≤ 320) (ht : I (x + 1) 2 = nI t) (h32 : t < 32) : ∃ I' : mm_TI, Ct g mX2_whiten [.ref (o + 4), .int (nI n)] B I J P
    (none, B, I', sp_up J (x + 1) 3 (sp_la (I (o + 16)) (I (x + 5)) (I (o + 5), I (o + 11), 0) n).2.2, P) ∧
    I' (o + 5) = (sp_la (I (o + 16)) (I (x + 5)) (I (o + 5), I (o + 11), 0) n).1 ∧ I' (o + 11) = (sp_la (I (o + 16)) (I (x + 5)) (I (o + 5), I (o + 11), 0) n).2.1 ∧
    I' (x + 3) = va_up (I (x + 3)) t (nI 4) ∧ I' (x + 1) = va_up (I (x + 1)) 2 (nI (t + 1)) ∧ (∀ q, q ≠ o + 5 → q ≠ o + 11 → q ≠ x + 3 → q ≠ x + 1 → I' q = I q) := by
  generalize hI1 : va_up (va_up I (x + 3) (va_up (I (x + 3)) t (nI 4))) (x + 1) (va_up (I (x + 1)) 2 (nI (t + 1))) = I1
  have a1 : ∀ q, q ≠ x + 3 → q ≠ x + 1 → I1 q = I q := fun q h h' => by rw [← hI1, va_up_n _ _ h', va_up_n _ _ h]
  have e := lp_X2_whiten (g := g) (I := I1) (J := J) hV hC hxo hn n 0 (by omega)
  rw [show sp_la (I1 (o + 16)) (I1 (x + 5)) (I1 (o + 5), I1 (o + 11), 0) 0 = (I1 (o + 5), I1 (o + 11), 0) from rfl, va_up_id, va_up_id, sp_up_0] at e
  rw [a1 (o + 16) (by omega) (by omega), a1 (x + 5) (by omega) (by omega), a1 (o + 5) (by omega) (by omega), a1 (o + 11) (by omega) (by omega)] at e
  refine ⟨va_up (va_up I1 (o + 5) (sp_la (I (o + 16)) (I (x + 5)) (I (o + 5), I (o + 11), 0) n).1) (o + 11) (sp_la (I (o + 16)) (I (x + 5)) (I (o + 5), I (o + 11), 0) n).2.1, ?_, ?_, ?_, ?_, ?_, fun q h1 h2 h3 h4 => ?_⟩
  · refine ct_of (lv := [some (.ref (o + 4)), some (.int (nI n)), none]) (by decide +kernel) (Nat.le_of_ble_eq_true rfl) rfl ?_
    refine ev_aload_n 1 dX2_whiten_0 rfl rfl ?_
    refine ev_getP 4 mm_cl2 (j := 0) (Nat.le_of_ble_eq_true rfl) dX2_whiten_1 lk369 (fun _ _ _ => rfl) (hC.1 4 _ rfl) (a := (x + 1)) (hC.2.2.2 0 _ _ _ rfl) rfl ?_
    refine ev_iconstN 5 4 dX2_whiten_4 rfl ?_
    refine ev_invVv 8 (Mc := mX10_mark) ⟨lk665, lk76, hdX10_mark, (Nat.le_of_ble_eq_true rfl), (Nat.le_of_ble_eq_true rfl)⟩ lk662 lk663 lk664 mm_cl10 rfl dX2_whiten_5 (ct_X10_mark hV ht h32) rfl (hV.1 1 _ rfl) (Nat.le_of_ble_eq_true rfl) rfl rfl ?_
    rw [hI1]
    refine ev_iconstN 9 0 dX2_whiten_8 rfl ?_
    refine ev_istore_n 10 (lv' := [_, some (.int _), _]) dX2_whiten_9 (Nat.le_of_ble_eq_true rfl) rfl rfl ?_
    exact e
  · rw [va_up_n _ _ (by omega), va_up_s]
  · rw [va_up_s]
  · rw [va_up_n _ _ (by omega), va_up_n _ _ (by omega), ← hI1, va_up_n _ _ (by omega), va_up_s]
  · rw [va_up_n _ _ (by omega), va_up_n _ _ (by omega), ← hI1, va_up_s]
  · rw [va_up_n _ _ h2, va_up_n _ _ h1]; exact a1 q h3 h4
end VHL
section MOL
variable {g : mm_G} {B : mm_B} {I : mm_TI} {J : mm_TJ} {P : mm_TP} {m : Nat}
theorem lp_X12_lattice1 {c n i : Nat} {w : Int32} {Z : mm_Z} (hM : lyM B P m) (hc : c < 8) (hn : n ≤ 320) (hi : i < n)
    (K : Ev g mX12_lattice 133 [some (.ref m), some (.int (nI c)), some (.int (nI n)), some (.int (nI i)), some (.int (sp_rs (sg (I (m + 21)) (8 * c) 8) w (sg (I (m + 19)) (8 * c) 8) 8).1), none, none, none, none, none] [] B (va_up I (m + 19) (sgp (I (m + 19)) (8 * c) 8 (sp_rs (sg (I (m + 21)) (8 * c) 8) w (sg (I (m + 19)) (8 * c) 8) 8).2.2.1)) (sp_up J m 2 (sp_rs (sg (I (m + 21)) (8 * c) 8) w (sg (I (m + 19)) (8 * c) 8) 8).2.2.2) P Z) : ∀ (d k : Nat), k + d = 8 →
    Ev g mX12_lattice 26 [some (.ref m), some (.int (nI c)), some (.int (nI n)), some (.int (nI i)), some (.int (sp_rs (sg (I (m + 21)) (8 * c) 8) w (sg (I (m + 19)) (8 * c) 8) k).1), some (.int (sp_rs (sg (I (m + 21)) (8 * c) 8) w (sg (I (m + 19)) (8 * c) 8) k).2.1), some (.int (nI (k + 1))), none, none, none] [] B (va_up I (m + 19) (sgp (I (m + 19)) (8 * c) 8 (sp_rs (sg (I (m + 21)) (8 * c) 8) w (sg (I (m + 19)) (8 * c) 8) k).2.2.1)) (sp_up J m 2 (sp_rs (sg (I (m + 21)) (8 * c) 8) w (sg (I (m + 19)) (8 * c) 8) k).2.2.2) P Z := by
  intro d
  induction d with
  | zero =>
    intro k hk
    obtain rfl : k = 8 := by omega
    refine ev_iload 28 dX12_lattice_26 rfl rfl ?_
    refine ev_bipushN 30 8 dX12_lattice_28 (by decide +kernel) rfl ?_
    refine ev_icmp_gtN 33 133 dX12_lattice_30 (by decide) (by omega) (by omega) rfl (fun hbr => ?_) (fun hx => absurd ((by omega)) hx)
    refine ev_le (mle_s (mle_s (mle_s (mle_s (mle_s (mle_n (mle_n (mle_n (mle_n (mle_n (mle_0))))))))))) ?_
    exact K
  | succ d ih =>
    intro k hk
    have e := ih (k + 1) (by omega)
    generalize hq : sp_rs (sg (I (m + 21)) (8 * c) 8) w (sg (I (m + 19)) (8 * c) 8) k = q
    simp only [sp_rs, hq] at e
    obtain ⟨f, b, D, t⟩ := q
    refine ev_iload 28 dX12_lattice_26 rfl rfl ?_
    refine ev_bipushN 30 8 dX12_lattice_28 (by decide +kernel) rfl ?_
    refine ev_icmp_gtN 33 133 dX12_lattice_30 (by decide) (by omega) (by omega) rfl (fun hx => absurd hx ((by omega))) (fun hbr => ?_)
    refine ev_sipushN 36 1024 dX12_lattice_33 (by decide +kernel) rfl ?_
    refine ev_aload_n 37 dX12_lattice_36 rfl rfl ?_
    refine ev_getP 40 mm_cl12 (j := 26) (Nat.le_of_ble_eq_true rfl) dX12_lattice_37 lk1311 (fun _ _ _ => rfl) (hM.1 0 _ rfl) (a := (m + 21)) (hM.2.2 20 _ _ _ rfl) rfl ?_
    refine ev_bipushN 42 8 dX12_lattice_40 (by decide +kernel) rfl ?_
    refine ev_iload_n 43 dX12_lattice_42 rfl rfl ?_
    refine ev_imulN 44 dX12_lattice_43 rfl ?_
    refine ev_iload 46 dX12_lattice_44 rfl rfl ?_
    refine ev_iaddN 47 dX12_lattice_46 rfl ?_
    refine ev_iconstN 48 1 dX12_lattice_47 rfl ?_
    refine ev_isubN 49 dX12_lattice_48 (by omega) rfl ?_
    refine ev_iald 50 _ dX12_lattice_49 (hM.1 21 _ rfl) rfl (by have hNN := hM.2.1 21 _ rfl; omega) rfl ?_
    refine ev_eqI (y := (sg (I (m + 21)) (8 * c) 8 k)) ((by rw [va_up_n _ _ (by omega), sg_in (by omega), show 8 * c + (k + 1) - 1 = 8 * c + k by omega])) ?_
    refine ev_imul 51 dX12_lattice_50 rfl ?_
    refine ev_istore 53 (lv' := [_, _, _, _, _, _, some (.int _), _, _, _]) dX12_lattice_51 (Nat.le_of_ble_eq_true rfl) rfl rfl ?_
    refine ev_aload_n 54 dX12_lattice_53 rfl rfl ?_
    refine ev_getP 57 mm_cl12 (j := 24) (Nat.le_of_ble_eq_true rfl) dX12_lattice_54 lk1309 (fun _ _ _ => rfl) (hM.1 0 _ rfl) (a := (m + 19)) (hM.2.2 18 _ _ _ rfl) rfl ?_
    refine ev_bipushN 59 8 dX12_lattice_57 (by decide +kernel) rfl ?_
    refine ev_iload_n 60 dX12_lattice_59 rfl rfl ?_
    refine ev_imulN 61 dX12_lattice_60 rfl ?_
    refine ev_iload 63 dX12_lattice_61 rfl rfl ?_
    refine ev_iaddN 64 dX12_lattice_63 rfl ?_
    refine ev_iconstN 65 1 dX12_lattice_64 rfl ?_
    refine ev_isubN 66 dX12_lattice_65 (by omega) rfl ?_
    refine ev_iald 67 _ dX12_lattice_66 (hM.1 19 _ rfl) rfl (by have hNN := hM.2.1 19 _ rfl; omega) rfl ?_
    refine ev_eqI (y := (D k)) ((by rw [va_up_s, show 8 * c + (k + 1) - 1 = 8 * c + k by omega, sgp_in (by omega)])) ?_
    refine ev_istore 69 (lv' := [_, _, _, _, _, _, _, some (.int _), _, _]) dX12_lattice_67 (Nat.le_of_ble_eq_true rfl) rfl rfl ?_
    refine ev_aload_n 70 dX12_lattice_69 rfl rfl ?_
    refine ev_getP 73 mm_cl12 (j := 24) (Nat.le_of_ble_eq_true rfl) dX12_lattice_70 lk1309 (fun _ _ _ => rfl) (hM.1 0 _ rfl) (a := (m + 19)) (hM.2.2 18 _ _ _ rfl) rfl ?_
    refine ev_bipushN 75 8 dX12_lattice_73 (by decide +kernel) rfl ?_
    refine ev_iload_n 76 dX12_lattice_75 rfl rfl ?_
    refine ev_imulN 77 dX12_lattice_76 rfl ?_
    refine ev_iload 79 dX12_lattice_77 rfl rfl ?_
    refine ev_iaddN 80 dX12_lattice_79 rfl ?_
    refine ev_iconstN 81 1 dX12_lattice_80 rfl ?_
    refine ev_isubN 82 dX12_lattice_81 (by omega) rfl ?_
    refine ev_iload 84 dX12_lattice_82 rfl rfl ?_
    refine ev_iast 85 _ dX12_lattice_84 (hM.1 19 _ rfl) rfl (by have hNN := hM.2.1 19 _ rfl; omega) rfl ?_
    refine ev_aload_n 86 dX12_lattice_85 rfl rfl ?_
    refine ev_iload 88 dX12_lattice_86 rfl rfl ?_
    refine ev_i2l 89 dX12_lattice_88 rfl ?_
    refine ev_iload 91 dX12_lattice_89 rfl rfl ?_
    refine ev_i2l 92 dX12_lattice_91 rfl ?_
    refine ev_iload 94 dX12_lattice_92 rfl rfl ?_
    refine ev_i2l 95 dX12_lattice_94 rfl ?_
    rw [va_up_s, bx_uu, show 8 * c + (k + 1) - 1 = 8 * c + k by omega, sgp_up (by omega)]
    refine ev_invS 98 (Mc := mX12_half) ⟨lk1603, lk80, hdX12_half, (Nat.le_of_ble_eq_true rfl), (Nat.le_of_ble_eq_true rfl)⟩ lk1601 lk1602 dX12_lattice_95 (ct_X12_half) rfl (Nat.le_of_ble_eq_true rfl) rfl rfl ?_
    refine ev_ladd 99 dX12_lattice_98 rfl ?_
    refine ev_invV 102 (Mc := mX12_sample16) ⟨lk1608, lk80, hdX12_sample16, (Nat.le_of_ble_eq_true rfl), (Nat.le_of_ble_eq_true rfl)⟩ lk1605 lk1607 lk42 mm_cl12 rfl dX12_lattice_99 (ct_X12_sample16 hM) rfl (hM.1 0 _ rfl) (Nat.le_of_ble_eq_true rfl) rfl rfl ?_
    refine ev_istore 104 (lv' := [_, _, _, _, _, _, _, _, some (.int _), _]) dX12_lattice_102 (Nat.le_of_ble_eq_true rfl) rfl rfl ?_
    refine ev_aload_n 105 dX12_lattice_104 rfl rfl ?_
    refine ev_iload 107 dX12_lattice_105 rfl rfl ?_
    refine ev_i2l 108 dX12_lattice_107 rfl ?_
    refine ev_iload 110 dX12_lattice_108 rfl rfl ?_
    refine ev_i2l 111 dX12_lattice_110 rfl ?_
    refine ev_iload 113 dX12_lattice_111 rfl rfl ?_
    refine ev_i2l 114 dX12_lattice_113 rfl ?_
    refine ev_invS 117 (Mc := mX12_half) ⟨lk1603, lk80, hdX12_half, (Nat.le_of_ble_eq_true rfl), (Nat.le_of_ble_eq_true rfl)⟩ lk1601 lk1602 dX12_lattice_114 (ct_X12_half) rfl (Nat.le_of_ble_eq_true rfl) rfl rfl ?_
    refine ev_ladd 118 dX12_lattice_117 rfl ?_
    refine ev_invV 121 (Mc := mX12_sample16) ⟨lk1608, lk80, hdX12_sample16, (Nat.le_of_ble_eq_true rfl), (Nat.le_of_ble_eq_true rfl)⟩ lk1605 lk1607 lk42 mm_cl12 rfl dX12_lattice_118 (ct_X12_sample16 hM) rfl (hM.1 0 _ rfl) (Nat.le_of_ble_eq_true rfl) rfl rfl ?_
    rw [sp_up_up, sp_up_up]
    refine ev_istore 123 (lv' := [_, _, _, _, some (.int _), _, _, _, _, _]) dX12_lattice_121 (Nat.le_of_ble_eq_true rfl) rfl rfl ?_
    refine ev_iload 125 dX12_lattice_123 rfl rfl ?_
    refine ev_istore 127 (lv' := [_, _, _, some (.int _), _, _, _, _, _, _]) dX12_lattice_125 (Nat.le_of_ble_eq_true rfl) rfl rfl ?_
    refine ev_iincN 130 (lv' := [_, _, _, _, _, some (.int _), _, _, _, _]) 1 dX12_lattice_127 rfl (Nat.le_of_ble_eq_true rfl) rfl rfl ?_
    refine ev_goto 26 dX12_lattice_130 (by decide) ?_
    refine ev_le (mle_s (mle_s (mle_s (mle_s (mle_s (mle_s (mle_s (mle_n (mle_n (mle_n (mle_0))))))))))) ?_
    exact e
theorem lp_X12_lattice2 {c n : Nat} (hM : lyM B P m) (hc8 : c < 8) (hn : n ≤ 320) : ∀ (d i : Nat), i + d = n →
    Ev g mX12_lattice 2 [some (.ref m), some (.int (nI c)), some (.int (nI n)), some (.int (nI i)), none, none, none, none, none, none] [] B
      (va_up (va_up I (m + 19) (sgp (I (m + 19)) (8 * c) 8 (sp_la (sg (I (m + 21)) (8 * c) 8) (I (m + 53)) (sg (I (m + 19)) (8 * c) 8, sg (I (m + 26)) (320 * c) 320, 0) i).1)) (m + 26) (sgp (I (m + 26)) (320 * c) 320 (sp_la (sg (I (m + 21)) (8 * c) 8) (I (m + 53)) (sg (I (m + 19)) (8 * c) 8, sg (I (m + 26)) (320 * c) 320, 0) i).2.1))
      (sp_up J m 2 (sp_la (sg (I (m + 21)) (8 * c) 8) (I (m + 53)) (sg (I (m + 19)) (8 * c) 8, sg (I (m + 26)) (320 * c) 320, 0) i).2.2) P
      (none, B, va_up (va_up I (m + 19) (sgp (I (m + 19)) (8 * c) 8 (sp_la (sg (I (m + 21)) (8 * c) 8) (I (m + 53)) (sg (I (m + 19)) (8 * c) 8, sg (I (m + 26)) (320 * c) 320, 0) n).1)) (m + 26) (sgp (I (m + 26)) (320 * c) 320 (sp_la (sg (I (m + 21)) (8 * c) 8) (I (m + 53)) (sg (I (m + 19)) (8 * c) 8, sg (I (m + 26)) (320 * c) 320, 0) n).2.1),
        sp_up J m 2 (sp_la (sg (I (m + 21)) (8 * c) 8) (I (m + 53)) (sg (I (m + 19)) (8 * c) 8, sg (I (m + 26)) (320 * c) 320, 0) n).2.2, P) := by
  intro d
  induction d with
  | zero =>
    intro i hi
    obtain rfl : i = n := by omega
    refine ev_iload_n 3 dX12_lattice_2 rfl rfl ?_
    refine ev_iload_n 4 dX12_lattice_3 rfl rfl ?_
    refine ev_icmp_geN 7 153 dX12_lattice_4 (by decide) (by omega) (by omega) rfl (fun hbr => ?_) (fun hx => absurd ((Nat.le_refl _)) hx)
    exact ev_vret dX12_lattice_153 rfl (rfl)
  | succ d ih =>
    intro i hi
    have e := ih (i + 1) (by omega)
    have hz := sp_la_z (ix := sg (I (m + 21)) (8 * c) 8) (X := I (m + 53)) (s := (sg (I (m + 19)) (8 * c) 8, sg (I (m + 26)) (320 * c) 320, 0)) sg_z i
    generalize hq : sp_la (sg (I (m + 21)) (8 * c) 8) (I (m + 53)) (sg (I (m + 19)) (8 * c) 8, sg (I (m + 26)) (320 * c) 320, 0) i = q
    generalize hZ : sp_la (sg (I (m + 21)) (8 * c) 8) (I (m + 53)) (sg (I (m + 19)) (8 * c) 8, sg (I (m + 26)) (320 * c) 320, 0) n = qz at e ⊢
    simp only [sp_la, hq] at e
    rw [hq] at hz
    obtain ⟨D, R, t⟩ := q
    have n19 : ∀ (M Y : Nat → Int32), va_up (va_up I (m + 19) M) (m + 26) Y (m + 19) = M := fun M Y => by rw [va_up_n _ _ (by omega), va_up_s]
    have n21 : ∀ (M Y : Nat → Int32), va_up (va_up I (m + 19) M) (m + 26) Y (m + 21) = I (m + 21) := fun M Y => by rw [va_up_n _ _ (by omega), va_up_n _ _ (by omega)]
    have n53 : ∀ (M Y : Nat → Int32), va_up (va_up I (m + 19) M) (m + 26) Y (m + 53) = I (m + 53) := fun M Y => by rw [va_up_n _ _ (by omega), va_up_n _ _ (by omega)]
    refine ev_iload_n 3 dX12_lattice_2 rfl rfl ?_
    refine ev_iload_n 4 dX12_lattice_3 rfl rfl ?_
    refine ev_icmp_geN 7 153 dX12_lattice_4 (by decide) (by omega) (by omega) rfl (fun hx => absurd hx ((by omega))) (fun hbr => ?_)
    refine ev_aload_n 8 dX12_lattice_7 rfl rfl ?_
    refine ev_getP 11 mm_cl12 (j := 59) (Nat.le_of_ble_eq_true rfl) dX12_lattice_8 lk1344 (fun _ _ _ => rfl) (hM.1 0 _ rfl) (a := (m + 53)) (hM.2.2 52 _ _ _ rfl) rfl ?_
    refine ev_iload_n 12 dX12_lattice_11 rfl rfl ?_
    refine ev_iald 13 _ dX12_lattice_12 (hM.1 53 _ rfl) rfl (by have hNN := hM.2.1 53 _ rfl; omega) rfl ?_
    refine ev_istore 15 (lv' := [_, _, _, some (.int _), _, _, _, _, _, _]) dX12_lattice_13 (Nat.le_of_ble_eq_true rfl) rfl rfl ?_
    refine ev_aload_n 16 dX12_lattice_15 rfl rfl ?_
    refine ev_getP 19 mm_cl12 (j := 59) (Nat.le_of_ble_eq_true rfl) dX12_lattice_16 lk1344 (fun _ _ _ => rfl) (hM.1 0 _ rfl) (a := (m + 53)) (hM.2.2 52 _ _ _ rfl) rfl ?_
    refine ev_iload_n 20 dX12_lattice_19 rfl rfl ?_
    refine ev_iald 21 _ dX12_lattice_20 (hM.1 53 _ rfl) rfl (by have hNN := hM.2.1 53 _ rfl; omega) rfl ?_
    refine ev_istore 23 (lv' := [_, _, _, _, some (.int _), _, _, _, _, _]) dX12_lattice_21 (Nat.le_of_ble_eq_true rfl) rfl rfl ?_
    refine ev_iconstN 24 1 dX12_lattice_23 rfl ?_
    refine ev_istore 26 (lv' := [_, _, _, _, _, some (.int _), _, _, _, _]) dX12_lattice_24 (Nat.le_of_ble_eq_true rfl) rfl rfl ?_
    simp only [n53]
    have e1 := lp_X12_lattice1 (g := g) (I := va_up (va_up I (m + 19) (sgp (I (m + 19)) (8 * c) 8 D)) (m + 26) (sgp (I (m + 26)) (320 * c) 320 R)) (J := sp_up J m 2 t) (c := c) (n := n) (i := i) (w := I (m + 53) i) (Z := (none, B, va_up (va_up I (m + 19) (sgp (I (m + 19)) (8 * c) 8 qz.1)) (m + 26) (sgp (I (m + 26)) (320 * c) 320 qz.2.1), sp_up J m 2 qz.2.2, P)) hM hc8 hn (by omega) ?_ 8 0 (by omega)
    · simp only [n19, n21, sg_sgp hz, sgp_sgp] at e1
      rw [show sp_rs (sg (I (m + 21)) (8 * c) 8) (I (m + 53) i) D 0 = (I (m + 53) i, I (m + 53) i, D, 0) from rfl, sp_up_0] at e1
      rw [va_3 I (a := m + 19) (b := m + 26) _ _ _ (by omega)] at e1
      exact e1
    simp only [n19, n21, sg_sgp hz, sgp_sgp]
    rw [va_3 I (a := m + 19) (b := m + 26) _ _ _ (by omega), sp_up_up]
    refine ev_aload_n 134 dX12_lattice_133 rfl rfl ?_
    refine ev_getP 137 mm_cl12 (j := 31) (Nat.le_of_ble_eq_true rfl) dX12_lattice_134 lk1316 (fun _ _ _ => rfl) (hM.1 0 _ rfl) (a := (m + 26)) (hM.2.2 25 _ _ _ rfl) rfl ?_
    refine ev_sipushN 140 320 dX12_lattice_137 (by decide +kernel) rfl ?_
    refine ev_iload_n 141 dX12_lattice_140 rfl rfl ?_
    refine ev_imulN 142 dX12_lattice_141 rfl ?_
    refine ev_iload_n 143 dX12_lattice_142 rfl rfl ?_
    refine ev_iaddN 144 dX12_lattice_143 rfl ?_
    refine ev_iload 146 dX12_lattice_144 rfl rfl ?_
    refine ev_iast 147 _ dX12_lattice_146 (hM.1 26 _ rfl) rfl (by have hNN := hM.2.1 26 _ rfl; omega) rfl ?_
    refine ev_iincN 150 (lv' := [_, _, some (.int _), _, _, _, _, _, _, _]) 1 dX12_lattice_147 rfl (Nat.le_of_ble_eq_true rfl) rfl rfl ?_
    refine ev_goto 2 dX12_lattice_150 (by decide) ?_
    rw [va_up_s, bx_uu, sgp_up (by omega)]
    refine ev_le (mle_s (mle_s (mle_s (mle_s (mle_n (mle_n (mle_n (mle_n (mle_n (mle_n (mle_0))))))))))) ?_
    exact e
theorem ct_X12_lattice {c n : Nat} (hM : lyM B P m) (hc : c < 8) (hn : n ≤ 320) : Ct g mX12_lattice [.ref m, .int (nI c), .int (nI n)] B I J P
      (none, B, va_up (va_up I (m + 19) (sgp (I (m + 19)) (8 * c) 8 (sp_la (sg (I (m + 21)) (8 * c) 8) (I (m + 53)) (sg (I (m + 19)) (8 * c) 8, sg (I (m + 26)) (320 * c) 320, 0) n).1)) (m + 26) (sgp (I (m + 26)) (320 * c) 320 (sp_la (sg (I (m + 21)) (8 * c) 8) (I (m + 53)) (sg (I (m + 19)) (8 * c) 8, sg (I (m + 26)) (320 * c) 320, 0) n).2.1),
        sp_up J m 2 (sp_la (sg (I (m + 21)) (8 * c) 8) (I (m + 53)) (sg (I (m + 19)) (8 * c) 8, sg (I (m + 26)) (320 * c) 320, 0) n).2.2, P) := by
  have e := lp_X12_lattice2 (g := g) (I := I) (J := J) hM hc hn n 0 (by omega)
  rw [show sp_la (sg (I (m + 21)) (8 * c) 8) (I (m + 53)) (sg (I (m + 19)) (8 * c) 8, sg (I (m + 26)) (320 * c) 320, 0) 0 = (sg (I (m + 19)) (8 * c) 8, sg (I (m + 26)) (320 * c) 320, 0) from rfl] at e
  simp only [sgp_sg, sp_up_0] at e
  rw [va_up_id, va_up_id] at e
  refine ct_of (lv := [some (.ref m), some (.int (nI c)), some (.int (nI n)), none, none, none, none, none, none, none]) (by decide +kernel) (Nat.le_of_ble_eq_true rfl) rfl ?_
  refine ev_iconstN 1 0 dX12_lattice_0 rfl ?_
  refine ev_istore_n 2 (lv' := [_, _, some (.int _), _, _, _, _, _, _, _]) dX12_lattice_1 (Nat.le_of_ble_eq_true rfl) rfl rfl ?_
  exact e
end MOL
