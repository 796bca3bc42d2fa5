section JD1
variable {g : mm_G} {B : mm_B} {I : mm_TI} {J : mm_TJ} {P : mm_TP} {q : Nat}
theorem lp_fillI {v : Int32} (ht : mm_T B q = 200) (h31 : mm_N B q < 2 ^ 31) : ∀ (d n : Nat), n + d = mm_N B q →
    Ev g mJ7_fill_53178 5 [some (.ref q), some (.int v), some (.int (nI n)), some (.int (nI (mm_N B q)))] [] B (va_up I q (sgp (I q) 0 n (fun _ => v))) J P (none, B, va_up I q (sgp (I q) 0 (mm_N B q) (fun _ => v)), J, P) := by
  intro d
  induction d with
  | zero =>
    intro n hn
    refine ev_iload_n 6 dJ7_fill_53178_5 rfl rfl ?_
    refine ev_iload_n 7 dJ7_fill_53178_6 rfl rfl ?_
    refine ev_icmp_geN 10 20 dJ7_fill_53178_7 (by decide) (by omega) (by omega) rfl (fun hbr => ?_) (fun hx => absurd ((by omega)) hx)
    obtain e : n = mm_N B q := by omega
    rw [e]
    exact ev_vret dJ7_fill_53178_20 rfl (rfl)
  | succ d ih =>
    intro n hn
    refine ev_iload_n 6 dJ7_fill_53178_5 rfl rfl ?_
    refine ev_iload_n 7 dJ7_fill_53178_6 rfl rfl ?_
    refine ev_icmp_geN 10 20 dJ7_fill_53178_7 (by decide) (by omega) (by omega) rfl (fun hx => absurd hx ((by omega))) (fun hbr => ?_)
    refine ev_aload_n 11 dJ7_fill_53178_10 rfl rfl ?_
    refine ev_iload_n 12 dJ7_fill_53178_11 rfl rfl ?_
    refine ev_iload_n 13 dJ7_fill_53178_12 rfl rfl ?_
    refine ev_iast 14 _ dJ7_fill_53178_13 ht rfl (by omega) rfl ?_
    refine ev_iincN 17 (lv' := [_, some (.int _), _, _]) 1 dJ7_fill_53178_14 rfl (Nat.le_of_ble_eq_true rfl) rfl rfl ?_
    refine ev_goto 5 dJ7_fill_53178_17 (by decide) ?_
    have e2 := sgp_grow (f := I q) (off := 0) (n := n) (v := fun _ => v) (x := v) rfl
    simp only [Nat.zero_add] at e2
    rw [va_up_s, bx_uu, e2]
    exact ih (n + 1) (by omega)
theorem ct_fillI {v : Int32} (ht : mm_T B q = 200) (h31 : mm_N B q < 2 ^ 31) : Ct g mJ7_fill_53178 [.ref q, .int v] B I J P (none, B, va_up I q (sgp (I q) 0 (mm_N B q) (fun _ => v)), J, P) := by
  refine ct_of (lv := [some (.ref q), some (.int v), none, none]) (by decide +kernel) (Nat.le_of_ble_eq_true rfl) rfl ?_
  refine ev_iconstN 1 0 dJ7_fill_53178_0 rfl ?_
  refine ev_istore_n 2 (lv' := [_, some (.int _), _, _]) dJ7_fill_53178_1 (Nat.le_of_ble_eq_true rfl) rfl rfl ?_
  refine ev_aload_n 3 dJ7_fill_53178_2 rfl rfl ?_
  refine ev_alen 4 0 dJ7_fill_53178_3 ht rfl ?_
  refine ev_istore_n 5 (lv' := [_, _, some (.int _), _]) dJ7_fill_53178_4 (Nat.le_of_ble_eq_true rfl) rfl rfl ?_
  have e := lp_fillI (g := g) (I := I) (J := J) (P := P) (v := v) ht h31 (mm_N B q) 0 (by omega)
  rw [sgp_0, va_up_id] at e
  exact e
theorem ct_fill0 (ht : mm_T B q = 200) (h31 : mm_N B q < 2 ^ 31) : Ct g mJ7_fill_53178 [.ref q, .int (nI 0)] B I J P (none, B, va_up I q (fun _ => 0), J, P) := by
  refine ct_cgZ (fun q' j h => ?_) (ct_fillI (v := nI 0) ht h31)
  by_cases e : q' = q
  · subst e
    rw [va_up_s, va_up_s]
    have hj := h (by omega)
    have e2 := sgp_in (f := I q') (v := fun _ => nI 0) (off := 0) hj
    rw [Nat.zero_add] at e2
    rw [e2, nI_0]
  · rw [va_up_n _ _ e, va_up_n _ _ e]
end JD1
theorem sgp_all {f : Nat → Int32} {n : Nat} {v : Int32} (h : ∀ j, n ≤ j → f j = 0) (hv : v = 0) : sgp f 0 n (fun _ => v) = fun _ => 0 := by
  funext j
  unfold sgp
  by_cases c : 0 ≤ j ∧ j < 0 + n
  · rw [if_pos c, hv]
  · rw [if_neg c]; exact h j (by omega)
theorem cpy_sh {H E : Nat → Int32} {sb : Nat} (hb : sb ≤ 160) (h : ∀ j, 160 ≤ j → H j = 0) : va_cpy E (va_cpy H H sb 0 (160 - sb)) 0 (160 - sb) sb = sp_sh H E sb := by
  funext k
  unfold va_cpy sp_sh
  by_cases c : k < 160 - sb
  · rw [if_neg (by omega), if_pos (by omega), if_pos c]
    exact congrArg H (by omega)
  · rw [if_neg c]
    by_cases c2 : k < 160
    · rw [if_pos (by omega), if_pos c2]
      exact congrArg E (by omega)
    · rw [if_neg (by omega), if_neg (by omega), if_neg c2]
      exact h k (by omega)
section VH1
variable {g : mm_G} {B : mm_B} {I : mm_TI} {J : mm_TJ} {P : mm_TP} {x b : Nat}
theorem lp_X6_settle {fr sb : Nat} (hV : lyV B P x) (hK : lyK B P x b) (hxb : x + 22 ≤ b) (hb : sb ≤ 80) (hfr : fr + sb ≤ 321) : ∀ (d n : Nat), n + d = sb →
    Ev g mX6_settle 41 [some (.ref b), some (.int (nI sb)), some (.int (nI fr)), some (.int (nI n))] [] B
      (va_up (va_up I (b + 2) (sp_sq (I (b + 3)) (I (x + 9)) fr (I (b + 2), I (x + 6), 0) n).1) (x + 6) (sp_sq (I (b + 3)) (I (x + 9)) fr (I (b + 2), I (x + 6), 0) n).2.1)
      (sp_up J (x + 1) 3 (sp_sq (I (b + 3)) (I (x + 9)) fr (I (b + 2), I (x + 6), 0) n).2.2) P
      (none, B, va_up (va_up I (b + 2) (sp_sq (I (b + 3)) (I (x + 9)) fr (I (b + 2), I (x + 6), 0) sb).1) (x + 6) (sp_sq (I (b + 3)) (I (x + 9)) fr (I (b + 2), I (x + 6), 0) sb).2.1,
        sp_up J (x + 1) 3 (sp_sq (I (b + 3)) (I (x + 9)) fr (I (b + 2), I (x + 6), 0) sb).2.2, P) := by
  intro d
  induction d with
  | zero =>
    intro n hn
    refine ev_iload_n 42 dX6_settle_41 rfl rfl ?_
    refine ev_iload_n 43 dX6_settle_42 rfl rfl ?_
    refine ev_icmp_geN 46 76 dX6_settle_43 (by decide) (by omega) (by omega) rfl (fun hbr => ?_) (fun hx => absurd ((by omega)) hx)
    obtain rfl : n = sb := by omega
    exact ev_vret dX6_settle_76 rfl (rfl)
  | succ d ih =>
    intro n hn
    have e := ih (n + 1) (by omega)
    generalize hq : sp_sq (I (b + 3)) (I (x + 9)) fr (I (b + 2), I (x + 6), 0) n = q
    simp only [sp_sq, hq] at e
    obtain ⟨V, Y, t⟩ := q
    have n2 : ∀ (M Y : Nat → Int32), va_up (va_up I (b + 2) M) (x + 6) Y (b + 2) = M := fun M Y => by rw [va_up_n _ _ (by omega), va_up_s]
    have n3 : ∀ (M Y : Nat → Int32), va_up (va_up I (b + 2) M) (x + 6) Y (b + 3) = I (b + 3) := fun M Y => by rw [va_up_n _ _ (by omega), va_up_n _ _ (by omega)]
    have n9 : ∀ (M Y : Nat → Int32), va_up (va_up I (b + 2) M) (x + 6) Y (x + 9) = I (x + 9) := fun M Y => by rw [va_up_n _ _ (by omega), va_up_n _ _ (by omega)]
    refine ev_iload_n 42 dX6_settle_41 rfl rfl ?_
    refine ev_iload_n 43 dX6_settle_42 rfl rfl ?_
    refine ev_icmp_geN 46 76 dX6_settle_43 (by decide) (by omega) (by omega) rfl (fun hx => absurd hx ((by omega))) (fun hbr => ?_)
    refine ev_aload_n 47 dX6_settle_46 rfl rfl ?_
    refine ev_getP 50 mm_cl6 (j := 5) (Nat.le_of_ble_eq_true rfl) dX6_settle_47 lk355 (fun _ _ _ => rfl) (hK.1 0 _ rfl) (a := (x + 4)) (hK.2.2.2 1 _ _ _ rfl) rfl ?_
    refine ev_getP 53 mm_cl8 (j := 1) (Nat.le_of_ble_eq_true rfl) dX6_settle_50 lk136 (fun _ _ _ => rfl) (hV.1 4 _ rfl) (a := (x + 6)) (hV.2.2 9 _ _ _ rfl) rfl ?_
    refine ev_iload_n 54 dX6_settle_53 rfl rfl ?_
    refine ev_iload_n 55 dX6_settle_54 rfl rfl ?_
    refine ev_iaddN 56 dX6_settle_55 rfl ?_
    refine ev_aload_n 57 dX6_settle_56 rfl rfl ?_
    refine ev_aload_n 58 dX6_settle_57 rfl rfl ?_
    refine ev_getP 61 mm_cl6 (j := 5) (Nat.le_of_ble_eq_true rfl) dX6_settle_58 lk355 (fun _ _ _ => rfl) (hK.1 0 _ rfl) (a := (x + 4)) (hK.2.2.2 1 _ _ _ rfl) rfl ?_
    refine ev_getP 64 mm_cl8 (j := 4) (Nat.le_of_ble_eq_true rfl) dX6_settle_61 lk144 (fun _ _ _ => rfl) (hV.1 4 _ rfl) (a := (x + 9)) (hV.2.2 12 _ _ _ rfl) rfl ?_
    refine ev_iload_n 65 dX6_settle_64 rfl rfl ?_
    refine ev_iald 66 _ dX6_settle_65 (hV.1 9 _ rfl) rfl (by have hNN := hV.2.1 9 _ rfl; omega) rfl ?_
    refine ev_invV 69 (Mc := mX6_synthesized) ⟨lk823, lk84, hdX6_synthesized, (Nat.le_of_ble_eq_true rfl), (Nat.le_of_ble_eq_true rfl)⟩ lk820 lk822 lk19 mm_cl6 rfl dX6_settle_66 (ct_X6_synthesized hV hK) rfl (hK.1 0 _ rfl) (Nat.le_of_ble_eq_true rfl) rfl rfl ?_
    rw [sp_up_up]
    refine ev_iast 70 _ dX6_settle_69 (hV.1 6 _ rfl) rfl (by have hNN := hV.2.1 6 _ rfl; omega) rfl ?_
    refine ev_iincN 73 (lv' := [_, _, some (.int _), _]) 1 dX6_settle_70 rfl (Nat.le_of_ble_eq_true rfl) rfl rfl ?_
    refine ev_goto 41 dX6_settle_73 (by decide) ?_
    simp only [n2, n3, n9]
    rw [va_3 I (a := b + 2) (b := x + 6) _ _ _ (by omega), va_up_s, bx_uu]
    exact e
theorem cx_X6_settle {fr sb : Nat} {E H : Nat → Int32} (hV : lyV B P x) (hK : lyK B P x b) (hxb : x + 22 ≤ b) (hb : sb ≤ 80) (hfr : fr + sb ≤ 321) (hE : ∀ n, n < sb → I (x + 9) n = E n) (hH : I (b + 1) = H) (hz : ∀ j, 160 ≤ j → H j = 0) : ∃ I' : mm_TI, Ct g mX6_settle [.ref b, .int (nI sb), .int (nI fr)] B I J P
    (none, B, I', sp_up J (x + 1) 3 (sp_sq (I (b + 3)) E fr (I (b + 2), I (x + 6), 0) sb).2.2, P) ∧
    I' (b + 1) = sp_sh H E sb ∧ I' (b + 2) = (sp_sq (I (b + 3)) E fr (I (b + 2), I (x + 6), 0) sb).1 ∧ I' (x + 6) = (sp_sq (I (b + 3)) E fr (I (b + 2), I (x + 6), 0) sb).2.1 ∧
    ∀ q, q ≠ b + 1 → q ≠ b + 2 → q ≠ x + 6 → I' q = I q := by
  have e := lp_X6_settle (g := g) (I := va_up I (b + 1) (sp_sh H E sb)) (J := J) hV hK hxb hb hfr sb 0 (by omega)
  simp only [sp_sq] at e
  rw [va_up_id, va_up_id, sp_up_0] at e
  simp only [va_up_n I (k := b + 1) (j := b + 2) _ (by omega), va_up_n I (k := b + 1) (j := b + 3) _ (by omega), va_up_n I (k := b + 1) (j := x + 6) _ (by omega), va_up_n I (k := b + 1) (j := x + 9) _ (by omega)] at e
  rw [sp_sq_cg sb hE] at e
  refine ⟨va_up (va_up (va_up I (b + 1) (sp_sh H E sb)) (b + 2) (sp_sq (I (b + 3)) E fr (I (b + 2), I (x + 6), 0) sb).1) (x + 6) (sp_sq (I (b + 3)) E fr (I (b + 2), I (x + 6), 0) sb).2.1, ?_, ?_, ?_, ?_, fun q h1 h2 h3 => ?_⟩
  · refine ct_of (lv := [some (.ref b), some (.int (nI sb)), some (.int (nI fr)), none]) (by decide +kernel) (Nat.le_of_ble_eq_true rfl) rfl ?_
    refine ev_aload_n 1 dX6_settle_0 rfl rfl ?_
    refine ev_getP 4 mm_cl6 (j := 0) (Nat.le_of_ble_eq_true rfl) dX6_settle_1 lk341 (fun _ _ _ => rfl) (hK.1 0 _ rfl) (a := (b + 1)) (hK.2.2.1 0 _ _ _ rfl) rfl ?_
    refine ev_iload_n 5 dX6_settle_4 rfl rfl ?_
    refine ev_aload_n 6 dX6_settle_5 rfl rfl ?_
    refine ev_getP 9 mm_cl6 (j := 0) (Nat.le_of_ble_eq_true rfl) dX6_settle_6 lk341 (fun _ _ _ => rfl) (hK.1 0 _ rfl) (a := (b + 1)) (hK.2.2.1 0 _ _ _ rfl) rfl ?_
    refine ev_iconstN 10 0 dX6_settle_9 rfl ?_
    refine ev_sipushN 13 160 dX6_settle_10 (by decide +kernel) rfl ?_
    refine ev_iload_n 14 dX6_settle_13 rfl rfl ?_
    refine ev_isubN 15 dX6_settle_14 (by omega) rfl ?_
    refine ev_copyI 18 (sb) (0) (160 - sb) 0 dX6_settle_15 lk819 lk650 lk649 lk88 (by decide) (hK.1 1 _ rfl) (hK.1 1 _ rfl) rfl rfl rfl (by have hNN := hK.2.1 1 _ rfl; have hNM := hK.2.1 1 _ rfl; omega) (by have hNN := hK.2.1 1 _ rfl; have hNM := hK.2.1 1 _ rfl; omega) (fun _ _ => rfl) (Nat.le_of_ble_eq_true rfl) (Nat.le_of_ble_eq_true rfl) (Nat.le_of_ble_eq_true rfl) rfl ?_
    refine ev_aload_n 19 dX6_settle_18 rfl rfl ?_
    refine ev_getP 22 mm_cl6 (j := 5) (Nat.le_of_ble_eq_true rfl) dX6_settle_19 lk355 (fun _ _ _ => rfl) (hK.1 0 _ rfl) (a := (x + 4)) (hK.2.2.2 1 _ _ _ rfl) rfl ?_
    refine ev_getP 25 mm_cl8 (j := 4) (Nat.le_of_ble_eq_true rfl) dX6_settle_22 lk144 (fun _ _ _ => rfl) (hV.1 4 _ rfl) (a := (x + 9)) (hV.2.2 12 _ _ _ rfl) rfl ?_
    refine ev_iconstN 26 0 dX6_settle_25 rfl ?_
    refine ev_aload_n 27 dX6_settle_26 rfl rfl ?_
    refine ev_getP 30 mm_cl6 (j := 0) (Nat.le_of_ble_eq_true rfl) dX6_settle_27 lk341 (fun _ _ _ => rfl) (hK.1 0 _ rfl) (a := (b + 1)) (hK.2.2.1 0 _ _ _ rfl) rfl ?_
    refine ev_sipushN 33 160 dX6_settle_30 (by decide +kernel) rfl ?_
    refine ev_iload_n 34 dX6_settle_33 rfl rfl ?_
    refine ev_isubN 35 dX6_settle_34 (by omega) rfl ?_
    refine ev_iload_n 36 dX6_settle_35 rfl rfl ?_
    refine ev_copyI 39 (0) (160 - sb) (sb) 0 dX6_settle_36 lk819 lk650 lk649 lk88 (by decide) (hV.1 9 _ rfl) (hK.1 1 _ rfl) rfl rfl rfl (by have hNN := hV.2.1 9 _ rfl; have hNM := hK.2.1 1 _ rfl; omega) (by have hNN := hV.2.1 9 _ rfl; have hNM := hK.2.1 1 _ rfl; omega) (fun _ _ => rfl) (Nat.le_of_ble_eq_true rfl) (Nat.le_of_ble_eq_true rfl) (Nat.le_of_ble_eq_true rfl) rfl ?_
    refine ev_iconstN 40 0 dX6_settle_39 rfl ?_
    refine ev_istore_n 41 (lv' := [_, _, some (.int _), _]) dX6_settle_40 (Nat.le_of_ble_eq_true rfl) rfl rfl ?_
    rw [va_up_s, bx_uu, va_up_n I (k := b + 1) (j := x + 9) _ (by omega), hH, cpy_sh (by omega) hz, sp_sh_cg (by omega) hE]
    exact e
  · rw [va_up_n _ _ (by omega), va_up_n _ _ (by omega), va_up_s]
  · rw [va_up_n _ _ (by omega), va_up_s]
  · rw [va_up_s]
  · rw [va_up_n _ _ h3, va_up_n _ _ h2, va_up_n _ _ h1]
end VH1
