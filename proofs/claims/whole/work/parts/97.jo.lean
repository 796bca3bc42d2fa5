/-! JOINING -/
def sp_gs (Y : Nat → Int32) : Nat → Int32
  | 0 => 0
  | k + 1 => i_max (sp_gs Y k) (i_abs (Y (k + 1) - Y k))
def sp_gb (b : Int32) (Y : Nat → Int32) : Nat → Int32
  | 0 => b
  | k + 1 => i_max (sp_gb b Y k) (i_abs (Y (k + 1) - Y k))
def jn (b s y : Int32) : Int32 := i_max (b - s) (if y < b + s then y else b + s)
def jv (b s : Int32) (Y : Nat → Int32) : Nat → Int32
  | 0 => b
  | n + 1 => jn (jv b s Y n) s (Y n)
theorem sp_gb_e {b : Int32} {Y : Nat → Int32} (hb : 0 ≤ b.toInt) : ∀ k, sp_gb b Y k = i_max b (sp_gs Y k) := by
  intro k
  apply Int32.toInt_inj.mp
  induction k with
  | zero =>
    show b.toInt = (i_max b 0).toInt
    rw [i_max_t, show (0 : Int32).toInt = 0 from rfl]; omega
  | succ k ih =>
    show (i_max (sp_gb b Y k) _).toInt = (i_max b (i_max (sp_gs Y k) _)).toInt
    rw [i_max_t, ih, i_max_t, i_max_t, i_max_t]; omega
theorem i_sub_t {a b : Int32} (h1 : -1000000 ≤ a.toInt) (h2 : a.toInt ≤ 1000000) (h3 : -1000000 ≤ b.toInt) (h4 : b.toInt ≤ 1000000) : (a - b).toInt = a.toInt - b.toInt := by
  rw [Int32.toInt_sub, Int.bmod_eq_of_le (by omega) (by omega)]
theorem i_abs_t {a b : Int32} (ha : r16 a) (hb : r16 b) : (i_abs (a - b)).toInt = if a.toInt < b.toInt then b.toInt - a.toInt else a.toInt - b.toInt := by
  unfold r16 at ha hb
  have e := i_sub_t (a := a) (b := b) (by omega) (by omega) (by omega) (by omega)
  unfold i_abs
  by_cases c : 0 ≤ a - b
  · rw [if_pos c]
    rw [Int32.le_iff_toInt_le, e, show (0 : Int32).toInt = 0 from rfl] at c
    rw [if_neg (by omega), e]
  · rw [if_neg c]
    rw [Int32.le_iff_toInt_le, e, show (0 : Int32).toInt = 0 from rfl] at c
    rw [if_pos (by omega), i_sub_t (by show -1000000 ≤ (0 : Int32).toInt; decide) (by show (0 : Int32).toInt ≤ 1000000; decide) (by omega) (by omega), e, show (0 : Int32).toInt = 0 from rfl]
    omega
theorem st_m {a b : Int32} (ha : r16 a) (hb : r16 b) : (if b < a then a - b else b - a) = i_abs (a - b) := by
  apply Int32.toInt_inj.mp
  rw [i_abs_t ha hb]
  unfold r16 at ha hb
  by_cases c : b < a
  · rw [if_pos c, i_sub_t (by omega) (by omega) (by omega) (by omega)]
    rw [Int32.lt_iff_toInt_lt] at c
    rw [if_neg (by omega)]
  · rw [if_neg c, i_sub_t (by omega) (by omega) (by omega) (by omega)]
    rw [Int32.lt_iff_toInt_lt] at c
    by_cases c2 : a.toInt < b.toInt
    · rw [if_pos c2]
    · rw [if_neg c2]; omega
theorem sp_gs_r {Y : Nat → Int32} : ∀ k, (∀ n, n ≤ k → r16 (Y n)) → 0 ≤ (sp_gs Y k).toInt ∧ (sp_gs Y k).toInt ≤ 65535 := by
  intro k
  induction k with
  | zero => intro _; exact ⟨by show 0 ≤ (0 : Int32).toInt; decide, by show (0 : Int32).toInt ≤ 65535; decide⟩
  | succ k ih =>
    intro h
    have h1 := ih (fun n hn => h n (by omega))
    have h2 := h (k + 1) (by omega)
    have h3 := h k (by omega)
    have e := i_abs_t h2 h3
    unfold r16 at h2 h3
    show 0 ≤ (i_max (sp_gs Y k) _).toInt ∧ (i_max (sp_gs Y k) _).toInt ≤ 65535
    rw [i_max_t, e]
    split <;> omega
theorem jn_t {b s y : Int32} (hb : r16 b) (hy : r16 y) (h0 : 0 ≤ s.toInt) (h1 : s.toInt ≤ 65535) : (jn b s y).toInt = max (b.toInt - s.toInt) (min y.toInt (b.toInt + s.toInt)) := by
  unfold r16 at hb hy
  have e1 := i_sub_t (a := b) (b := s) (by omega) (by omega) (by omega) (by omega)
  have e2 := i_add_t (a := b) (b := s) (by omega) (by omega) (by omega) (by omega)
  unfold jn
  rw [i_max_t, e1]
  by_cases c : y < b + s
  · rw [if_pos c]; rw [Int32.lt_iff_toInt_lt, e2] at c; omega
  · rw [if_neg c]; rw [Int32.lt_iff_toInt_lt, e2] at c; omega
theorem jn_m {b s y : Int32} (hb : r16 b) (hy : r16 y) (h0 : 0 ≤ s.toInt) (h1 : s.toInt ≤ 65535) : (if b + s < y then b + s else if y < b - s then b - s else y) = jn b s y := by
  apply Int32.toInt_inj.mp
  rw [jn_t hb hy h0 h1]
  unfold r16 at hb hy
  have e1 := i_sub_t (a := b) (b := s) (by omega) (by omega) (by omega) (by omega)
  have e2 := i_add_t (a := b) (b := s) (by omega) (by omega) (by omega) (by omega)
  by_cases c : b + s < y
  · rw [if_pos c]; rw [Int32.lt_iff_toInt_lt, e2] at c; omega
  · rw [if_neg c]; rw [Int32.lt_iff_toInt_lt, e2] at c
    by_cases c2 : y < b - s
    · rw [if_pos c2]; rw [Int32.lt_iff_toInt_lt, e1] at c2; omega
    · rw [if_neg c2]; rw [Int32.lt_iff_toInt_lt, e1] at c2; omega
theorem jn_r {b s y : Int32} (hb : r16 b) (hy : r16 y) (h0 : 0 ≤ s.toInt) (h1 : s.toInt ≤ 65535) : r16 (jn b s y) := by
  have e := jn_t hb hy h0 h1
  unfold r16 at *
  omega
theorem jv_r {b s : Int32} {Y : Nat → Int32} {N : Nat} (hb : r16 b) (hy : ∀ n, n < N → r16 (Y n)) (h0 : 0 ≤ s.toInt) (h1 : s.toInt ≤ 65535) : ∀ n, n ≤ N → r16 (jv b s Y n) := by
  intro n
  induction n with
  | zero => intro _; exact hb
  | succ n ih => intro hn; exact jn_r (ih (by omega)) (hy n (by omega)) h0 h1
section VJO
variable {g : mm_G} {B : mm_B} {I : mm_TI} {J : mm_TJ} {P : mm_TP} {m x o q : Nat}
theorem lp_X1_gs {N : Nat} {Y : Nat → Int32} (tq : mm_T B q = 200) (nq : N ≤ mm_N B q) (hN : N < 2 ^ 31) (hY : ∀ n, n < N → I q n = Y n) : ∀ (d k : Nat), k + d = N - 1 →
    Ev g mX1_greatestStep 4 [some (.ref q), some (.int (nI N)), some (.int (sp_gs Y k)), some (.int (nI (k + 1)))] [] B I J P (some (.int (sp_gs Y (N - 1))), B, I, J, P) := by
  intro d
  induction d with
  | zero =>
    intro k hk
    obtain rfl : k = N - 1 := by omega
    refine ev_iload_n 5 dX1_greatestStep_4 rfl rfl ?_
    refine ev_iload_n 6 dX1_greatestStep_5 rfl rfl ?_
    refine ev_icmp_geN 9 32 dX1_greatestStep_6 (by decide) (by omega) (by omega) rfl (fun hbr => ?_) (fun hx => absurd ((by omega)) hx)
    refine ev_iload_n 33 dX1_greatestStep_32 rfl rfl ?_
    exact ev_iret dX1_greatestStep_33 rfl (rfl)
  | succ d ih =>
    intro k hk
    have e := ih (k + 1) (by omega)
    refine ev_iload_n 5 dX1_greatestStep_4 rfl rfl ?_
    refine ev_iload_n 6 dX1_greatestStep_5 rfl rfl ?_
    refine ev_icmp_geN 9 32 dX1_greatestStep_6 (by decide) (by omega) (by omega) rfl (fun hx => absurd hx ((by omega))) (fun hbr => ?_)
    refine ev_iload_n 10 dX1_greatestStep_9 rfl rfl ?_
    refine ev_aload_n 11 dX1_greatestStep_10 rfl rfl ?_
    refine ev_iload_n 12 dX1_greatestStep_11 rfl rfl ?_
    refine ev_iald 13 _ dX1_greatestStep_12 tq rfl (by omega) rfl ?_
    refine ev_eqI (y := (Y (k + 1))) ((hY _ (by omega))) ?_
    refine ev_aload_n 14 dX1_greatestStep_13 rfl rfl ?_
    refine ev_iload_n 15 dX1_greatestStep_14 rfl rfl ?_
    refine ev_iconstN 16 1 dX1_greatestStep_15 rfl ?_
    refine ev_isubN 17 dX1_greatestStep_16 (by omega) rfl ?_
    refine ev_iald 18 _ dX1_greatestStep_17 tq rfl (by omega) rfl ?_
    refine ev_eqI (y := (Y k)) ((by rw [show k + 1 - 1 = k from rfl]; exact hY _ (by omega))) ?_
    refine ev_isub 19 dX1_greatestStep_18 rfl ?_
    refine ev_abs 22 dX1_greatestStep_19 lk1162 lk631 lk87 lk632 (Nat.le_of_ble_eq_true rfl) (Nat.le_of_ble_eq_true rfl) (Nat.le_of_ble_eq_true rfl) rfl ?_
    refine ev_max 25 dX1_greatestStep_22 lk1082 lk679 lk87 lk680 (Nat.le_of_ble_eq_true rfl) (Nat.le_of_ble_eq_true rfl) (Nat.le_of_ble_eq_true rfl) rfl ?_
    refine ev_eqI (y := (sp_gs Y (k + 1))) (rfl) ?_
    refine ev_istore_n 26 (lv' := [_, some (.int _), _, _]) dX1_greatestStep_25 (Nat.le_of_ble_eq_true rfl) rfl rfl ?_
    refine ev_iincN 29 (lv' := [_, _, some (.int _), _]) 1 dX1_greatestStep_26 rfl (Nat.le_of_ble_eq_true rfl) rfl rfl ?_
    refine ev_goto 4 dX1_greatestStep_29 (by decide) ?_
    exact e
theorem ct_X1_gs {N : Nat} {Y : Nat → Int32} (tq : mm_T B q = 200) (nq : N ≤ mm_N B q) (hN : N < 2 ^ 31) (hY : ∀ n, n < N → I q n = Y n) : Ct g mX1_greatestStep [.ref q, .int (nI N)] B I J P (some (.int (sp_gs Y (N - 1))), B, I, J, P) := by
  have e := lp_X1_gs (g := g) (J := J) (P := P) tq nq hN hY (N - 1) 0 (by omega)
  refine ct_of (lv := [some (.ref q), some (.int (nI N)), none, none]) (by decide +kernel) (Nat.le_of_ble_eq_true rfl) rfl ?_
  refine ev_iconstN 1 0 dX1_greatestStep_0 rfl ?_
  refine ev_istore_n 2 (lv' := [_, some (.int _), _, _]) dX1_greatestStep_1 (Nat.le_of_ble_eq_true rfl) rfl rfl ?_
  refine ev_iconstN 3 1 dX1_greatestStep_2 rfl ?_
  refine ev_istore_n 4 (lv' := [_, _, some (.int _), _]) dX1_greatestStep_3 (Nat.le_of_ble_eq_true rfl) rfl rfl ?_
  exact e
theorem lp_X1_join {N : Nat} {b s : Int32} {Y : Nat → Int32} (hV : lyV B P x) (hC : lyC B P x o) (hN : N ≤ 320) (hY : I (x + 6) = Y) : ∀ (d n : Nat), n + d = N →
    Ev g mX1_joinOn 62 [some (.ref (o + 17)), some (.int (nI N)), some (.ref (x + 6)), some (.int s), some (.int (jv b s Y n)), some (.int (nI n))] [] B (va_up I (x + 6) (sgp Y 0 n (fun k => jv b s Y (k + 1)))) J P (none, B, va_up I (x + 6) (sgp Y 0 N (fun k => jv b s Y (k + 1))), J, P) := by
  intro d
  induction d with
  | zero =>
    intro n hn
    obtain rfl : n = N := by omega
    refine ev_iload 64 dX1_joinOn_62 rfl rfl ?_
    refine ev_iload_n 65 dX1_joinOn_64 rfl rfl ?_
    refine ev_icmp_geN 68 102 dX1_joinOn_65 (by decide) (by omega) (by omega) rfl (fun hbr => ?_) (fun hx => absurd ((by omega)) hx)
    exact ev_vret dX1_joinOn_102 rfl (rfl)
  | succ d ih =>
    intro n hn
    have e := ih (n + 1) (by omega)
    rw [← sg0_grow (f := Y) (v := fun k => jv b s Y (k + 1)) (n := n) (w := jv b s Y (n + 1)) rfl] at e
    refine ev_iload 64 dX1_joinOn_62 rfl rfl ?_
    refine ev_iload_n 65 dX1_joinOn_64 rfl rfl ?_
    refine ev_icmp_geN 68 102 dX1_joinOn_65 (by decide) (by omega) (by omega) rfl (fun hx => absurd hx ((by omega))) (fun hbr => ?_)
    refine ev_aload_n 69 dX1_joinOn_68 rfl rfl ?_
    refine ev_iload 71 dX1_joinOn_69 rfl rfl ?_
    refine ev_iload 73 dX1_joinOn_71 rfl rfl ?_
    refine ev_iload_n 74 dX1_joinOn_73 rfl rfl ?_
    refine ev_isub 75 dX1_joinOn_74 rfl ?_
    refine ev_iload 77 dX1_joinOn_75 rfl rfl ?_
    refine ev_iload_n 78 dX1_joinOn_77 rfl rfl ?_
    refine ev_iadd 79 dX1_joinOn_78 rfl ?_
    refine ev_aload_n 80 dX1_joinOn_79 rfl rfl ?_
    refine ev_iload 82 dX1_joinOn_80 rfl rfl ?_
    refine ev_iald 83 _ dX1_joinOn_82 (hV.1 6 _ rfl) rfl (by have hNN := hV.2.1 6 _ rfl; omega) rfl ?_
    refine ev_eqI (y := (Y n)) ((by rw [va_up_s, sgp_out (by omega)])) ?_
    refine ev_min 86 dX1_joinOn_83 lk1163 lk759 lk87 lk760 (Nat.le_of_ble_eq_true rfl) (Nat.le_of_ble_eq_true rfl) (Nat.le_of_ble_eq_true rfl) rfl ?_
    refine ev_max 89 dX1_joinOn_86 lk1082 lk679 lk87 lk680 (Nat.le_of_ble_eq_true rfl) (Nat.le_of_ble_eq_true rfl) (Nat.le_of_ble_eq_true rfl) rfl ?_
    refine ev_eqI (y := (jv b s Y (n + 1))) (rfl) ?_
    refine ev_iast 90 _ dX1_joinOn_89 (hV.1 6 _ rfl) rfl (by have hNN := hV.2.1 6 _ rfl; omega) rfl ?_
    rw [va_up_s, bx_uu]
    refine ev_aload_n 91 dX1_joinOn_90 rfl rfl ?_
    refine ev_iload 93 dX1_joinOn_91 rfl rfl ?_
    refine ev_iald 94 _ dX1_joinOn_93 (hV.1 6 _ rfl) rfl (by have hNN := hV.2.1 6 _ rfl; omega) rfl ?_
    refine ev_eqI (y := (jv b s Y (n + 1))) ((by rw [va_up_s, va_up_s])) ?_
    refine ev_istore 96 (lv' := [_, _, _, some (.int _), _, _]) dX1_joinOn_94 (Nat.le_of_ble_eq_true rfl) rfl rfl ?_
    refine ev_iincN 99 (lv' := [_, _, _, _, some (.int _), _]) 1 dX1_joinOn_96 rfl (Nat.le_of_ble_eq_true rfl) rfl rfl ?_
    refine ev_goto 62 dX1_joinOn_99 (by decide) ?_
    exact e
theorem ct_X1_join {N ot : Nat} {bd : Int32} {O : Nat → Int32} (hV : lyV B P x) (hC : lyC B P x o) (hN : N ≤ 320) (r10 : I (o + 17) 10 = bd) (r6 : I (o + 17) 6 = nI ot) (hot : ot ≤ 321) (hO : ∀ n, n < ot → I (o + 28) n = O n) :
    Ct g mX1_joinOn [.ref (o + 17), .int (nI N)] B I J P (none, B, va_up I (x + 6) (sgp (I (x + 6)) 0 N (fun k => jv (if ot = 0 then 0 else O (ot - 1)) (i_max bd (i_max (sp_gs (I (x + 6)) (N - 1)) (sp_gs O (ot - 1)))) (I (x + 6)) (k + 1))), J, P) := by
  have n6 := hV.2.1 6 _ rfl
  have n28 := hC.2.1 28 _ rfl
  have g1 := ct_X1_gs (g := g) (B := B) (I := I) (J := J) (P := P) (q := x + 6) (N := N) (Y := I (x + 6)) (hV.1 6 _ rfl) (by omega) (by omega) (fun _ _ => rfl)
  have g2 := ct_X1_gs (g := g) (B := B) (I := I) (J := J) (P := P) (q := o + 28) (N := ot) (Y := O) (hC.1 28 _ rfl) (by omega) (by omega) hO
  have e0 := lp_X1_join (g := g) (B := B) (I := I) (J := J) (P := P) (x := x) (o := o) (N := N) (b := if ot = 0 then 0 else O (ot - 1)) (s := i_max bd (i_max (sp_gs (I (x + 6)) (N - 1)) (sp_gs O (ot - 1)))) hV hC hN rfl N 0 (by omega)
  rw [sgp_0, va_up_id] at e0
  have e1 : Ev g mX1_joinOn 59 [some (.ref (o + 17)), some (.int (nI N)), some (.ref (x + 6)), some (.int (i_max bd (i_max (sp_gs (I (x + 6)) (N - 1)) (sp_gs O (ot - 1))))), some (.int (if ot = 0 then 0 else O (ot - 1))), none] [] B I J P (none, B, va_up I (x + 6) (sgp (I (x + 6)) 0 N (fun k => jv (if ot = 0 then 0 else O (ot - 1)) (i_max bd (i_max (sp_gs (I (x + 6)) (N - 1)) (sp_gs O (ot - 1)))) (I (x + 6)) (k + 1))), J, P) := by
    refine ev_iconstN 60 0 dX1_joinOn_59 rfl ?_
    refine ev_istore 62 (lv' := [_, _, _, _, some (.int _), _]) dX1_joinOn_60 (Nat.le_of_ble_eq_true rfl) rfl rfl ?_
    exact e0
  refine ct_of (lv := [some (.ref (o + 17)), some (.int (nI N)), none, none, none, none]) (by decide +kernel) (Nat.le_of_ble_eq_true rfl) rfl ?_
  refine ev_aload_n 1 dX1_joinOn_0 rfl rfl ?_
  refine ev_getP 4 mm_cl1 (j := 1) (Nat.le_of_ble_eq_true rfl) dX1_joinOn_1 lk473 (fun _ _ _ => rfl) (hC.1 17 _ rfl) (a := (x + 4)) (hC.2.2.2 6 _ _ _ rfl) rfl ?_
  refine ev_getP 7 mm_cl8 (j := 1) (Nat.le_of_ble_eq_true rfl) dX1_joinOn_4 lk137 (fun _ _ _ => rfl) (hV.1 4 _ rfl) (a := (x + 6)) (hV.2.2 9 _ _ _ rfl) rfl ?_
  refine ev_astore_n 8 (lv' := [_, some (.int _), _, _, _, _]) dX1_joinOn_7 (Nat.le_of_ble_eq_true rfl) rfl rfl ?_
  refine ev_aload_n 9 dX1_joinOn_8 rfl rfl ?_
  refine ev_getI 12 mm_cl1 (j := 10) (Nat.le_of_ble_eq_true rfl) dX1_joinOn_9 lk487 (fun _ _ _ => rfl) (hC.1 17 _ rfl) rfl ?_
  refine ev_eqI (y := (bd)) (r10) ?_
  refine ev_aload_n 13 dX1_joinOn_12 rfl rfl ?_
  refine ev_iload_n 14 dX1_joinOn_13 rfl rfl ?_
  refine ev_invS 17 (Mc := mX1_greatestStep) ⟨lk1161, lk85, hdX1_greatestStep, (Nat.le_of_ble_eq_true rfl), (Nat.le_of_ble_eq_true rfl)⟩ lk1159 lk1160 dX1_joinOn_14 (g1) rfl (Nat.le_of_ble_eq_true rfl) rfl rfl ?_
  refine ev_aload_n 18 dX1_joinOn_17 rfl rfl ?_
  refine ev_getP 21 mm_cl1 (j := 5) (Nat.le_of_ble_eq_true rfl) dX1_joinOn_18 lk479 (fun _ _ _ => rfl) (hC.1 17 _ rfl) (a := (o + 28)) (hC.2.2.1 16 _ _ _ rfl) rfl ?_
  refine ev_aload_n 22 dX1_joinOn_21 rfl rfl ?_
  refine ev_getI 25 mm_cl1 (j := 6) (Nat.le_of_ble_eq_true rfl) dX1_joinOn_22 lk481 (fun _ _ _ => rfl) (hC.1 17 _ rfl) rfl ?_
  refine ev_eqI (y := nI (ot)) (r6) ?_
  refine ev_invS 28 (Mc := mX1_greatestStep) ⟨lk1161, lk85, hdX1_greatestStep, (Nat.le_of_ble_eq_true rfl), (Nat.le_of_ble_eq_true rfl)⟩ lk1159 lk1160 dX1_joinOn_25 (g2) rfl (Nat.le_of_ble_eq_true rfl) rfl rfl ?_
  refine ev_max 31 dX1_joinOn_28 lk1082 lk679 lk87 lk680 (Nat.le_of_ble_eq_true rfl) (Nat.le_of_ble_eq_true rfl) (Nat.le_of_ble_eq_true rfl) rfl ?_
  refine ev_eqI (y := (i_max (sp_gs (I (x + 6)) (N - 1)) (sp_gs O (ot - 1)))) (rfl) ?_
  refine ev_max 34 dX1_joinOn_31 lk1082 lk679 lk87 lk680 (Nat.le_of_ble_eq_true rfl) (Nat.le_of_ble_eq_true rfl) (Nat.le_of_ble_eq_true rfl) rfl ?_
  refine ev_eqI (y := (i_max bd (i_max (sp_gs (I (x + 6)) (N - 1)) (sp_gs O (ot - 1))))) (rfl) ?_
  refine ev_istore_n 35 (lv' := [_, _, some (.ref _), _, _, _]) dX1_joinOn_34 (Nat.le_of_ble_eq_true rfl) rfl rfl ?_
  refine ev_aload_n 36 dX1_joinOn_35 rfl rfl ?_
  refine ev_getI 39 mm_cl1 (j := 6) (Nat.le_of_ble_eq_true rfl) dX1_joinOn_36 lk481 (fun _ _ _ => rfl) (hC.1 17 _ rfl) rfl ?_
  refine ev_eqI (y := nI (ot)) (r6) ?_
  by_cases cz : ot = 0
  · rw [if_pos cz, ← nI_0] at e1
    rw [if_pos cz, ← nI_0]
    refine ev_if_leN 42 56 dX1_joinOn_39 (by decide) (by omega) rfl (fun hbr => ?_) (fun hx => absurd ((by omega)) hx)
    refine ev_iconstN 57 0 dX1_joinOn_56 rfl ?_
    refine ev_istore 59 (lv' := [_, _, _, some (.int _), _, _]) dX1_joinOn_57 (Nat.le_of_ble_eq_true rfl) rfl rfl ?_
    exact e1
  · rw [if_neg cz] at e1
    rw [if_neg cz]
    refine ev_if_leN 42 56 dX1_joinOn_39 (by decide) (by omega) rfl (fun hx => absurd hx ((by omega))) (fun hbr => ?_)
    refine ev_aload_n 43 dX1_joinOn_42 rfl rfl ?_
    refine ev_getP 46 mm_cl1 (j := 5) (Nat.le_of_ble_eq_true rfl) dX1_joinOn_43 lk479 (fun _ _ _ => rfl) (hC.1 17 _ rfl) (a := (o + 28)) (hC.2.2.1 16 _ _ _ rfl) rfl ?_
    refine ev_aload_n 47 dX1_joinOn_46 rfl rfl ?_
    refine ev_getI 50 mm_cl1 (j := 6) (Nat.le_of_ble_eq_true rfl) dX1_joinOn_47 lk481 (fun _ _ _ => rfl) (hC.1 17 _ rfl) rfl ?_
    refine ev_eqI (y := nI (ot)) (r6) ?_
    refine ev_iconstN 51 1 dX1_joinOn_50 rfl ?_
    refine ev_isubN 52 dX1_joinOn_51 (by omega) rfl ?_
    refine ev_iald 53 _ dX1_joinOn_52 (hC.1 28 _ rfl) rfl (by have hNN := hC.2.1 28 _ rfl; omega) rfl ?_
    refine ev_eqI (y := (O (ot - 1))) ((hO _ (by omega))) ?_
    refine ev_goto 57 dX1_joinOn_53 (by decide) ?_
    refine ev_istore 59 (lv' := [_, _, _, some (.int _), _, _]) dX1_joinOn_57 (Nat.le_of_ble_eq_true rfl) rfl rfl ?_
    exact e1
theorem lp_X12_jo1 {c N : Nat} {b : Int32} {Y : Nat → Int32} {Z : mm_Z} (hM : lyM B P m) (hN : N ≤ 320) (hY : ∀ n, n < N → I (m + 54) n = Y n) (hr : ∀ n, n < N → r16 (Y n))
    (K : Ev g mX12_join0 93 [some (.ref m), some (.int (nI c)), some (.int (nI N)), some (.int (sp_gb b Y (N - 1))), none, none] [] B I J P Z) : ∀ (d k : Nat), k + d = N - 1 →
    Ev g mX12_join0 10 [some (.ref m), some (.int (nI c)), some (.int (nI N)), some (.int (sp_gb b Y k)), some (.int (nI (k + 1))), none] [] B I J P Z := by
  intro d
  induction d with
  | zero =>
    intro k hk
    obtain rfl : k = N - 1 := by omega
    refine ev_iload 12 dX12_join0_10 rfl rfl ?_
    refine ev_iload_n 13 dX12_join0_12 rfl rfl ?_
    refine ev_icmp_geN 16 93 dX12_join0_13 (by decide) (by omega) (by omega) rfl (fun hbr => ?_) (fun hx => absurd ((by omega)) hx)
    refine ev_le (mle_s (mle_s (mle_s (mle_s (mle_n (mle_n (mle_0))))))) ?_
    exact K
  | succ d ih =>
    intro k hk
    have e := ih (k + 1) (by omega)
    have hs := st_m (hr (k + 1) (by omega)) (hr k (by omega))
    have k72 : ∀ (w : Int32), w = i_abs (Y (k + 1) - Y k) → Ev g mX12_join0 74 [some (.ref m), some (.int (nI c)), some (.int (nI N)), some (.int (sp_gb b Y k)), some (.int (nI (k + 1))), some (.int w)] [] B I J P Z := by
      intro w hw
      rw [show sp_gb b Y (k + 1) = i_max (sp_gb b Y k) (i_abs (Y (k + 1) - Y k)) from rfl, ← hw] at e
      refine ev_iload 76 dX12_join0_74 rfl rfl ?_
      refine ev_iload_n 77 dX12_join0_76 rfl rfl ?_
      refine ev_icmp_le 80 85 dX12_join0_77 (by decide) rfl (fun hle => ?_) (fun hle => ?_)
      · rw [show i_max (sp_gb b Y k) w = sp_gb b Y k by unfold i_max; rw [if_neg (Int32.not_lt.mpr hle)]] at e
        refine ev_iload_n 86 dX12_join0_85 rfl rfl ?_
        refine ev_istore_n 87 (lv' := [_, _, some (.int _), _, _, _]) dX12_join0_86 (Nat.le_of_ble_eq_true rfl) rfl rfl ?_
        refine ev_iincN 90 (lv' := [_, _, _, some (.int _), _, _]) 1 dX12_join0_87 rfl (Nat.le_of_ble_eq_true rfl) rfl rfl ?_
        refine ev_goto 10 dX12_join0_90 (by decide) ?_
        refine ev_le (mle_s (mle_s (mle_s (mle_s (mle_s (mle_n (mle_0))))))) ?_
        exact e
      · rw [show i_max (sp_gb b Y k) w = w by unfold i_max; rw [if_pos (Int32.not_le.mp hle)]] at e
        refine ev_iload 82 dX12_join0_80 rfl rfl ?_
        refine ev_goto 86 dX12_join0_82 (by decide) ?_
        refine ev_istore_n 87 (lv' := [_, _, some (.int _), _, _, _]) dX12_join0_86 (Nat.le_of_ble_eq_true rfl) rfl rfl ?_
        refine ev_iincN 90 (lv' := [_, _, _, some (.int _), _, _]) 1 dX12_join0_87 rfl (Nat.le_of_ble_eq_true rfl) rfl rfl ?_
        refine ev_goto 10 dX12_join0_90 (by decide) ?_
        refine ev_le (mle_s (mle_s (mle_s (mle_s (mle_s (mle_n (mle_0))))))) ?_
        exact e
    have y1 := hY (k + 1) (by omega)
    have y0 : I (m + 54) (k + 1 - 1) = Y k := hY k (by omega)
    refine ev_iload 12 dX12_join0_10 rfl rfl ?_
    refine ev_iload_n 13 dX12_join0_12 rfl rfl ?_
    refine ev_icmp_geN 16 93 dX12_join0_13 (by decide) (by omega) (by omega) rfl (fun hx => absurd hx ((by omega))) (fun hbr => ?_)
    refine ev_aload_n 17 dX12_join0_16 rfl rfl ?_
    refine ev_getP 20 mm_cl12 (j := 60) (Nat.le_of_ble_eq_true rfl) dX12_join0_17 lk1345 (fun _ _ _ => rfl) (hM.1 0 _ rfl) (a := (m + 54)) (hM.2.2 53 _ _ _ rfl) rfl ?_
    refine ev_iload 22 dX12_join0_20 rfl rfl ?_
    refine ev_iald 23 _ dX12_join0_22 (hM.1 54 _ rfl) rfl (by have hNN := hM.2.1 54 _ rfl; omega) rfl ?_
    refine ev_eqI (y := (Y (k + 1))) (y1) ?_
    refine ev_aload_n 24 dX12_join0_23 rfl rfl ?_
    refine ev_getP 27 mm_cl12 (j := 60) (Nat.le_of_ble_eq_true rfl) dX12_join0_24 lk1345 (fun _ _ _ => rfl) (hM.1 0 _ rfl) (a := (m + 54)) (hM.2.2 53 _ _ _ rfl) rfl ?_
    refine ev_iload 29 dX12_join0_27 rfl rfl ?_
    refine ev_iconstN 30 1 dX12_join0_29 rfl ?_
    refine ev_isubN 31 dX12_join0_30 (by omega) rfl ?_
    refine ev_iald 32 _ dX12_join0_31 (hM.1 54 _ rfl) rfl (by have hNN := hM.2.1 54 _ rfl; omega) rfl ?_
    refine ev_eqI (y := (Y k)) (y0) ?_
    refine ev_icmp_le 35 55 dX12_join0_32 (by decide) rfl (fun hz => ?_) (fun hz => ?_)
    · refine ev_aload_n 56 dX12_join0_55 rfl rfl ?_
      refine ev_getP 59 mm_cl12 (j := 60) (Nat.le_of_ble_eq_true rfl) dX12_join0_56 lk1345 (fun _ _ _ => rfl) (hM.1 0 _ rfl) (a := (m + 54)) (hM.2.2 53 _ _ _ rfl) rfl ?_
      refine ev_iload 61 dX12_join0_59 rfl rfl ?_
      refine ev_iconstN 62 1 dX12_join0_61 rfl ?_
      refine ev_isubN 63 dX12_join0_62 (by omega) rfl ?_
      refine ev_iald 64 _ dX12_join0_63 (hM.1 54 _ rfl) rfl (by have hNN := hM.2.1 54 _ rfl; omega) rfl ?_
      refine ev_eqI (y := (Y k)) (y0) ?_
      refine ev_aload_n 65 dX12_join0_64 rfl rfl ?_
      refine ev_getP 68 mm_cl12 (j := 60) (Nat.le_of_ble_eq_true rfl) dX12_join0_65 lk1345 (fun _ _ _ => rfl) (hM.1 0 _ rfl) (a := (m + 54)) (hM.2.2 53 _ _ _ rfl) rfl ?_
      refine ev_iload 70 dX12_join0_68 rfl rfl ?_
      refine ev_iald 71 _ dX12_join0_70 (hM.1 54 _ rfl) rfl (by have hNN := hM.2.1 54 _ rfl; omega) rfl ?_
      refine ev_eqI (y := (Y (k + 1))) (y1) ?_
      refine ev_isub 72 dX12_join0_71 rfl ?_
      refine ev_istore 74 (lv' := [_, _, _, _, some (.int _), _]) dX12_join0_72 (Nat.le_of_ble_eq_true rfl) rfl rfl ?_
      exact k72 _ (by rw [← hs, if_neg (Int32.not_lt.mpr hz)])
    · refine ev_aload_n 36 dX12_join0_35 rfl rfl ?_
      refine ev_getP 39 mm_cl12 (j := 60) (Nat.le_of_ble_eq_true rfl) dX12_join0_36 lk1345 (fun _ _ _ => rfl) (hM.1 0 _ rfl) (a := (m + 54)) (hM.2.2 53 _ _ _ rfl) rfl ?_
      refine ev_iload 41 dX12_join0_39 rfl rfl ?_
      refine ev_iald 42 _ dX12_join0_41 (hM.1 54 _ rfl) rfl (by have hNN := hM.2.1 54 _ rfl; omega) rfl ?_
      refine ev_eqI (y := (Y (k + 1))) (y1) ?_
      refine ev_aload_n 43 dX12_join0_42 rfl rfl ?_
      refine ev_getP 46 mm_cl12 (j := 60) (Nat.le_of_ble_eq_true rfl) dX12_join0_43 lk1345 (fun _ _ _ => rfl) (hM.1 0 _ rfl) (a := (m + 54)) (hM.2.2 53 _ _ _ rfl) rfl ?_
      refine ev_iload 48 dX12_join0_46 rfl rfl ?_
      refine ev_iconstN 49 1 dX12_join0_48 rfl ?_
      refine ev_isubN 50 dX12_join0_49 (by omega) rfl ?_
      refine ev_iald 51 _ dX12_join0_50 (hM.1 54 _ rfl) rfl (by have hNN := hM.2.1 54 _ rfl; omega) rfl ?_
      refine ev_eqI (y := (Y k)) (y0) ?_
      refine ev_isub 52 dX12_join0_51 rfl ?_
      refine ev_goto 72 dX12_join0_52 (by decide) ?_
      refine ev_istore 74 (lv' := [_, _, _, _, some (.int _), _]) dX12_join0_72 (Nat.le_of_ble_eq_true rfl) rfl rfl ?_
      exact k72 _ (by rw [← hs, if_pos (Int32.not_le.mp hz)])
theorem lp_X12_jo2 {c N ot : Nat} {b : Int32} {O : Nat → Int32} {Z : mm_Z} (hM : lyM B P m) (hc8 : c < 8) (hot : ot ≤ 321) (hs : I (m + 44) c = nI ot) (hO : ∀ n, n < ot → I (m + 45) (322 * c + n) = O n)
    (K : Ev g mX12_join0 172 [some (.ref m), some (.int (nI c)), some (.int (nI N)), some (.int (sp_gb b O (ot - 1))), none, none] [] B I J P Z) : ∀ (d k : Nat), k + d = ot - 1 →
    Ev g mX12_join0 96 [some (.ref m), some (.int (nI c)), some (.int (nI N)), some (.int (sp_gb b O k)), some (.int (nI (k + 1))), none] [] B I J P Z := by
  intro d
  induction d with
  | zero =>
    intro k hk
    obtain rfl : k = ot - 1 := by omega
    refine ev_iload 98 dX12_join0_96 rfl rfl ?_
    refine ev_aload_n 99 dX12_join0_98 rfl rfl ?_
    refine ev_getP 102 mm_cl12 (j := 50) (Nat.le_of_ble_eq_true rfl) dX12_join0_99 lk1335 (fun _ _ _ => rfl) (hM.1 0 _ rfl) (a := (m + 44)) (hM.2.2 43 _ _ _ rfl) rfl ?_
    refine ev_iload_n 103 dX12_join0_102 rfl rfl ?_
    refine ev_iald 104 _ dX12_join0_103 (hM.1 44 _ rfl) rfl (by have hNN := hM.2.1 44 _ rfl; omega) rfl ?_
    refine ev_eqI (y := nI (ot)) (hs) ?_
    refine ev_icmp_geN 107 172 dX12_join0_104 (by decide) (by omega) (by omega) rfl (fun hbr => ?_) (fun hx => absurd ((by omega)) hx)
    refine ev_le (mle_s (mle_s (mle_s (mle_s (mle_n (mle_n (mle_0))))))) ?_
    exact K
  | succ d ih =>
    intro k hk
    have e := ih (k + 1) (by omega)
    rw [show sp_gb b O (k + 1) = i_max (sp_gb b O k) (i_abs (O (k + 1) - O k)) from rfl] at e
    have k153 : ∀ w : Int32, w = i_abs (O (k + 1) - O k) → Ev g mX12_join0 153 [some (.ref m), some (.int (nI c)), some (.int (nI N)), some (.int (sp_gb b O k)), some (.int (nI (k + 1))), some (.int w)] [] B I J P Z := by
      intro w hw
      subst hw
      refine ev_iload 155 dX12_join0_153 rfl rfl ?_
      refine ev_iload_n 156 dX12_join0_155 rfl rfl ?_
      refine ev_icmp_le 159 164 dX12_join0_156 (by decide) rfl (fun hle => ?_) (fun hle => ?_)
      · rw [show i_max (sp_gb b O k) (i_abs (O (k + 1) - O k)) = sp_gb b O k by unfold i_max; rw [if_neg (Int32.not_lt.mpr hle)]] at e
        refine ev_iload_n 165 dX12_join0_164 rfl rfl ?_
        refine ev_istore_n 166 (lv' := [_, _, some (.int _), _, _, _]) dX12_join0_165 (Nat.le_of_ble_eq_true rfl) rfl rfl ?_
        refine ev_iincN 169 (lv' := [_, _, _, some (.int _), _, _]) 1 dX12_join0_166 rfl (Nat.le_of_ble_eq_true rfl) rfl rfl ?_
        refine ev_goto 96 dX12_join0_169 (by decide) ?_
        refine ev_le (mle_s (mle_s (mle_s (mle_s (mle_s (mle_n (mle_0))))))) ?_
        exact e
      · rw [show i_max (sp_gb b O k) (i_abs (O (k + 1) - O k)) = i_abs (O (k + 1) - O k) by unfold i_max; rw [if_pos (Int32.not_le.mp hle)]] at e
        refine ev_iload 161 dX12_join0_159 rfl rfl ?_
        refine ev_goto 165 dX12_join0_161 (by decide) ?_
        refine ev_istore_n 166 (lv' := [_, _, some (.int _), _, _, _]) dX12_join0_165 (Nat.le_of_ble_eq_true rfl) rfl rfl ?_
        refine ev_iincN 169 (lv' := [_, _, _, some (.int _), _, _]) 1 dX12_join0_166 rfl (Nat.le_of_ble_eq_true rfl) rfl rfl ?_
        refine ev_goto 96 dX12_join0_169 (by decide) ?_
        refine ev_le (mle_s (mle_s (mle_s (mle_s (mle_s (mle_n (mle_0))))))) ?_
        exact e
    refine ev_iload 98 dX12_join0_96 rfl rfl ?_
    refine ev_aload_n 99 dX12_join0_98 rfl rfl ?_
    refine ev_getP 102 mm_cl12 (j := 50) (Nat.le_of_ble_eq_true rfl) dX12_join0_99 lk1335 (fun _ _ _ => rfl) (hM.1 0 _ rfl) (a := (m + 44)) (hM.2.2 43 _ _ _ rfl) rfl ?_
    refine ev_iload_n 103 dX12_join0_102 rfl rfl ?_
    refine ev_iald 104 _ dX12_join0_103 (hM.1 44 _ rfl) rfl (by have hNN := hM.2.1 44 _ rfl; omega) rfl ?_
    refine ev_eqI (y := nI (ot)) (hs) ?_
    refine ev_icmp_geN 107 172 dX12_join0_104 (by decide) (by omega) (by omega) rfl (fun hx => absurd hx ((by omega))) (fun hbr => ?_)
    refine ev_aload_n 108 dX12_join0_107 rfl rfl ?_
    refine ev_getP 111 mm_cl12 (j := 51) (Nat.le_of_ble_eq_true rfl) dX12_join0_108 lk1336 (fun _ _ _ => rfl) (hM.1 0 _ rfl) (a := (m + 45)) (hM.2.2 44 _ _ _ rfl) rfl ?_
    refine ev_sipushN 114 322 dX12_join0_111 (by decide +kernel) rfl ?_
    refine ev_iload_n 115 dX12_join0_114 rfl rfl ?_
    refine ev_imulN 116 dX12_join0_115 rfl ?_
    refine ev_iload 118 dX12_join0_116 rfl rfl ?_
    refine ev_iaddN 119 dX12_join0_118 rfl ?_
    refine ev_iald 120 _ dX12_join0_119 (hM.1 45 _ rfl) rfl (by have hNN := hM.2.1 45 _ rfl; omega) rfl ?_
    refine ev_eqI (y := (O (k + 1))) ((hO _ (by omega))) ?_
    refine ev_aload_n 121 dX12_join0_120 rfl rfl ?_
    refine ev_getP 124 mm_cl12 (j := 51) (Nat.le_of_ble_eq_true rfl) dX12_join0_121 lk1336 (fun _ _ _ => rfl) (hM.1 0 _ rfl) (a := (m + 45)) (hM.2.2 44 _ _ _ rfl) rfl ?_
    refine ev_sipushN 127 322 dX12_join0_124 (by decide +kernel) rfl ?_
    refine ev_iload_n 128 dX12_join0_127 rfl rfl ?_
    refine ev_imulN 129 dX12_join0_128 rfl ?_
    refine ev_iload 131 dX12_join0_129 rfl rfl ?_
    refine ev_iaddN 132 dX12_join0_131 rfl ?_
    refine ev_iconstN 133 1 dX12_join0_132 rfl ?_
    refine ev_isubN 134 dX12_join0_133 (by omega) rfl ?_
    refine ev_iald 135 _ dX12_join0_134 (hM.1 45 _ rfl) rfl (by have hNN := hM.2.1 45 _ rfl; omega) rfl ?_
    refine ev_eqI (y := (O k)) ((by rw [show 322 * c + (k + 1) - 1 = 322 * c + k by omega]; exact hO _ (by omega))) ?_
    refine ev_isub 136 dX12_join0_135 rfl ?_
    refine ev_istore 138 (lv' := [_, _, _, _, some (.int _), _]) dX12_join0_136 (Nat.le_of_ble_eq_true rfl) rfl rfl ?_
    refine ev_iload 140 dX12_join0_138 rfl rfl ?_
    refine ev_if_ge 143 149 dX12_join0_140 (by decide) rfl (fun hz => ?_) (fun hz => ?_)
    · refine ev_iload 151 dX12_join0_149 rfl rfl ?_
      refine ev_istore 153 (lv' := [_, _, _, _, some (.int _), _]) dX12_join0_151 (Nat.le_of_ble_eq_true rfl) rfl rfl ?_
      exact k153 _ (by unfold i_abs; rw [if_pos hz])
    · refine ev_iload 145 dX12_join0_143 rfl rfl ?_
      refine ev_ineg 146 dX12_join0_145 rfl ?_
      refine ev_goto 151 dX12_join0_146 (by decide) ?_
      refine ev_istore 153 (lv' := [_, _, _, _, some (.int _), _]) dX12_join0_151 (Nat.le_of_ble_eq_true rfl) rfl rfl ?_
      exact k153 _ (by unfold i_abs; rw [if_neg hz, Int32.zero_sub])
theorem lp_X12_jo3 {c N : Nat} {b s : Int32} {Y : Nat → Int32} (hM : lyM B P m) (hN : N ≤ 320) (hY : I (m + 54) = Y) (hb : r16 b) (hr : ∀ n, n < N → r16 (Y n)) (h0 : 0 ≤ s.toInt) (h1 : s.toInt ≤ 65535) : ∀ (d n : Nat), n + d = N →
    Ev g mX12_join0 209 [some (.ref m), some (.int (nI c)), some (.int (nI N)), some (.int s), some (.int (jv b s Y n)), some (.int (nI n))] [] B (va_up I (m + 54) (sgp Y 0 n (fun k => jv b s Y (k + 1)))) J P (none, B, va_up I (m + 54) (sgp Y 0 N (fun k => jv b s Y (k + 1))), J, P) := by
  intro d
  induction d with
  | zero =>
    intro n hn
    obtain rfl : n = N := by omega
    refine ev_iload 211 dX12_join0_209 rfl rfl ?_
    refine ev_iload_n 212 dX12_join0_211 rfl rfl ?_
    refine ev_icmp_geN 215 286 dX12_join0_212 (by decide) (by omega) (by omega) rfl (fun hbr => ?_) (fun hx => absurd ((by omega)) hx)
    exact ev_vret dX12_join0_286 rfl (rfl)
  | succ d ih =>
    intro n hn
    have e := ih (n + 1) (by omega)
    rw [← sg0_grow (f := Y) (v := fun k => jv b s Y (k + 1)) (n := n) (w := jv b s Y (n + 1)) rfl] at e
    have hj := jn_m (jv_r hb hr h0 h1 n (by omega)) (hr n (by omega)) h0 h1
    rw [show jn (jv b s Y n) s (Y n) = jv b s Y (n + 1) from rfl] at hj
    have y0 : va_up I (m + 54) (sgp Y 0 n (fun k => jv b s Y (k + 1))) (m + 54) n = Y n := by rw [va_up_s, sgp_out (by omega)]
    have k270 : Ev g mX12_join0 270 [some (.ref m), some (.int (nI c)), some (.int (nI N)), some (.int s), some (.int (jv b s Y n)), some (.int (nI n))] [.int (jv b s Y (n + 1)), .int (nI n), .ref (m + 54)] B (va_up I (m + 54) (sgp Y 0 n (fun k => jv b s Y (k + 1)))) J P (none, B, va_up I (m + 54) (sgp Y 0 N (fun k => jv b s Y (k + 1))), J, P) := by
      refine ev_iast 271 _ dX12_join0_270 (hM.1 54 _ rfl) rfl (by have hNN := hM.2.1 54 _ rfl; omega) rfl ?_
      rw [va_up_s, bx_uu]
      refine ev_aload_n 272 dX12_join0_271 rfl rfl ?_
      refine ev_getP 275 mm_cl12 (j := 60) (Nat.le_of_ble_eq_true rfl) dX12_join0_272 lk1345 (fun _ _ _ => rfl) (hM.1 0 _ rfl) (a := (m + 54)) (hM.2.2 53 _ _ _ rfl) rfl ?_
      refine ev_iload 277 dX12_join0_275 rfl rfl ?_
      refine ev_iald 278 _ dX12_join0_277 (hM.1 54 _ rfl) rfl (by have hNN := hM.2.1 54 _ rfl; omega) rfl ?_
      refine ev_eqI (y := (jv b s Y (n + 1))) ((by rw [va_up_s, va_up_s])) ?_
      refine ev_istore 280 (lv' := [_, _, _, some (.int _), _, _]) dX12_join0_278 (Nat.le_of_ble_eq_true rfl) rfl rfl ?_
      refine ev_iincN 283 (lv' := [_, _, _, _, some (.int _), _]) 1 dX12_join0_280 rfl (Nat.le_of_ble_eq_true rfl) rfl rfl ?_
      refine ev_goto 209 dX12_join0_283 (by decide) ?_
      exact e
    generalize hjn : jv b s Y (n + 1) = w at k270 hj
    refine ev_iload 211 dX12_join0_209 rfl rfl ?_
    refine ev_iload_n 212 dX12_join0_211 rfl rfl ?_
    refine ev_icmp_geN 215 286 dX12_join0_212 (by decide) (by omega) (by omega) rfl (fun hx => absurd hx ((by omega))) (fun hbr => ?_)
    refine ev_aload_n 216 dX12_join0_215 rfl rfl ?_
    refine ev_getP 219 mm_cl12 (j := 60) (Nat.le_of_ble_eq_true rfl) dX12_join0_216 lk1345 (fun _ _ _ => rfl) (hM.1 0 _ rfl) (a := (m + 54)) (hM.2.2 53 _ _ _ rfl) rfl ?_
    refine ev_iload 221 dX12_join0_219 rfl rfl ?_
    refine ev_aload_n 222 dX12_join0_221 rfl rfl ?_
    refine ev_getP 225 mm_cl12 (j := 60) (Nat.le_of_ble_eq_true rfl) dX12_join0_222 lk1345 (fun _ _ _ => rfl) (hM.1 0 _ rfl) (a := (m + 54)) (hM.2.2 53 _ _ _ rfl) rfl ?_
    refine ev_iload 227 dX12_join0_225 rfl rfl ?_
    refine ev_iald 228 _ dX12_join0_227 (hM.1 54 _ rfl) rfl (by have hNN := hM.2.1 54 _ rfl; omega) rfl ?_
    refine ev_eqI (y := (Y n)) (y0) ?_
    refine ev_iload 230 dX12_join0_228 rfl rfl ?_
    refine ev_iload_n 231 dX12_join0_230 rfl rfl ?_
    refine ev_iadd 232 dX12_join0_231 rfl ?_
    refine ev_icmp_le 235 242 dX12_join0_232 (by decide) rfl (fun hz => ?_) (fun hz => ?_)
    · rw [if_neg (Int32.not_lt.mpr hz)] at hj
      refine ev_aload_n 243 dX12_join0_242 rfl rfl ?_
      refine ev_getP 246 mm_cl12 (j := 60) (Nat.le_of_ble_eq_true rfl) dX12_join0_243 lk1345 (fun _ _ _ => rfl) (hM.1 0 _ rfl) (a := (m + 54)) (hM.2.2 53 _ _ _ rfl) rfl ?_
      refine ev_iload 248 dX12_join0_246 rfl rfl ?_
      refine ev_iald 249 _ dX12_join0_248 (hM.1 54 _ rfl) rfl (by have hNN := hM.2.1 54 _ rfl; omega) rfl ?_
      refine ev_eqI (y := (Y n)) (y0) ?_
      refine ev_iload 251 dX12_join0_249 rfl rfl ?_
      refine ev_iload_n 252 dX12_join0_251 rfl rfl ?_
      refine ev_isub 253 dX12_join0_252 rfl ?_
      refine ev_icmp_ge 256 263 dX12_join0_253 (by decide) rfl (fun hz2 => ?_) (fun hz2 => ?_)
      · rw [if_neg (Int32.not_lt.mpr hz2)] at hj
        refine ev_aload_n 264 dX12_join0_263 rfl rfl ?_
        refine ev_getP 267 mm_cl12 (j := 60) (Nat.le_of_ble_eq_true rfl) dX12_join0_264 lk1345 (fun _ _ _ => rfl) (hM.1 0 _ rfl) (a := (m + 54)) (hM.2.2 53 _ _ _ rfl) rfl ?_
        refine ev_iload 269 dX12_join0_267 rfl rfl ?_
        refine ev_iald 270 _ dX12_join0_269 (hM.1 54 _ rfl) rfl (by have hNN := hM.2.1 54 _ rfl; omega) rfl ?_
        refine ev_eqI (y := (w)) ((y0.trans hj)) ?_
        exact k270
      · rw [if_pos (Int32.not_le.mp hz2)] at hj
        refine ev_iload 258 dX12_join0_256 rfl rfl ?_
        refine ev_iload_n 259 dX12_join0_258 rfl rfl ?_
        refine ev_isub 260 dX12_join0_259 rfl ?_
        refine ev_goto 270 dX12_join0_260 (by decide) ?_
        refine ev_eqI (y := (w)) (hj) ?_
        exact k270
    · rw [if_pos (Int32.not_le.mp hz)] at hj
      refine ev_iload 237 dX12_join0_235 rfl rfl ?_
      refine ev_iload_n 238 dX12_join0_237 rfl rfl ?_
      refine ev_iadd 239 dX12_join0_238 rfl ?_
      refine ev_goto 270 dX12_join0_239 (by decide) ?_
      refine ev_eqI (y := (w)) (hj) ?_
      exact k270
theorem ct_X12_join {c N ot : Nat} {bd : Int32} {O : Nat → Int32} (hM : lyM B P m) (hc8 : c < 8) (hN : N ≤ 320) (r10 : I (m + 46) c = bd) (hbd : 0 ≤ bd.toInt) (hbd2 : bd.toInt ≤ 32767) (hs : I (m + 44) c = nI ot) (hot : ot ≤ 321) (hO : ∀ n, n < ot → I (m + 45) (322 * c + n) = O n) (hOr : ∀ n, n < ot → r16 (O n)) (hr : ∀ n, n < N → r16 (I (m + 54) n)) (hN1 : 1 ≤ N) :
    Ct g mX12_join0 [.ref m, .int (nI c), .int (nI N)] B I J P (none, B, va_up I (m + 54) (sgp (I (m + 54)) 0 N (fun k => jv (if ot = 0 then 0 else O (ot - 1)) (i_max bd (i_max (sp_gs (I (m + 54)) (N - 1)) (sp_gs O (ot - 1)))) (I (m + 54)) (k + 1))), J, P) := by
  have gr1 := sp_gs_r (Y := I (m + 54)) (N - 1) (fun n hn => hr n (by omega))
  have gr2 : 0 ≤ (sp_gs O (ot - 1)).toInt ∧ (sp_gs O (ot - 1)).toInt ≤ 65535 := by
    by_cases cz : ot = 0
    · rw [cz]; exact ⟨by show 0 ≤ (0 : Int32).toInt; decide, by show (0 : Int32).toInt ≤ 65535; decide⟩
    · exact sp_gs_r (ot - 1) (fun n hn => hOr n (by omega))
  have hst : sp_gb (sp_gb bd (I (m + 54)) (N - 1)) O (ot - 1) = i_max bd (i_max (sp_gs (I (m + 54)) (N - 1)) (sp_gs O (ot - 1))) := by
    have e1 := sp_gb_e (b := bd) (Y := I (m + 54)) hbd (N - 1)
    rw [e1, sp_gb_e (by rw [i_max_t]; omega)]
    apply Int32.toInt_inj.mp
    rw [i_max_t, i_max_t, i_max_t, i_max_t]; omega
  have hsr : 0 ≤ (i_max bd (i_max (sp_gs (I (m + 54)) (N - 1)) (sp_gs O (ot - 1)))).toInt ∧ (i_max bd (i_max (sp_gs (I (m + 54)) (N - 1)) (sp_gs O (ot - 1)))).toInt ≤ 65535 := by rw [i_max_t, i_max_t]; omega
  have hb0 : r16 (if ot = 0 then 0 else O (ot - 1)) := by
    by_cases cz : ot = 0
    · rw [if_pos cz]; exact r16_0
    · rw [if_neg cz]; exact hOr _ (by omega)
  have e3 := lp_X12_jo3 (g := g) (B := B) (I := I) (J := J) (P := P) (m := m) (c := c) (N := N) (b := if ot = 0 then 0 else O (ot - 1)) (s := i_max bd (i_max (sp_gs (I (m + 54)) (N - 1)) (sp_gs O (ot - 1)))) hM hN rfl hb0 hr hsr.1 hsr.2 N 0 (by omega)
  rw [sgp_0, va_up_id] at e3
  generalize hZ : (none, B, va_up I (m + 54) (sgp (I (m + 54)) 0 N (fun k => jv (if ot = 0 then 0 else O (ot - 1)) (i_max bd (i_max (sp_gs (I (m + 54)) (N - 1)) (sp_gs O (ot - 1)))) (I (m + 54)) (k + 1))), J, P) = Z at e3 ⊢
  have k206 : Ev g mX12_join0 206 [some (.ref m), some (.int (nI c)), some (.int (nI N)), some (.int (i_max bd (i_max (sp_gs (I (m + 54)) (N - 1)) (sp_gs O (ot - 1))))), some (.int (if ot = 0 then 0 else O (ot - 1))), none] [] B I J P Z := by
    refine ev_iconstN 207 0 dX12_join0_206 rfl ?_
    refine ev_istore 209 (lv' := [_, _, _, _, some (.int _), _]) dX12_join0_207 (Nat.le_of_ble_eq_true rfl) rfl rfl ?_
    exact e3
  have k172 : Ev g mX12_join0 172 [some (.ref m), some (.int (nI c)), some (.int (nI N)), some (.int (sp_gb (sp_gb bd (I (m + 54)) (N - 1)) O (ot - 1))), none, none] [] B I J P Z := by
    rw [hst]
    refine ev_aload_n 173 dX12_join0_172 rfl rfl ?_
    refine ev_getP 176 mm_cl12 (j := 50) (Nat.le_of_ble_eq_true rfl) dX12_join0_173 lk1335 (fun _ _ _ => rfl) (hM.1 0 _ rfl) (a := (m + 44)) (hM.2.2 43 _ _ _ rfl) rfl ?_
    refine ev_iload_n 177 dX12_join0_176 rfl rfl ?_
    refine ev_iald 178 _ dX12_join0_177 (hM.1 44 _ rfl) rfl (by have hNN := hM.2.1 44 _ rfl; omega) rfl ?_
    refine ev_eqI (y := nI (ot)) (hs) ?_
    by_cases cz : ot = 0
    · rw [if_pos cz, ← nI_0] at k206
      refine ev_if_neN 181 185 dX12_join0_178 (by decide) (by omega) rfl (fun hx => absurd ((by omega)) hx) (fun hbr => ?_)
      refine ev_iconstN 182 0 dX12_join0_181 rfl ?_
      refine ev_goto 204 dX12_join0_182 (by decide) ?_
      refine ev_istore 206 (lv' := [_, _, _, some (.int _), _, _]) dX12_join0_204 (Nat.le_of_ble_eq_true rfl) rfl rfl ?_
      exact k206
    · rw [if_neg cz] at k206
      refine ev_if_neN 181 185 dX12_join0_178 (by decide) (by omega) rfl (fun hbr => ?_) (fun hx => absurd hx ((by omega)))
      refine ev_aload_n 186 dX12_join0_185 rfl rfl ?_
      refine ev_getP 189 mm_cl12 (j := 51) (Nat.le_of_ble_eq_true rfl) dX12_join0_186 lk1336 (fun _ _ _ => rfl) (hM.1 0 _ rfl) (a := (m + 45)) (hM.2.2 44 _ _ _ rfl) rfl ?_
      refine ev_sipushN 192 322 dX12_join0_189 (by decide +kernel) rfl ?_
      refine ev_iload_n 193 dX12_join0_192 rfl rfl ?_
      refine ev_imulN 194 dX12_join0_193 rfl ?_
      refine ev_aload_n 195 dX12_join0_194 rfl rfl ?_
      refine ev_getP 198 mm_cl12 (j := 50) (Nat.le_of_ble_eq_true rfl) dX12_join0_195 lk1335 (fun _ _ _ => rfl) (hM.1 0 _ rfl) (a := (m + 44)) (hM.2.2 43 _ _ _ rfl) rfl ?_
      refine ev_iload_n 199 dX12_join0_198 rfl rfl ?_
      refine ev_iald 200 _ dX12_join0_199 (hM.1 44 _ rfl) rfl (by have hNN := hM.2.1 44 _ rfl; omega) rfl ?_
      refine ev_eqI (y := nI (ot)) (hs) ?_
      refine ev_iaddN 201 dX12_join0_200 rfl ?_
      refine ev_iconstN 202 1 dX12_join0_201 rfl ?_
      refine ev_isubN 203 dX12_join0_202 (by omega) rfl ?_
      refine ev_iald 204 _ dX12_join0_203 (hM.1 45 _ rfl) rfl (by have hNN := hM.2.1 45 _ rfl; omega) rfl ?_
      refine ev_eqI (y := (O (ot - 1))) ((by rw [show 322 * c + ot - 1 = 322 * c + (ot - 1) by omega]; exact hO _ (by omega))) ?_
      refine ev_istore 206 (lv' := [_, _, _, some (.int _), _, _]) dX12_join0_204 (Nat.le_of_ble_eq_true rfl) rfl rfl ?_
      exact k206
  have e2 := lp_X12_jo2 (g := g) (B := B) (I := I) (J := J) (P := P) (m := m) (c := c) (N := N) (ot := ot) (b := sp_gb bd (I (m + 54)) (N - 1)) (O := O) (Z := Z) hM hc8 hot hs hO k172 (ot - 1) 0 (by omega)
  have e1 := lp_X12_jo1 (g := g) (B := B) (I := I) (J := J) (P := P) (m := m) (c := c) (N := N) (b := bd) (Y := I (m + 54)) (Z := Z) hM hN (fun _ _ => rfl) hr (by
    refine ev_iconstN 94 1 dX12_join0_93 rfl ?_
    refine ev_istore 96 (lv' := [_, _, _, some (.int _), _, _]) dX12_join0_94 (Nat.le_of_ble_eq_true rfl) rfl rfl ?_
    exact e2) (N - 1) 0 (by omega)
  refine ct_of (lv := [some (.ref m), some (.int (nI c)), some (.int (nI N)), none, none, none]) (by decide +kernel) (Nat.le_of_ble_eq_true rfl) rfl ?_
  refine ev_aload_n 1 dX12_join0_0 rfl rfl ?_
  refine ev_getP 4 mm_cl12 (j := 52) (Nat.le_of_ble_eq_true rfl) dX12_join0_1 lk1337 (fun _ _ _ => rfl) (hM.1 0 _ rfl) (a := (m + 46)) (hM.2.2 45 _ _ _ rfl) rfl ?_
  refine ev_iload_n 5 dX12_join0_4 rfl rfl ?_
  refine ev_iald 6 _ dX12_join0_5 (hM.1 46 _ rfl) rfl (by have hNN := hM.2.1 46 _ rfl; omega) rfl ?_
  refine ev_eqI (y := (bd)) (r10) ?_
  refine ev_istore_n 7 (lv' := [_, _, some (.int _), _, _, _]) dX12_join0_6 (Nat.le_of_ble_eq_true rfl) rfl rfl ?_
  refine ev_iconstN 8 1 dX12_join0_7 rfl ?_
  refine ev_istore 10 (lv' := [_, _, _, some (.int _), _, _]) dX12_join0_8 (Nat.le_of_ble_eq_true rfl) rfl rfl ?_
  exact e1
end VJO
