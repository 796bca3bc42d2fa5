/-- what the pitch leaves -/
def sp_U (H R : Nat → Int32) (L : Nat) (p : Int32) : Nat → Int32 := fun n => R n - ((nI 5 * p * sp_beh H L n) >>> (nI 5 &&& 31))
def sp_hz (U : Nat → Int32) (sb q : Nat) : Int := 32 * (U q).toInt + (if q + 1 < sb then 16 * (U (q + 1)).toInt else 0) + (if q + 2 < sb then -8 * (U (q + 2)).toInt else 0)
theorem sp_hI {U : Nat → Int32} {n : Nat} : sp_ph 0 * U n = Int32.ofInt (32 * (U n).toInt) ∧ sp_ph 1 * U n = Int32.ofInt (16 * (U n).toInt) ∧ sp_ph 2 * U n = Int32.ofInt (-8 * (U n).toInt) := by
  refine ⟨?_, ?_, ?_⟩
  · rw [Int32.ofInt_mul, Int32.ofInt_toInt]; rfl
  · rw [Int32.ofInt_mul, Int32.ofInt_toInt]; rfl
  · rw [Int32.ofInt_mul, Int32.ofInt_toInt]; rfl
theorem sg0_in {f v : Nat → Int32} {n k : Nat} (h : k < n) : sgp f 0 n v k = v k := by
  have e := sgp_in (f := f) (v := v) (off := 0) h
  rw [Nat.zero_add] at e
  exact e
theorem sg0_grow {f v : Nat → Int32} {n : Nat} {w : Int32} (h : w = v n) : va_up (sgp f 0 n v) n w = sgp f 0 (n + 1) v := by
  have e := sgp_grow (f := f) (off := 0) (n := n) (v := v) (x := w) h
  rw [Nat.zero_add] at e
  exact e
section VHW
variable {g : mm_G} {B : mm_B} {I : mm_TI} {J : mm_TJ} {P : mm_TP} {x pt : Nat}
theorem lp_X9_weigh1 {sb : Nat} {p : Int32} {A R U : Nat → Int32} {Z : mm_Z} (hV : lyV B P x) (tp : mm_T B pt = 107) (hpt : pt ≠ x + 12) (hb : sb ≤ 80) (hs : I (x + 17) 2 = nI sb) (hp : I pt 1 = p) (hA : ∀ n, n < sb → I (x + 7) n = A n) (hR : ∀ n, n < sb → I (x + 11) n = R n) (hU : ∀ n, n < sb → U n = R n - ((nI 5 * p * A n) >>> (nI 5 &&& 31)))
    (K : Ev g mX9_weighPlaces 78 [some (.ref (x + 17)), some (.ref pt), none, none, none] [] B (va_up I (x + 12) (sgp (I (x + 12)) 0 sb U)) J P Z) : ∀ (d n : Nat), n + d = sb →
    Ev g mX9_weighPlaces 27 [some (.ref (x + 17)), some (.ref pt), some (.int (nI n)), none, none] [] B (va_up I (x + 12) (sgp (I (x + 12)) 0 n U)) J P Z := by
  intro d
  induction d with
  | zero =>
    intro n hn
    obtain rfl : n = sb := by omega
    refine ev_iload_n 28 dX9_weighPlaces_27 rfl rfl ?_
    refine ev_aload_n 29 dX9_weighPlaces_28 rfl rfl ?_
    refine ev_getI 32 mm_cl9 (j := 2) (Nat.le_of_ble_eq_true rfl) dX9_weighPlaces_29 lk245 (fun _ _ _ => rfl) (hV.1 17 _ rfl) rfl ?_
    refine ev_eqI (y := nI (n)) ((by rw [va_up_n _ _ (by omega)]; exact hs)) ?_
    refine ev_icmp_geN 35 78 dX9_weighPlaces_32 (by decide) (by omega) (by omega) rfl (fun hbr => ?_) (fun hx => absurd ((by omega)) hx)
    refine ev_le (mle_s (mle_s (mle_n (mle_n (mle_n (mle_0)))))) ?_
    exact K
  | succ d ih =>
    intro n hn
    have e3 := ih (n + 1) (by omega)
    rw [← sg0_grow (w := R n - ((nI 5 * p * A n) >>> (nI 5 &&& 31))) (hU n (by omega)).symm] at e3
    refine ev_iload_n 28 dX9_weighPlaces_27 rfl rfl ?_
    refine ev_aload_n 29 dX9_weighPlaces_28 rfl rfl ?_
    refine ev_getI 32 mm_cl9 (j := 2) (Nat.le_of_ble_eq_true rfl) dX9_weighPlaces_29 lk245 (fun _ _ _ => rfl) (hV.1 17 _ rfl) rfl ?_
    refine ev_eqI (y := nI (sb)) ((by rw [va_up_n _ _ (by omega)]; exact hs)) ?_
    refine ev_icmp_geN 35 78 dX9_weighPlaces_32 (by decide) (by omega) (by omega) rfl (fun hx => absurd hx ((by omega))) (fun hbr => ?_)
    refine ev_aload_n 36 dX9_weighPlaces_35 rfl rfl ?_
    refine ev_getP 39 mm_cl9 (j := 0) (Nat.le_of_ble_eq_true rfl) dX9_weighPlaces_36 lk242 (fun _ _ _ => rfl) (hV.1 17 _ rfl) (a := (x + 4)) (hV.2.2 20 _ _ _ rfl) rfl ?_
    refine ev_getP 42 mm_cl8 (j := 7) (Nat.le_of_ble_eq_true rfl) dX9_weighPlaces_39 lk151 (fun _ _ _ => rfl) (hV.1 4 _ rfl) (a := (x + 12)) (hV.2.2 15 _ _ _ rfl) rfl ?_
    refine ev_iload_n 43 dX9_weighPlaces_42 rfl rfl ?_
    refine ev_aload_n 44 dX9_weighPlaces_43 rfl rfl ?_
    refine ev_getP 47 mm_cl9 (j := 0) (Nat.le_of_ble_eq_true rfl) dX9_weighPlaces_44 lk242 (fun _ _ _ => rfl) (hV.1 17 _ rfl) (a := (x + 4)) (hV.2.2 20 _ _ _ rfl) rfl ?_
    refine ev_getP 50 mm_cl8 (j := 6) (Nat.le_of_ble_eq_true rfl) dX9_weighPlaces_47 lk149 (fun _ _ _ => rfl) (hV.1 4 _ rfl) (a := (x + 11)) (hV.2.2 14 _ _ _ rfl) rfl ?_
    refine ev_iload_n 51 dX9_weighPlaces_50 rfl rfl ?_
    refine ev_iald 52 _ dX9_weighPlaces_51 (hV.1 11 _ rfl) rfl (by have hNN := hV.2.1 11 _ rfl; omega) rfl ?_
    refine ev_eqI (y := (R n)) ((by rw [va_up_n _ _ (by omega)]; exact hR n (by omega))) ?_
    refine ev_iconstN 53 5 dX9_weighPlaces_52 rfl ?_
    refine ev_aload_n 54 dX9_weighPlaces_53 rfl rfl ?_
    refine ev_getI 57 mm_cl7 (j := 1) (Nat.le_of_ble_eq_true rfl) dX9_weighPlaces_54 lk206 (fun _ _ _ => rfl) tp rfl ?_
    refine ev_eqI (y := (p)) ((by rw [va_up_n _ _ hpt]; exact hp)) ?_
    refine ev_imul 58 dX9_weighPlaces_57 rfl ?_
    refine ev_aload_n 59 dX9_weighPlaces_58 rfl rfl ?_
    refine ev_getP 62 mm_cl9 (j := 0) (Nat.le_of_ble_eq_true rfl) dX9_weighPlaces_59 lk242 (fun _ _ _ => rfl) (hV.1 17 _ rfl) (a := (x + 4)) (hV.2.2 20 _ _ _ rfl) rfl ?_
    refine ev_getP 65 mm_cl8 (j := 2) (Nat.le_of_ble_eq_true rfl) dX9_weighPlaces_62 lk140 (fun _ _ _ => rfl) (hV.1 4 _ rfl) (a := (x + 7)) (hV.2.2 10 _ _ _ rfl) rfl ?_
    refine ev_iload_n 66 dX9_weighPlaces_65 rfl rfl ?_
    refine ev_iald 67 _ dX9_weighPlaces_66 (hV.1 7 _ rfl) rfl (by have hNN := hV.2.1 7 _ rfl; omega) rfl ?_
    refine ev_eqI (y := (A n)) ((by rw [va_up_n _ _ (by omega)]; exact hA n (by omega))) ?_
    refine ev_imul 68 dX9_weighPlaces_67 rfl ?_
    refine ev_iconstN 69 5 dX9_weighPlaces_68 rfl ?_
    refine ev_ishr 70 dX9_weighPlaces_69 rfl ?_
    refine ev_isub 71 dX9_weighPlaces_70 rfl ?_
    refine ev_iast 72 _ dX9_weighPlaces_71 (hV.1 12 _ rfl) rfl (by have hNN := hV.2.1 12 _ rfl; omega) rfl ?_
    refine ev_iincN 75 (lv' := [_, some (.ref _), _, _, _]) 1 dX9_weighPlaces_72 rfl (Nat.le_of_ble_eq_true rfl) rfl rfl ?_
    refine ev_goto 27 dX9_weighPlaces_75 (by decide) ?_
    rw [va_up_s, bx_uu]
    exact e3
/-- one place: its hit and its energy -/
theorem lp_X9_weigh2 {sb q : Nat} {U : Nat → Int32} {Z : mm_Z} (hV : lyV B P x) (hG : ly_G g B) (hc : st_c g I) (hb : sb ≤ 80) (hs : I (x + 17) 2 = nI sb) (hq : q < sb) (hU : ∀ n, n < sb → I (x + 12) n = U n)
    (K : Ev g mX9_weighPlaces 141 [some (.ref (x + 17)), some (.ref pt), some (.int (nI q)), some (.int (Int32.ofInt (sp_hz U sb q))), none] [] B I J P Z) :
    Ev g mX9_weighPlaces 93 [some (.ref (x + 17)), some (.ref pt), some (.int (nI q)), some (.int (nI 0)), some (.int (nI 0))] [] B I J P Z := by
  have s0 := hc.2.2 0 (by omega)
  have s1 := hc.2.2 1 (by omega)
  have s2 := hc.2.2 2 (by omega)
  unfold sp_hz at K
  rw [Int32.ofInt_add, Int32.ofInt_add, ← sp_hI.1] at K
  refine ev_iload 95 dX9_weighPlaces_93 rfl rfl ?_
  refine ev_getsN 98 (i := 2) rfl dX9_weighPlaces_95 lk769 rfl ?_
  refine ev_alenR 99 dX9_weighPlaces_98 (hG 2 _ rfl).1 rfl ?_
  refine ev_eqI (y := nI 3) (by rw [(hG 2 _ rfl).2]) ?_
  refine ev_icmp_geN 102 141 dX9_weighPlaces_99 (by decide) (by omega) (by omega) rfl (fun hx => absurd hx ((by omega))) (fun hbr => ?_)
  refine ev_iload_n 103 dX9_weighPlaces_102 rfl rfl ?_
  refine ev_iload 105 dX9_weighPlaces_103 rfl rfl ?_
  refine ev_iaddN 106 dX9_weighPlaces_105 rfl ?_
  refine ev_aload_n 107 dX9_weighPlaces_106 rfl rfl ?_
  refine ev_getI 110 mm_cl9 (j := 2) (Nat.le_of_ble_eq_true rfl) dX9_weighPlaces_107 lk245 (fun _ _ _ => rfl) (hV.1 17 _ rfl) rfl ?_
  refine ev_eqI (y := nI (sb)) (hs) ?_
  refine ev_icmp_geN 113 141 dX9_weighPlaces_110 (by decide) (by omega) (by omega) rfl (fun hx => absurd hx ((by omega))) (fun hbr => ?_)
  refine ev_iload_n 114 dX9_weighPlaces_113 rfl rfl ?_
  refine ev_getsN 117 (i := 2) rfl dX9_weighPlaces_114 lk769 rfl ?_
  refine ev_iload 119 dX9_weighPlaces_117 rfl rfl ?_
  refine ev_ialdR 120 _ dX9_weighPlaces_119 (hG 2 _ rfl).1 rfl (by have hNN := (hG 2 _ rfl).2; omega) rfl ?_
  refine ev_eqI (y := (sp_ph 0)) (s0) ?_
  refine ev_aload_n 121 dX9_weighPlaces_120 rfl rfl ?_
  refine ev_getP 124 mm_cl9 (j := 0) (Nat.le_of_ble_eq_true rfl) dX9_weighPlaces_121 lk242 (fun _ _ _ => rfl) (hV.1 17 _ rfl) (a := (x + 4)) (hV.2.2 20 _ _ _ rfl) rfl ?_
  refine ev_getP 127 mm_cl8 (j := 7) (Nat.le_of_ble_eq_true rfl) dX9_weighPlaces_124 lk151 (fun _ _ _ => rfl) (hV.1 4 _ rfl) (a := (x + 12)) (hV.2.2 15 _ _ _ rfl) rfl ?_
  refine ev_iload_n 128 dX9_weighPlaces_127 rfl rfl ?_
  refine ev_iload 130 dX9_weighPlaces_128 rfl rfl ?_
  refine ev_iaddN 131 dX9_weighPlaces_130 rfl ?_
  refine ev_iald 132 _ dX9_weighPlaces_131 (hV.1 12 _ rfl) rfl (by have hNN := hV.2.1 12 _ rfl; omega) rfl ?_
  refine ev_eqI (y := (U q)) ((by rw [Nat.add_zero]; exact hU q hq)) ?_
  refine ev_imul 133 dX9_weighPlaces_132 rfl ?_
  refine ev_iadd 134 dX9_weighPlaces_133 rfl ?_
  refine ev_istore_n 135 (lv' := [_, _, some (.int _), _, _]) dX9_weighPlaces_134 (Nat.le_of_ble_eq_true rfl) rfl rfl ?_
  refine ev_iincN 138 (lv' := [_, _, _, some (.int _), _]) 1 dX9_weighPlaces_135 rfl (Nat.le_of_ble_eq_true rfl) rfl rfl ?_
  refine ev_goto 93 dX9_weighPlaces_138 (by decide) ?_
  rw [nI_0, Int32.zero_add]
  refine ev_iload 95 dX9_weighPlaces_93 rfl rfl ?_
  refine ev_getsN 98 (i := 2) rfl dX9_weighPlaces_95 lk769 rfl ?_
  refine ev_alenR 99 dX9_weighPlaces_98 (hG 2 _ rfl).1 rfl ?_
  refine ev_eqI (y := nI 3) (by rw [(hG 2 _ rfl).2]) ?_
  refine ev_icmp_geN 102 141 dX9_weighPlaces_99 (by decide) (by omega) (by omega) rfl (fun hx => absurd hx ((by omega))) (fun hbr => ?_)
  refine ev_iload_n 103 dX9_weighPlaces_102 rfl rfl ?_
  refine ev_iload 105 dX9_weighPlaces_103 rfl rfl ?_
  refine ev_iaddN 106 dX9_weighPlaces_105 rfl ?_
  refine ev_aload_n 107 dX9_weighPlaces_106 rfl rfl ?_
  refine ev_getI 110 mm_cl9 (j := 2) (Nat.le_of_ble_eq_true rfl) dX9_weighPlaces_107 lk245 (fun _ _ _ => rfl) (hV.1 17 _ rfl) rfl ?_
  refine ev_eqI (y := nI (sb)) (hs) ?_
  refine ev_icmp_geN 113 141 dX9_weighPlaces_110 (by decide) (by omega) (by omega) rfl (fun c1 => ?_) (fun c1 => ?_)
  · rw [if_neg (by omega), if_neg (by omega), show Int32.ofInt 0 = 0 from rfl, Int32.add_zero, Int32.add_zero] at K
    refine ev_le (mle_s (mle_s (mle_s (mle_s (mle_n (mle_0)))))) ?_
    exact K
  · rw [if_pos (by omega), ← sp_hI.2.1] at K
    refine ev_iload_n 114 dX9_weighPlaces_113 rfl rfl ?_
    refine ev_getsN 117 (i := 2) rfl dX9_weighPlaces_114 lk769 rfl ?_
    refine ev_iload 119 dX9_weighPlaces_117 rfl rfl ?_
    refine ev_ialdR 120 _ dX9_weighPlaces_119 (hG 2 _ rfl).1 rfl (by have hNN := (hG 2 _ rfl).2; omega) rfl ?_
    refine ev_eqI (y := (sp_ph 1)) (s1) ?_
    refine ev_aload_n 121 dX9_weighPlaces_120 rfl rfl ?_
    refine ev_getP 124 mm_cl9 (j := 0) (Nat.le_of_ble_eq_true rfl) dX9_weighPlaces_121 lk242 (fun _ _ _ => rfl) (hV.1 17 _ rfl) (a := (x + 4)) (hV.2.2 20 _ _ _ rfl) rfl ?_
    refine ev_getP 127 mm_cl8 (j := 7) (Nat.le_of_ble_eq_true rfl) dX9_weighPlaces_124 lk151 (fun _ _ _ => rfl) (hV.1 4 _ rfl) (a := (x + 12)) (hV.2.2 15 _ _ _ rfl) rfl ?_
    refine ev_iload_n 128 dX9_weighPlaces_127 rfl rfl ?_
    refine ev_iload 130 dX9_weighPlaces_128 rfl rfl ?_
    refine ev_iaddN 131 dX9_weighPlaces_130 rfl ?_
    refine ev_iald 132 _ dX9_weighPlaces_131 (hV.1 12 _ rfl) rfl (by have hNN := hV.2.1 12 _ rfl; omega) rfl ?_
    refine ev_eqI (y := (U (q + 1))) ((hU (q + 1) (by omega))) ?_
    refine ev_imul 133 dX9_weighPlaces_132 rfl ?_
    refine ev_iadd 134 dX9_weighPlaces_133 rfl ?_
    refine ev_istore_n 135 (lv' := [_, _, some (.int _), _, _]) dX9_weighPlaces_134 (Nat.le_of_ble_eq_true rfl) rfl rfl ?_
    refine ev_iincN 138 (lv' := [_, _, _, some (.int _), _]) 1 dX9_weighPlaces_135 rfl (Nat.le_of_ble_eq_true rfl) rfl rfl ?_
    refine ev_goto 93 dX9_weighPlaces_138 (by decide) ?_
    refine ev_iload 95 dX9_weighPlaces_93 rfl rfl ?_
    refine ev_getsN 98 (i := 2) rfl dX9_weighPlaces_95 lk769 rfl ?_
    refine ev_alenR 99 dX9_weighPlaces_98 (hG 2 _ rfl).1 rfl ?_
    refine ev_eqI (y := nI 3) (by rw [(hG 2 _ rfl).2]) ?_
    refine ev_icmp_geN 102 141 dX9_weighPlaces_99 (by decide) (by omega) (by omega) rfl (fun hx => absurd hx ((by omega))) (fun hbr => ?_)
    refine ev_iload_n 103 dX9_weighPlaces_102 rfl rfl ?_
    refine ev_iload 105 dX9_weighPlaces_103 rfl rfl ?_
    refine ev_iaddN 106 dX9_weighPlaces_105 rfl ?_
    refine ev_aload_n 107 dX9_weighPlaces_106 rfl rfl ?_
    refine ev_getI 110 mm_cl9 (j := 2) (Nat.le_of_ble_eq_true rfl) dX9_weighPlaces_107 lk245 (fun _ _ _ => rfl) (hV.1 17 _ rfl) rfl ?_
    refine ev_eqI (y := nI (sb)) (hs) ?_
    refine ev_icmp_geN 113 141 dX9_weighPlaces_110 (by decide) (by omega) (by omega) rfl (fun c2 => ?_) (fun c2 => ?_)
    · rw [if_neg (by omega), show Int32.ofInt 0 = 0 from rfl, Int32.add_zero] at K
      refine ev_le (mle_s (mle_s (mle_s (mle_s (mle_n (mle_0)))))) ?_
      exact K
    · rw [if_pos (by omega), ← sp_hI.2.2] at K
      refine ev_iload_n 114 dX9_weighPlaces_113 rfl rfl ?_
      refine ev_getsN 117 (i := 2) rfl dX9_weighPlaces_114 lk769 rfl ?_
      refine ev_iload 119 dX9_weighPlaces_117 rfl rfl ?_
      refine ev_ialdR 120 _ dX9_weighPlaces_119 (hG 2 _ rfl).1 rfl (by have hNN := (hG 2 _ rfl).2; omega) rfl ?_
      refine ev_eqI (y := (sp_ph 2)) (s2) ?_
      refine ev_aload_n 121 dX9_weighPlaces_120 rfl rfl ?_
      refine ev_getP 124 mm_cl9 (j := 0) (Nat.le_of_ble_eq_true rfl) dX9_weighPlaces_121 lk242 (fun _ _ _ => rfl) (hV.1 17 _ rfl) (a := (x + 4)) (hV.2.2 20 _ _ _ rfl) rfl ?_
      refine ev_getP 127 mm_cl8 (j := 7) (Nat.le_of_ble_eq_true rfl) dX9_weighPlaces_124 lk151 (fun _ _ _ => rfl) (hV.1 4 _ rfl) (a := (x + 12)) (hV.2.2 15 _ _ _ rfl) rfl ?_
      refine ev_iload_n 128 dX9_weighPlaces_127 rfl rfl ?_
      refine ev_iload 130 dX9_weighPlaces_128 rfl rfl ?_
      refine ev_iaddN 131 dX9_weighPlaces_130 rfl ?_
      refine ev_iald 132 _ dX9_weighPlaces_131 (hV.1 12 _ rfl) rfl (by have hNN := hV.2.1 12 _ rfl; omega) rfl ?_
      refine ev_eqI (y := (U (q + 2))) ((hU (q + 2) (by omega))) ?_
      refine ev_imul 133 dX9_weighPlaces_132 rfl ?_
      refine ev_iadd 134 dX9_weighPlaces_133 rfl ?_
      refine ev_istore_n 135 (lv' := [_, _, some (.int _), _, _]) dX9_weighPlaces_134 (Nat.le_of_ble_eq_true rfl) rfl rfl ?_
      refine ev_iincN 138 (lv' := [_, _, _, some (.int _), _]) 1 dX9_weighPlaces_135 rfl (Nat.le_of_ble_eq_true rfl) rfl rfl ?_
      refine ev_goto 93 dX9_weighPlaces_138 (by decide) ?_
      refine ev_iload 95 dX9_weighPlaces_93 rfl rfl ?_
      refine ev_getsN 98 (i := 2) rfl dX9_weighPlaces_95 lk769 rfl ?_
      refine ev_alenR 99 dX9_weighPlaces_98 (hG 2 _ rfl).1 rfl ?_
      refine ev_eqI (y := nI 3) (by rw [(hG 2 _ rfl).2]) ?_
      refine ev_icmp_geN 102 141 dX9_weighPlaces_99 (by decide) (by omega) (by omega) rfl (fun hbr => ?_) (fun hx => absurd ((by omega)) hx)
      refine ev_le (mle_s (mle_s (mle_s (mle_s (mle_n (mle_0)))))) ?_
      exact K
theorem lp_X9_weigh3 {sb : Nat} {U : Nat → Int32} (hV : lyV B P x) (hG : ly_G g B) (hc : st_c g I) (hgx : ∀ i, i < 3 → g.2.2 i < x) (hb : sb ≤ 80) (hs : I (x + 17) 2 = nI sb) (hU : ∀ n, n < sb → I (x + 12) n = U n) : ∀ (d q : Nat), q + d = sb →
    Ev g mX9_weighPlaces 80 [some (.ref (x + 17)), some (.ref pt), some (.int (nI q)), none, none] [] B (va_up (va_up I (x + 13) (sgp (I (x + 13)) 0 q (fun n => Int32.ofInt (sp_hz U sb n)))) (x + 14) (sgp (I (x + 14)) 0 q (fun n => nI (sp_en sb n)))) J P
      (none, B, va_up (va_up I (x + 13) (sgp (I (x + 13)) 0 sb (fun n => Int32.ofInt (sp_hz U sb n)))) (x + 14) (sgp (I (x + 14)) 0 sb (fun n => nI (sp_en sb n))), J, P) := by
  intro d
  induction d with
  | zero =>
    intro q hq
    obtain rfl : q = sb := by omega
    refine ev_iload_n 81 dX9_weighPlaces_80 rfl rfl ?_
    refine ev_aload_n 82 dX9_weighPlaces_81 rfl rfl ?_
    refine ev_getI 85 mm_cl9 (j := 2) (Nat.le_of_ble_eq_true rfl) dX9_weighPlaces_82 lk245 (fun _ _ _ => rfl) (hV.1 17 _ rfl) rfl ?_
    refine ev_eqI (y := nI (q)) ((by rw [va_up_n _ _ (by omega), va_up_n _ _ (by omega)]; exact hs)) ?_
    refine ev_icmp_geN 88 172 dX9_weighPlaces_85 (by decide) (by omega) (by omega) rfl (fun hbr => ?_) (fun hx => absurd ((by omega)) hx)
    exact ev_vret dX9_weighPlaces_172 rfl (rfl)
  | succ d ih =>
    intro q hq
    have e3 := ih (q + 1) (by omega)
    rw [← sg0_grow (f := I (x + 13)) (n := q) (v := fun n => Int32.ofInt (sp_hz U sb n)) rfl, ← sg0_grow (f := I (x + 14)) (n := q) (v := fun n => nI (sp_en sb n)) rfl] at e3
    refine ev_iload_n 81 dX9_weighPlaces_80 rfl rfl ?_
    refine ev_aload_n 82 dX9_weighPlaces_81 rfl rfl ?_
    refine ev_getI 85 mm_cl9 (j := 2) (Nat.le_of_ble_eq_true rfl) dX9_weighPlaces_82 lk245 (fun _ _ _ => rfl) (hV.1 17 _ rfl) rfl ?_
    refine ev_eqI (y := nI (sb)) ((by rw [va_up_n _ _ (by omega), va_up_n _ _ (by omega)]; exact hs)) ?_
    refine ev_icmp_geN 88 172 dX9_weighPlaces_85 (by decide) (by omega) (by omega) rfl (fun hx => absurd hx ((by omega))) (fun hbr => ?_)
    refine ev_iconstN 89 0 dX9_weighPlaces_88 rfl ?_
    refine ev_istore_n 90 (lv' := [_, _, some (.int _), _, _]) dX9_weighPlaces_89 (Nat.le_of_ble_eq_true rfl) rfl rfl ?_
    refine ev_iconstN 91 0 dX9_weighPlaces_90 rfl ?_
    refine ev_istore 93 (lv' := [_, _, _, some (.int _), _]) dX9_weighPlaces_91 (Nat.le_of_ble_eq_true rfl) rfl rfl ?_
    refine lp_X9_weigh2 (sb := sb) (U := U) hV hG (st_c2 hc hgx (by omega) (by omega)) hb (by rw [va_up_n _ _ (by omega), va_up_n _ _ (by omega)]; exact hs) (by omega) (fun n hn => by rw [va_up_n _ _ (by omega), va_up_n _ _ (by omega)]; exact hU n hn) ?_
    refine ev_aload_n 142 dX9_weighPlaces_141 rfl rfl ?_
    refine ev_getP 145 mm_cl9 (j := 0) (Nat.le_of_ble_eq_true rfl) dX9_weighPlaces_142 lk242 (fun _ _ _ => rfl) (hV.1 17 _ rfl) (a := (x + 4)) (hV.2.2 20 _ _ _ rfl) rfl ?_
    refine ev_getP 148 mm_cl8 (j := 8) (Nat.le_of_ble_eq_true rfl) dX9_weighPlaces_145 lk153 (fun _ _ _ => rfl) (hV.1 4 _ rfl) (a := (x + 13)) (hV.2.2 16 _ _ _ rfl) rfl ?_
    refine ev_iload_n 149 dX9_weighPlaces_148 rfl rfl ?_
    refine ev_iload_n 150 dX9_weighPlaces_149 rfl rfl ?_
    refine ev_iast 151 _ dX9_weighPlaces_150 (hV.1 13 _ rfl) rfl (by have hNN := hV.2.1 13 _ rfl; omega) rfl ?_
    refine ev_aload_n 152 dX9_weighPlaces_151 rfl rfl ?_
    refine ev_getP 155 mm_cl9 (j := 0) (Nat.le_of_ble_eq_true rfl) dX9_weighPlaces_152 lk242 (fun _ _ _ => rfl) (hV.1 17 _ rfl) (a := (x + 4)) (hV.2.2 20 _ _ _ rfl) rfl ?_
    refine ev_getP 158 mm_cl8 (j := 9) (Nat.le_of_ble_eq_true rfl) dX9_weighPlaces_155 lk155 (fun _ _ _ => rfl) (hV.1 4 _ rfl) (a := (x + 14)) (hV.2.2 17 _ _ _ rfl) rfl ?_
    refine ev_iload_n 159 dX9_weighPlaces_158 rfl rfl ?_
    refine ev_aload_n 160 dX9_weighPlaces_159 rfl rfl ?_
    refine ev_iload_n 161 dX9_weighPlaces_160 rfl rfl ?_
    refine ev_iload_n 162 dX9_weighPlaces_161 rfl rfl ?_
    rw [va_3 I (a := x + 13) (b := x + 14) _ _ _ (by omega), va_up_n _ _ (show x + 13 ≠ x + 14 by omega), va_up_s]
    refine ev_invV 165 (Mc := mX9_overlap) ⟨lk774, lk78, hdX9_overlap, (Nat.le_of_ble_eq_true rfl), (Nat.le_of_ble_eq_true rfl)⟩ lk771 lk773 lk13 mm_cl9 rfl dX9_weighPlaces_162 (ct_X9_overlap0 (sb := sb) hV hG (st_c2 hc hgx (by omega) (by omega)) (by rw [va_up_n _ _ (by omega), va_up_n _ _ (by omega)]; exact hs) hb (by omega)) rfl (hV.1 17 _ rfl) (Nat.le_of_ble_eq_true rfl) rfl rfl ?_
    refine ev_iast 166 _ dX9_weighPlaces_165 (hV.1 14 _ rfl) rfl (by have hNN := hV.2.1 14 _ rfl; omega) rfl ?_
    refine ev_iincN 169 (lv' := [_, some (.ref _), _, _, _]) 1 dX9_weighPlaces_166 rfl (Nat.le_of_ble_eq_true rfl) rfl rfl ?_
    refine ev_goto 80 dX9_weighPlaces_169 (by decide) ?_
    rw [va_up_s, bx_uu]
    refine ev_le (mle_s (mle_s (mle_s (mle_n (mle_n (mle_0)))))) ?_
    exact e3
theorem cx_X9_weighPlaces {sb L : Nat} {p : Int32} {H R : Nat → Int32} (hV : lyV B P x) (hG : ly_G g B) (hc : st_c g I) (hgx : ∀ i, i < 3 → g.2.2 i < x) (tp : mm_T B pt = 107) (hpt : pt ≠ x + 7 ∧ pt ≠ x + 12) (hb : sb ≤ 80) (hs : I (x + 17) 2 = nI sb) (hp : I pt 1 = p) (hL0 : I pt 0 = nI L) (hL : 20 ≤ L) (hL2 : L ≤ 147) (hH : ∀ n, n < 160 → I (x + 10) n = H n) (hR : ∀ n, n < sb → I (x + 11) n = R n) :
    ∃ I' : mm_TI, Ct g mX9_weighPlaces [.ref (x + 17), .ref pt] B I J P (none, B, I', J, P) ∧ (∀ n, n < sb → I' (x + 13) n = Int32.ofInt (sp_hz (sp_U H R L p) sb n)) ∧ (∀ n, n < sb → I' (x + 14) n = nI (sp_en sb n)) ∧ (∀ q, q ≠ x + 7 → q ≠ x + 12 → q ≠ x + 13 → q ≠ x + 14 → I' q = I q) := by
  have g0 := hgx 0 (by decide)
  have g1 := hgx 1 (by decide)
  have g2 := hgx 2 (by decide)
  have n160 := hV.2.1 10 _ rfl
  have n7 := hV.2.1 7 _ rfl
  generalize hI1 : va_up I (x + 7) (sgp (I (x + 7)) 0 sb (sp_beh (I (x + 10)) L)) = I1
  have a1 : ∀ q, q ≠ x + 7 → I1 q = I q := fun q h => by rw [← hI1, va_up_n _ _ h]
  have c1 : st_c g I1 := by rw [← hI1]; exact st_c_up hc (by omega) (by omega) (by omega)
  generalize hI2 : va_up I1 (x + 12) (sgp (I1 (x + 12)) 0 sb (sp_U H R L p)) = I2
  have a2 : ∀ q, q ≠ x + 7 → q ≠ x + 12 → I2 q = I q := fun q h h' => by rw [← hI2, va_up_n _ _ h']; exact a1 q h
  have c2 : st_c g I2 := by rw [← hI2]; exact st_c_up c1 (by omega) (by omega) (by omega)
  have e3 := lp_X9_weigh3 (g := g) (I := I2) (J := J) (pt := pt) (U := sp_U H R L p) hV hG c2 hgx hb (by rw [a2 _ (by omega) (by omega)]; exact hs) (fun n hn => by rw [← hI2, va_up_s]; exact sg0_in hn) sb 0 (by omega)
  rw [sgp_0, va_up_id, sgp_0, va_up_id] at e3
  refine ⟨va_up (va_up I2 (x + 13) (sgp (I2 (x + 13)) 0 sb (fun n => Int32.ofInt (sp_hz (sp_U H R L p) sb n)))) (x + 14) (sgp (I2 (x + 14)) 0 sb (fun n => nI (sp_en sb n))), ?_, fun n hn => ?_, fun n hn => ?_, fun q h1 h2 h3 h4 => ?_⟩
  · refine ct_of (lv := [some (.ref (x + 17)), some (.ref pt), none, none, none]) (by decide +kernel) (Nat.le_of_ble_eq_true rfl) rfl ?_
    refine ev_aload_n 1 dX9_weighPlaces_0 rfl rfl ?_
    refine ev_getP 4 mm_cl9 (j := 0) (Nat.le_of_ble_eq_true rfl) dX9_weighPlaces_1 lk242 (fun _ _ _ => rfl) (hV.1 17 _ rfl) (a := (x + 4)) (hV.2.2 20 _ _ _ rfl) rfl ?_
    refine ev_getP 7 mm_cl8 (j := 5) (Nat.le_of_ble_eq_true rfl) dX9_weighPlaces_4 lk147 (fun _ _ _ => rfl) (hV.1 4 _ rfl) (a := (x + 10)) (hV.2.2 13 _ _ _ rfl) rfl ?_
    refine ev_aload_n 8 dX9_weighPlaces_7 rfl rfl ?_
    refine ev_getI 11 mm_cl7 (j := 0) (Nat.le_of_ble_eq_true rfl) dX9_weighPlaces_8 lk201 (fun _ _ _ => rfl) tp rfl ?_
    refine ev_eqI (y := nI (L)) (hL0) ?_
    refine ev_aload_n 12 dX9_weighPlaces_11 rfl rfl ?_
    refine ev_getP 15 mm_cl9 (j := 0) (Nat.le_of_ble_eq_true rfl) dX9_weighPlaces_12 lk242 (fun _ _ _ => rfl) (hV.1 17 _ rfl) (a := (x + 4)) (hV.2.2 20 _ _ _ rfl) rfl ?_
    refine ev_getP 18 mm_cl8 (j := 2) (Nat.le_of_ble_eq_true rfl) dX9_weighPlaces_15 lk140 (fun _ _ _ => rfl) (hV.1 4 _ rfl) (a := (x + 7)) (hV.2.2 10 _ _ _ rfl) rfl ?_
    refine ev_aload_n 19 dX9_weighPlaces_18 rfl rfl ?_
    refine ev_getI 22 mm_cl9 (j := 2) (Nat.le_of_ble_eq_true rfl) dX9_weighPlaces_19 lk245 (fun _ _ _ => rfl) (hV.1 17 _ rfl) rfl ?_
    refine ev_eqI (y := nI (sb)) (hs) ?_
    refine ev_invSNv 25 (Mc := mX11_lookBehind) ⟨lk756, lk75, hdX11_lookBehind, (Nat.le_of_ble_eq_true rfl), (Nat.le_of_ble_eq_true rfl)⟩ lk754 lk755 dX9_weighPlaces_22 (ct_X11_lookBehind (qh := x + 10) (qa := x + 7) (by omega) (hV.1 10 _ rfl) (hV.1 7 _ rfl) (by omega) (by omega) hb hL hL2) rfl (Nat.le_of_ble_eq_true rfl) rfl rfl ?_
    rw [hI1]
    refine ev_iconstN 26 0 dX9_weighPlaces_25 rfl ?_
    refine ev_istore_n 27 (lv' := [_, some (.ref _), _, _, _]) dX9_weighPlaces_26 (Nat.le_of_ble_eq_true rfl) rfl rfl ?_
    have e1 := lp_X9_weigh1 (g := g) (I := I1) (J := J) (pt := pt) (sb := sb) (p := p) (A := sp_beh H L) (R := R) (U := sp_U H R L p) (Z := (none, B, va_up (va_up I2 (x + 13) (sgp (I2 (x + 13)) 0 sb (fun n => Int32.ofInt (sp_hz (sp_U H R L p) sb n)))) (x + 14) (sgp (I2 (x + 14)) 0 sb (fun n => nI (sp_en sb n))), J, P)) hV tp hpt.2 hb (by rw [a1 _ (by omega)]; exact hs) (by rw [a1 _ hpt.1]; exact hp)
      (fun n hn => by
        rw [← hI1, va_up_s, sg0_in hn]
        have hm : n % L < L := Nat.mod_lt _ (by omega)
        exact hH _ (by omega)) (fun n hn => by rw [a1 _ (by omega)]; exact hR n hn) (fun n hn => rfl) ?_ sb 0 (by omega)
    · rw [sgp_0, va_up_id] at e1
      exact e1
    rw [hI2]
    refine ev_iconstN 79 0 dX9_weighPlaces_78 rfl ?_
    refine ev_istore_n 80 (lv' := [_, some (.ref _), _, _, _]) dX9_weighPlaces_79 (Nat.le_of_ble_eq_true rfl) rfl rfl ?_
    exact e3
  · rw [va_up_n _ _ (by omega), va_up_s]; exact sg0_in hn
  · rw [va_up_s]; exact sg0_in hn
  · rw [va_up_n _ _ h4, va_up_n _ _ h3]; exact a2 q h1 h2
theorem cx_X9_findPulses {sb L w : Nat} {p : Int32} {H R : Nat → Int32} {z : Int} {j a b c d : Nat} (hV : lyV B P x) (hG : ly_G g B) (hc : st_c g I) (hgx : ∀ i, i < 3 → g.2.2 i < x) (tp : mm_T B pt = 107) (hpt : x ≤ pt ∧ pt ≠ x + 7 ∧ pt ≠ x + 12 ∧ pt ≠ x + 13 ∧ pt ≠ x + 14 ∧ pt ≠ x + 17) (hb : sb ≤ 80) (hb2 : sb % 2 = 0) (hb3 : 2 ≤ sb) (hs : I (x + 17) 2 = nI sb) (hp : I pt 1 = p) (hL0 : I pt 0 = nI L) (hL : 20 ≤ L) (hL2 : L ≤ 147) (hH : ∀ n, n < 160 → I (x + 10) n = H n) (hR : ∀ n, n < sb → I (x + 11) n = R n) (hw : w ≤ 1)
    (hzb : sp_zb (sp_hz (sp_U H R L p) sb)) (hres : sp_pul sb (sp_hz (sp_U H R L p) sb) (w = 1) = (some (z, j), some (a, b), some (c, d))) :
    ∃ (I' : mm_TI) (J' : mm_TJ), Ct g mX9_findPulses [.ref (x + 17), .int (nI w), .ref pt] B I J P (none, B, I', J', P) ∧
      I' pt = va_up (va_up (va_up (va_up (va_up (I pt) 2 (nI c)) 3 (nI d)) 4 (nI a)) 5 (nI b)) 6 (nI j) ∧ J' pt = va_up (J pt) 8 (Int64.ofInt z) ∧ I' (x + 17) 2 = nI sb ∧
      (∀ q, q ≠ pt → q ≠ x + 7 → q ≠ x + 12 → q ≠ x + 13 → q ≠ x + 14 → q ≠ x + 17 → I' q = I q) ∧ (∀ q, q ≠ pt → q ≠ x + 17 → J' q = J q) := by
  obtain ⟨px, p7, p12, p13, p14, p17⟩ := hpt
  have g0 := hgx 0 (by decide)
  have g1 := hgx 1 (by decide)
  have g2 := hgx 2 (by decide)
  obtain ⟨I1, c1, r13, r14, ro⟩ := cx_X9_weighPlaces (g := g) (J := J) hV hG hc hgx tp ⟨p7, p12⟩ hb hs hp hL0 hL hL2 hH hR
  generalize hhz : sp_hz (sp_U H R L p) sb = hz at hzb hres r13
  have sc : st_c g I1 := by
    unfold st_c
    rw [ro _ (by omega) (by omega) (by omega) (by omega), ro _ (by omega) (by omega) (by omega) (by omega), ro _ (by omega) (by omega) (by omega) (by omega)]
    exact hc
  have hS1 : I1 (x + 17) 2 = nI sb := by rw [ro _ (by omega) (by omega) (by omega) (by omega)]; exact hs
  have hP1 : I1 pt = I pt := ro _ p7 p12 p13 p14
  have uI : va_up (va_up I1 pt (I pt)) (x + 17) (I1 (x + 17)) = I1 := by
    rw [← hP1, va_up_id, va_up_id]
  have uJ : va_up J (x + 17) (J (x + 17)) = J := va_up_id _ _
  -- what both ways leave
  have fin : ∀ (M : Nat → Int32), (cF M (some (z, j)) = va_up M 4 (nI j)) := fun M => rfl
  have last : ∀ (M : Nat → Int32) (Q : Nat → Int64), M 2 = nI sb → ∃ (I' : mm_TI) (J' : mm_TJ),
      (Ev g mX9_findPulses 43 [some (.ref (x + 17)), some (.int (nI w)), some (.ref pt)] [] B (va_up (va_up I1 pt (va_up (va_up (va_up (va_up (I pt) 2 (nI c)) 3 (nI d)) 4 (nI a)) 5 (nI b))) (x + 17) (va_up M 4 (nI j))) (va_up J (x + 17) (va_up Q 3 (Int64.ofInt z))) P (none, B, I', J', P)) ∧
      I' pt = va_up (va_up (va_up (va_up (va_up (I pt) 2 (nI c)) 3 (nI d)) 4 (nI a)) 5 (nI b)) 6 (nI j) ∧ J' pt = va_up (J pt) 8 (Int64.ofInt z) ∧ I' (x + 17) 2 = nI sb ∧
      (∀ q, q ≠ pt → q ≠ x + 7 → q ≠ x + 12 → q ≠ x + 13 → q ≠ x + 14 → q ≠ x + 17 → I' q = I q) ∧ (∀ q, q ≠ pt → q ≠ x + 17 → J' q = J q) := by
    intro M Q hM2
    refine ⟨va_up (va_up I1 pt (va_up (va_up (va_up (va_up (va_up (I pt) 2 (nI c)) 3 (nI d)) 4 (nI a)) 5 (nI b)) 6 (nI j))) (x + 17) (va_up M 4 (nI j)), va_up (va_up J (x + 17) (va_up Q 3 (Int64.ofInt z))) pt (va_up (J pt) 8 (Int64.ofInt z)), ?_, ?_, ?_, ?_, ?_, ?_⟩
    · refine ev_aload_n 44 dX9_findPulses_43 rfl rfl ?_
      refine ev_aload_n 45 dX9_findPulses_44 rfl rfl ?_
      refine ev_getJ 48 mm_cl9 (j := 3) (Nat.le_of_ble_eq_true rfl) dX9_findPulses_45 lk246 (fun _ _ _ => rfl) (hV.1 17 _ rfl) rfl ?_
      refine ev_eqJ (y := (Int64.ofInt z)) ((by rw [va_up_s, va_up_s])) ?_
      refine ev_putJ 51 mm_cl7 (j := 8) (Nat.le_of_ble_eq_true rfl) dX9_findPulses_48 lk222 rfl (fun _ _ _ => rfl) rfl rfl tp rfl ?_
      refine ev_aload_n 52 dX9_findPulses_51 rfl rfl ?_
      refine ev_aload_n 53 dX9_findPulses_52 rfl rfl ?_
      refine ev_getI 56 mm_cl9 (j := 4) (Nat.le_of_ble_eq_true rfl) dX9_findPulses_53 lk247 (fun _ _ _ => rfl) (hV.1 17 _ rfl) rfl ?_
      refine ev_eqI (y := (nI j)) ((by rw [va_up_s, va_up_s])) ?_
      refine ev_putI 59 mm_cl7 (j := 6) (Nat.le_of_ble_eq_true rfl) dX9_findPulses_56 lk218 rfl (fun _ _ _ => rfl) rfl rfl tp rfl ?_
      rw [va_up_n _ _ p17, va_up_n _ _ p17, va_up_s, va_3 I1 (a := pt) (b := x + 17) _ _ _ p17]
      exact ev_vret dX9_findPulses_59 rfl (rfl)
    · rw [va_up_n _ _ p17, va_up_s]
    · rw [va_up_s]
    · rw [va_up_s, va_up_n _ _ (by omega)]; exact hM2
    · intro q h1 h2 h3 h4 h5 h6
      rw [va_up_n _ _ h6, va_up_n _ _ h1]; exact ro q h2 h3 h4 h5
    · intro q h1 h2
      rw [va_up_n _ _ h1, va_up_n _ _ h2]
  unfold sp_pul at hres
  by_cases hww : w = 1
  · rw [if_pos hww] at hres
    subst hww
    have c2 := ct_X9_findPair (g := g) (I := I1) (J := J) (P := P) (FS := I1 (x + 17)) (FP := I pt) (Q := J (x + 17)) hV hG sc hgx tp ⟨px, p13, p14, p17⟩ hb hb2 hzb r13 r14 hS1
    rw [hres, uI, uJ] at c2
    obtain ⟨I', J', e, f1, f2, f3, f4, f5⟩ := last (I1 (x + 17)) (J (x + 17)) hS1
    refine ⟨I', J', ?_, f1, f2, f3, f4, f5⟩
    refine ct_of (lv := [some (.ref (x + 17)), some (.int (nI 1)), some (.ref pt)]) (by decide +kernel) (Nat.le_of_ble_eq_true rfl) rfl ?_
    refine ev_aload_n 1 dX9_findPulses_0 rfl rfl ?_
    refine ev_aload_n 2 dX9_findPulses_1 rfl rfl ?_
    refine ev_invVv 5 (Mc := mX9_weighPlaces) ⟨lk768, lk78, hdX9_weighPlaces, (Nat.le_of_ble_eq_true rfl), (Nat.le_of_ble_eq_true rfl)⟩ lk765 lk767 lk12 mm_cl9 rfl dX9_findPulses_2 (c1) rfl (hV.1 17 _ rfl) (Nat.le_of_ble_eq_true rfl) rfl rfl ?_
    refine ev_iload_n 6 dX9_findPulses_5 rfl rfl ?_
    refine ev_if_eqN 9 17 dX9_findPulses_6 (by decide) (by omega) rfl (fun hx => absurd hx ((by omega))) (fun hbr => ?_)
    refine ev_aload_n 10 dX9_findPulses_9 rfl rfl ?_
    refine ev_aload_n 11 dX9_findPulses_10 rfl rfl ?_
    refine ev_invVv 14 (Mc := mX9_findPair) ⟨lk778, lk78, hdX9_findPair, (Nat.le_of_ble_eq_true rfl), (Nat.le_of_ble_eq_true rfl)⟩ lk775 lk777 lk14 mm_cl9 rfl dX9_findPulses_11 (c2) rfl (hV.1 17 _ rfl) (Nat.le_of_ble_eq_true rfl) rfl rfl ?_
    refine ev_goto 43 dX9_findPulses_14 (by decide) ?_
    exact e
  · rw [if_neg hww] at hres
    obtain rfl : w = 0 := by omega
    obtain ⟨v1, v2, v3, v4⟩ := sp_ev_e (sb := sb) (hz := hz) hb3
    have c2 := ct_X9_findEven (g := g) (I := I1) (J := J) (P := P) (FS := I1 (x + 17)) (FP := I pt) (Q := J (x + 17)) hV hG sc hgx tp ⟨px, p13, p14, p17⟩ hb hb2 hzb r13 r14 hS1
    rw [uI, uJ] at c2
    generalize hEv : sp_es sb hz (none, none) (sb / 2) = E at hres v1 v2 v3 v4 c2
    have hE2 : E.2 = some (c, d) := by
      have := congrArg (fun t => t.2.2) hres
      exact this
    rw [hE2] at hres v1 v2 v3 v4 c2
    have v2' : c < sb := v2
    have v3' : c % 2 = 0 := v3
    have v4' : d ≤ 1 := v4
    rw [show sp_ev (some (c, d)) = (c, d) from rfl] at hres
    have c3 := ct_X9_findOdd (g := g) (I := I1) (J := J) (P := P) (FS := cF (I1 (x + 17)) E.1) (FP := eF (I pt) (some (c, d))) (Q := va_up (J (x + 17)) 3 (Int64.ofInt (cZ E.1))) (q := c) (sg := d) (t := (none, none)) hV hG sc hgx tp ⟨px, p13, p14, p17⟩ hb hb2 v2' v3' v4' hzb r13 r14 trivial (by rw [cF_2]; exact hS1)
    have r1 : (sp_os sb hz c d (none, none) (sb / 2)).1 = some (z, j) := congrArg (fun t => t.1) hres
    have r2 : (sp_os sb hz c d (none, none) (sb / 2)).2 = some (a, b) := congrArg (fun t => t.2.1) hres
    rw [r1, r2] at c3
    obtain ⟨I', J', e, f1, f2, f3, f4, f5⟩ := last (cF (I1 (x + 17)) E.1) (va_up (J (x + 17)) 3 (Int64.ofInt (cZ E.1))) (by rw [cF_2]; exact hS1)
    refine ⟨I', J', ?_, f1, f2, f3, f4, f5⟩
    have rp : ∀ k : Nat, va_up (va_up I1 pt (eF (I pt) (some (c, d)))) (x + 17) (cF (I1 (x + 17)) E.1) pt k = va_up (va_up (I pt) 2 (nI c)) 3 (nI d) k := fun k => by rw [va_up_n _ _ p17, va_up_s]; rfl
    refine ct_of (lv := [some (.ref (x + 17)), some (.int (nI 0)), some (.ref pt)]) (by decide +kernel) (Nat.le_of_ble_eq_true rfl) rfl ?_
    refine ev_aload_n 1 dX9_findPulses_0 rfl rfl ?_
    refine ev_aload_n 2 dX9_findPulses_1 rfl rfl ?_
    refine ev_invVv 5 (Mc := mX9_weighPlaces) ⟨lk768, lk78, hdX9_weighPlaces, (Nat.le_of_ble_eq_true rfl), (Nat.le_of_ble_eq_true rfl)⟩ lk765 lk767 lk12 mm_cl9 rfl dX9_findPulses_2 (c1) rfl (hV.1 17 _ rfl) (Nat.le_of_ble_eq_true rfl) rfl rfl ?_
    refine ev_iload_n 6 dX9_findPulses_5 rfl rfl ?_
    refine ev_if_eqN 9 17 dX9_findPulses_6 (by decide) (by omega) rfl (fun hbr => ?_) (fun hx => absurd (rfl) hx)
    refine ev_aload_n 18 dX9_findPulses_17 rfl rfl ?_
    refine ev_aload_n 19 dX9_findPulses_18 rfl rfl ?_
    refine ev_invVv 22 (Mc := mX9_findEven) ⟨lk798, lk78, hdX9_findEven, (Nat.le_of_ble_eq_true rfl), (Nat.le_of_ble_eq_true rfl)⟩ lk795 lk797 lk17 mm_cl9 rfl dX9_findPulses_19 (c2) rfl (hV.1 17 _ rfl) (Nat.le_of_ble_eq_true rfl) rfl rfl ?_
    refine ev_aload_n 23 dX9_findPulses_22 rfl rfl ?_
    refine ev_ldc2 26 dX9_findPulses_23 lk779 rfl ?_
    refine ev_putJ 29 mm_cl9 (j := 3) (Nat.le_of_ble_eq_true rfl) dX9_findPulses_26 lk246 rfl (fun _ _ _ => rfl) rfl rfl (hV.1 17 _ rfl) rfl ?_
    refine ev_aload_n 30 dX9_findPulses_29 rfl rfl ?_
    refine ev_aload_n 31 dX9_findPulses_30 rfl rfl ?_
    refine ev_getI 34 mm_cl7 (j := 2) (Nat.le_of_ble_eq_true rfl) dX9_findPulses_31 lk208 (fun _ _ _ => rfl) tp rfl ?_
    refine ev_eqI (y := nI (c)) ((by rw [rp, va_up_n _ _ (by omega), va_up_s])) ?_
    refine ev_aload_n 35 dX9_findPulses_34 rfl rfl ?_
    refine ev_getI 38 mm_cl7 (j := 3) (Nat.le_of_ble_eq_true rfl) dX9_findPulses_35 lk210 (fun _ _ _ => rfl) tp rfl ?_
    refine ev_eqI (y := nI (d)) ((by rw [rp, va_up_s])) ?_
    refine ev_aload_n 39 dX9_findPulses_38 rfl rfl ?_
    rw [va_up_s, bx_uu]
    refine ev_invV 42 (Mc := mX9_findOdd) ⟨lk783, lk78, hdX9_findOdd, (Nat.le_of_ble_eq_true rfl), (Nat.le_of_ble_eq_true rfl)⟩ lk780 lk782 lk15 mm_cl9 rfl dX9_findPulses_39 (c3) rfl (hV.1 17 _ rfl) (Nat.le_of_ble_eq_true rfl) rfl rfl ?_
    refine ev_pop 43 dX9_findPulses_42 rfl rfl ?_
    exact e
end VHW
