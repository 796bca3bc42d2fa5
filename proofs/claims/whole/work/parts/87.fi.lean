/-! filters -/
theorem sp_up_v {J : mm_TJ} {q j a : Nat} {s : Int64} {v : Nat → Int64} (h : a ≠ q) : sp_up (va_up J a v) q j s = va_up (sp_up J q j s) a v := by
  unfold sp_up
  rw [va_up_n _ _ (fun e => h e.symm), va_comm _ _ _ h]
/-- NOISE -/
def nzw (z : Nat) (st : Int32) (Y : Nat → Int32) (n : Nat) : Int64 := (Y n + ((sp_dt (sp_dz z (n + 1)) * st) >>> (nI 8 &&& 31))).toInt64
def nzY (z : Nat) (st : Int32) (Y : Nat → Int32) : Nat → Int32 := fun n => sp_S (nzw z st Y n)
def nzT (z : Nat) (st : Int32) (Y : Nat → Int32) : Nat → Int64
  | 0 => 0
  | n + 1 => nzT z st Y n + sp_t (nzw z st Y n)
/-- TILT -/
def tlw (c0 : Int32) (Y : Nat → Int32) (n : Nat) : Int64 := (Y n).toInt64 - sp_half (if n = 0 then c0 else Y (n - 1)).toInt64 8192
def tlY (c0 : Int32) (Y : Nat → Int32) : Nat → Int32 := fun n => sp_S (tlw c0 Y n)
def tlT (c0 : Int32) (Y : Nat → Int32) : Nat → Int64
  | 0 => 0
  | n + 1 => tlT c0 Y n + sp_t (tlw c0 Y n)
/-- EMPH -/
def emG (g0 : Int32) (Y : Nat → Int32) : Nat → Int32
  | 0 => g0
  | n + 1 => sp_S ((Y n).toInt64 + sp_half (emG g0 Y n).toInt64 22282)
def emT (g0 : Int32) (Y : Nat → Int32) : Nat → Int64
  | 0 => 0
  | n + 1 => emT g0 Y n + sp_t ((Y n).toInt64 + sp_half (emG g0 Y n).toInt64 22282)
/-- COMB -/
def cmw (T K C : Nat → Int32) (lag n : Nat) : Int64 := (T n).toInt64 + sp_half (if n < lag then K (160 + n - lag) else C (n - lag)).toInt64 6554
def cmY (T K : Nat → Int32) (lag : Nat) : Nat → Nat → Int32
  | 0 => T
  | n + 1 => va_up (cmY T K lag n) n (sp_S (cmw T K (cmY T K lag n) lag n))
def cmT (T K : Nat → Int32) (lag : Nat) : Nat → Int64
  | 0 => 0
  | n + 1 => cmT T K lag n + sp_t (cmw T K (cmY T K lag n) lag n)
theorem cmY_o {T K : Nat → Int32} {lag : Nat} : ∀ n j, n ≤ j → cmY T K lag n j = T j := by
  intro n
  induction n with
  | zero => intro j _; rfl
  | succ n ih =>
    intro j hj
    show va_up (cmY T K lag n) n _ j = T j
    rw [va_up_n _ _ (by omega)]; exact ih j (by omega)
theorem cmY_s {T K : Nat → Int32} {lag : Nat} : ∀ n j, j < n → cmY T K lag n j = cmY T K lag (j + 1) j := by
  intro n
  induction n with
  | zero => intro j hj; omega
  | succ n ih =>
    intro j hj
    by_cases c : j = n
    · subst c; rfl
    · show va_up (cmY T K lag n) n _ j = _
      rw [va_up_n _ _ c]; exact ih j (by omega)
section VFI
variable {g : mm_G} {B : mm_B} {I : mm_TI} {J : mm_TJ} {P : mm_TP} {x a : Nat}
theorem lp_X3_noise {N z : Nat} {st : Int32} {Y : Nat → Int32} (hV : lyV B P x) (ta : mm_T B a = 103) (ha : x + 22 ≤ a) (hz : z < 2 ^ 31) (hN : N ≤ 320) (hY : I (x + 6) = Y) : ∀ (d n : Nat), n + d = N →
    Ev g mX3_addNoise 3 [some (.ref a), some (.ref (x + 6)), some (.int (nI N)), some (.int st), some (.ref (x + 1)), some (.int (nI n))] [] B (va_up I (x + 6) (sgp Y 0 n (nzY z st Y))) (va_up (sp_up J (x + 1) 3 (nzT z st Y n)) a (va_up (J a) 2 (lN (sp_dz z n)))) P
      (none, B, va_up I (x + 6) (sgp Y 0 N (nzY z st Y)), va_up (sp_up J (x + 1) 3 (nzT z st Y N)) a (va_up (J a) 2 (lN (sp_dz z N))), P) := by
  intro d
  induction d with
  | zero =>
    intro n hn
    obtain rfl : n = N := by omega
    refine ev_iload 5 dX3_addNoise_3 rfl rfl ?_
    refine ev_iload_n 6 dX3_addNoise_5 rfl rfl ?_
    refine ev_icmp_geN 9 53 dX3_addNoise_6 (by decide) (by omega) (by omega) rfl (fun hbr => ?_) (fun hx => absurd ((by omega)) hx)
    exact ev_vret dX3_addNoise_53 rfl (rfl)
  | succ d ih =>
    intro n hn
    have e := ih (n + 1) (by omega)
    rw [← sg0_grow (w := nzY z st Y n) rfl, show nzT z st Y (n + 1) = nzT z st Y n + sp_t (nzw z st Y n) from rfl, show sp_dz z (n + 1) = sp_dn (sp_dz z n) from rfl, ← sp_up_up] at e
    have hax : a ≠ x + 1 := by omega
    refine ev_iload 5 dX3_addNoise_3 rfl rfl ?_
    refine ev_iload_n 6 dX3_addNoise_5 rfl rfl ?_
    refine ev_icmp_geN 9 53 dX3_addNoise_6 (by decide) (by omega) (by omega) rfl (fun hx => absurd hx ((by omega))) (fun hbr => ?_)
    refine ev_aload_n 10 dX3_addNoise_9 rfl rfl ?_
    refine ev_aload_n 11 dX3_addNoise_10 rfl rfl ?_
    refine ev_getJ 14 mm_cl3 (j := 2) (Nat.le_of_ble_eq_true rfl) dX3_addNoise_11 lk456 (fun _ _ _ => rfl) ta rfl ?_
    refine ev_eqJ (y := (lN (sp_dz z n))) ((by rw [va_up_s, va_up_s])) ?_
    refine ev_invSN 17 (Mc := mX11_drawnFrom) ⟨lk619, lk75, hdX11_drawnFrom, (Nat.le_of_ble_eq_true rfl), (Nat.le_of_ble_eq_true rfl)⟩ lk1135 lk618 dX3_addNoise_14 (ct_X11_drawnFrom (sp_dz_lt hz n)) rfl (Nat.le_of_ble_eq_true rfl) rfl rfl ?_
    refine ev_putJ 20 mm_cl3 (j := 2) (Nat.le_of_ble_eq_true rfl) dX3_addNoise_17 lk456 rfl (fun _ _ _ => rfl) rfl rfl ta rfl ?_
    rw [va_up_s, bx_uu, bx_uu]
    refine ev_aload_n 21 dX3_addNoise_20 rfl rfl ?_
    refine ev_iload 23 dX3_addNoise_21 rfl rfl ?_
    refine ev_aload 25 dX3_addNoise_23 rfl rfl ?_
    refine ev_aload_n 26 dX3_addNoise_25 rfl rfl ?_
    refine ev_iload 28 dX3_addNoise_26 rfl rfl ?_
    refine ev_iald 29 _ dX3_addNoise_28 (hV.1 6 _ rfl) rfl (by have hNN := hV.2.1 6 _ rfl; omega) rfl ?_
    refine ev_eqI (y := (Y n)) ((by rw [va_up_s, sgp_out (by omega)])) ?_
    refine ev_aload_n 30 dX3_addNoise_29 rfl rfl ?_
    refine ev_getJ 33 mm_cl3 (j := 2) (Nat.le_of_ble_eq_true rfl) dX3_addNoise_30 lk456 (fun _ _ _ => rfl) ta rfl ?_
    refine ev_eqJ (y := (lN (sp_dn (sp_dz z n)))) ((by rw [va_up_s, va_up_s])) ?_
    refine ev_invSN 36 (Mc := mX11_drawOf) ⟨lk625, lk75, hdX11_drawOf, (Nat.le_of_ble_eq_true rfl), (Nat.le_of_ble_eq_true rfl)⟩ lk1136 lk624 dX3_addNoise_33 (ct_X11_drawOf (sp_dn_lt _)) rfl (Nat.le_of_ble_eq_true rfl) rfl rfl ?_
    refine ev_iload_n 37 dX3_addNoise_36 rfl rfl ?_
    refine ev_imul 38 dX3_addNoise_37 rfl ?_
    refine ev_bipushN 40 8 dX3_addNoise_38 (by decide +kernel) rfl ?_
    refine ev_ishr 41 dX3_addNoise_40 rfl ?_
    refine ev_iadd 42 dX3_addNoise_41 rfl ?_
    refine ev_i2l 43 dX3_addNoise_42 rfl ?_
    refine ev_invV 46 (Mc := mX10_narrow) ⟨lk674, lk76, hdX10_narrow, (Nat.le_of_ble_eq_true rfl), (Nat.le_of_ble_eq_true rfl)⟩ lk1137 lk672 lk673 mm_cl10 rfl dX3_addNoise_43 (ct_X10_narrow hV) rfl (hV.1 1 _ rfl) (Nat.le_of_ble_eq_true rfl) rfl rfl ?_
    rw [sp_up_v hax]
    refine ev_iast 47 _ dX3_addNoise_46 (hV.1 6 _ rfl) rfl (by have hNN := hV.2.1 6 _ rfl; omega) rfl ?_
    refine ev_iincN 50 (lv' := [_, _, _, _, some (.ref _), _]) 1 dX3_addNoise_47 rfl (Nat.le_of_ble_eq_true rfl) rfl rfl ?_
    refine ev_goto 3 dX3_addNoise_50 (by decide) ?_
    rw [va_up_s, bx_uu]
    exact e
theorem ct_X3_noise {N z : Nat} {st : Int32} (hV : lyV B P x) (ta : mm_T B a = 103) (ha : x + 22 ≤ a) (hz : z < 2 ^ 31) (hN : N ≤ 320) (hJ : J a 2 = lN z) : Ct g mX3_addNoise [.ref a, .ref (x + 6), .int (nI N), .int st, .ref (x + 1)] B I J P
      (none, B, va_up I (x + 6) (sgp (I (x + 6)) 0 N (nzY z st (I (x + 6)))), va_up (sp_up J (x + 1) 3 (nzT z st (I (x + 6)) N)) a (va_up (J a) 2 (lN (sp_dz z N))), P) := by
  have e := lp_X3_noise (g := g) (B := B) (I := I) (J := J) (P := P) (x := x) (a := a) (N := N) (z := z) (st := st) hV ta ha hz hN rfl N 0 (by omega)
  rw [sgp_0, va_up_id, show nzT z st (I (x + 6)) 0 = 0 from rfl, sp_up_0, show sp_dz z 0 = z from rfl, ← hJ, va_up_id, va_up_id] at e
  refine ct_of (lv := [some (.ref a), some (.ref (x + 6)), some (.int (nI N)), some (.int st), some (.ref (x + 1)), none]) (by decide +kernel) (Nat.le_of_ble_eq_true rfl) rfl ?_
  refine ev_iconstN 1 0 dX3_addNoise_0 rfl ?_
  refine ev_istore 3 (lv' := [_, _, _, _, some (.ref _), _]) dX3_addNoise_1 (Nat.le_of_ble_eq_true rfl) rfl rfl ?_
  exact e
theorem lp_X3_tilt {N : Nat} {c0 : Int32} {Y : Nat → Int32} (hV : lyV B P x) (ta : mm_T B a = 103) (ha : x + 22 ≤ a) (hN : N ≤ 320) (hY : I (x + 6) = Y) : ∀ (d n : Nat), n + d = N →
    Ev g mX3_tilt 3 [some (.ref a), some (.ref (x + 6)), some (.int (nI N)), some (.ref (x + 1)), some (.int (nI n)), none] [] B (va_up (va_up I (x + 6) (sgp Y 0 n (tlY c0 Y))) a (va_up (I a) 3 (if n = 0 then c0 else Y (n - 1)))) (sp_up J (x + 1) 3 (tlT c0 Y n)) P
      (none, B, va_up (va_up I (x + 6) (sgp Y 0 N (tlY c0 Y))) a (va_up (I a) 3 (if N = 0 then c0 else Y (N - 1))), sp_up J (x + 1) 3 (tlT c0 Y N), P) := by
  intro d
  induction d with
  | zero =>
    intro n hn
    obtain rfl : n = N := by omega
    refine ev_iload 5 dX3_tilt_3 rfl rfl ?_
    refine ev_iload_n 6 dX3_tilt_5 rfl rfl ?_
    refine ev_icmp_geN 9 50 dX3_tilt_6 (by decide) (by omega) (by omega) rfl (fun hbr => ?_) (fun hx => absurd ((by omega)) hx)
    exact ev_vret dX3_tilt_50 rfl (rfl)
  | succ d ih =>
    intro n hn
    have e := ih (n + 1) (by omega)
    rw [← sg0_grow (w := tlY c0 Y n) rfl, show tlT c0 Y (n + 1) = tlT c0 Y n + sp_t (tlw c0 Y n) from rfl, ← sp_up_up, if_neg (show ¬ n + 1 = 0 by omega), show n + 1 - 1 = n from rfl] at e
    have hax : a ≠ x + 6 := by omega
    refine ev_iload 5 dX3_tilt_3 rfl rfl ?_
    refine ev_iload_n 6 dX3_tilt_5 rfl rfl ?_
    refine ev_icmp_geN 9 50 dX3_tilt_6 (by decide) (by omega) (by omega) rfl (fun hx => absurd hx ((by omega))) (fun hbr => ?_)
    refine ev_aload_n 10 dX3_tilt_9 rfl rfl ?_
    refine ev_iload 12 dX3_tilt_10 rfl rfl ?_
    refine ev_iald 13 _ dX3_tilt_12 (hV.1 6 _ rfl) rfl (by have hNN := hV.2.1 6 _ rfl; omega) rfl ?_
    refine ev_eqI (y := (Y n)) ((by rw [va_up_n _ _ (by omega), va_up_s, sgp_out (by omega)])) ?_
    refine ev_istore 15 (lv' := [_, _, _, _, some (.int _), _]) dX3_tilt_13 (Nat.le_of_ble_eq_true rfl) rfl rfl ?_
    refine ev_aload_n 16 dX3_tilt_15 rfl rfl ?_
    refine ev_iload 18 dX3_tilt_16 rfl rfl ?_
    refine ev_aload_n 19 dX3_tilt_18 rfl rfl ?_
    refine ev_iload 21 dX3_tilt_19 rfl rfl ?_
    refine ev_i2l 22 dX3_tilt_21 rfl ?_
    refine ev_aload_n 23 dX3_tilt_22 rfl rfl ?_
    refine ev_getI 26 mm_cl3 (j := 3) (Nat.le_of_ble_eq_true rfl) dX3_tilt_23 lk457 (fun _ _ _ => rfl) ta rfl ?_
    refine ev_eqI (y := (if n = 0 then c0 else Y (n - 1))) ((by rw [va_up_s, va_up_s])) ?_
    refine ev_i2l 27 dX3_tilt_26 rfl ?_
    refine ev_ldc2 30 dX3_tilt_27 lk1142 rfl ?_
    refine ev_invSN 33 (Mc := mX11_half) ⟨lk669, lk75, hdX11_half, (Nat.le_of_ble_eq_true rfl), (Nat.le_of_ble_eq_true rfl)⟩ lk1143 lk668 dX3_tilt_30 (ct_X11_half) rfl (Nat.le_of_ble_eq_true rfl) rfl rfl ?_
    refine ev_lsub 34 dX3_tilt_33 rfl ?_
    refine ev_invV 37 (Mc := mX10_narrow) ⟨lk674, lk76, hdX10_narrow, (Nat.le_of_ble_eq_true rfl), (Nat.le_of_ble_eq_true rfl)⟩ lk1137 lk672 lk673 mm_cl10 rfl dX3_tilt_34 (ct_X10_narrow hV) rfl (hV.1 1 _ rfl) (Nat.le_of_ble_eq_true rfl) rfl rfl ?_
    refine ev_iast 38 _ dX3_tilt_37 (hV.1 6 _ rfl) rfl (by have hNN := hV.2.1 6 _ rfl; omega) rfl ?_
    rw [va_3 I (a := x + 6) (b := a) _ _ _ (fun h => hax h.symm), va_up_n _ _ (show x + 6 ≠ a by omega), va_up_s]
    refine ev_aload_n 39 dX3_tilt_38 rfl rfl ?_
    refine ev_iload 41 dX3_tilt_39 rfl rfl ?_
    refine ev_putI 44 mm_cl3 (j := 3) (Nat.le_of_ble_eq_true rfl) dX3_tilt_41 lk457 rfl (fun _ _ _ => rfl) rfl rfl ta rfl ?_
    rw [va_up_s, bx_uu, bx_uu]
    refine ev_iincN 47 (lv' := [_, _, _, some (.ref _), _, _]) 1 dX3_tilt_44 rfl (Nat.le_of_ble_eq_true rfl) rfl rfl ?_
    refine ev_goto 3 dX3_tilt_47 (by decide) ?_
    refine ev_le (mle_s (mle_s (mle_s (mle_s (mle_s (mle_n (mle_0))))))) ?_
    exact e
theorem ct_X3_tilt {N : Nat} (hV : lyV B P x) (ta : mm_T B a = 103) (ha : x + 22 ≤ a) (hN : N ≤ 320) (hN1 : 1 ≤ N) : Ct g mX3_tilt [.ref a, .ref (x + 6), .int (nI N), .ref (x + 1)] B I J P
      (none, B, va_up (va_up I (x + 6) (sgp (I (x + 6)) 0 N (tlY (I a 3) (I (x + 6))))) a (va_up (I a) 3 (I (x + 6) (N - 1))), sp_up J (x + 1) 3 (tlT (I a 3) (I (x + 6)) N), P) := by
  have e := lp_X3_tilt (g := g) (B := B) (I := I) (J := J) (P := P) (x := x) (a := a) (N := N) (c0 := I a 3) hV ta ha hN rfl N 0 (by omega)
  rw [sgp_0, va_up_id, show tlT (I a 3) (I (x + 6)) 0 = 0 from rfl, sp_up_0, if_pos rfl, va_up_id, va_up_id, if_neg (show ¬ N = 0 by omega)] at e
  refine ct_of (lv := [some (.ref a), some (.ref (x + 6)), some (.int (nI N)), some (.ref (x + 1)), none, none]) (by decide +kernel) (Nat.le_of_ble_eq_true rfl) rfl ?_
  refine ev_iconstN 1 0 dX3_tilt_0 rfl ?_
  refine ev_istore 3 (lv' := [_, _, _, some (.ref _), _, _]) dX3_tilt_1 (Nat.le_of_ble_eq_true rfl) rfl rfl ?_
  exact e
theorem lp_X3_emph {N : Nat} {g0 : Int32} {Y : Nat → Int32} (hV : lyV B P x) (ta : mm_T B a = 103) (ha : x + 22 ≤ a) (hN : N ≤ 320) (hY : I (x + 6) = Y) : ∀ (d n : Nat), n + d = N →
    Ev g mX3_emphasize 3 [some (.ref a), some (.ref (x + 6)), some (.int (nI N)), some (.ref (x + 1)), some (.int (nI n))] [] B (va_up (va_up I (x + 6) (sgp Y 0 n (fun k => emG g0 Y (k + 1)))) a (va_up (I a) 4 (emG g0 Y n))) (sp_up J (x + 1) 3 (emT g0 Y n)) P
      (none, B, va_up (va_up I (x + 6) (sgp Y 0 N (fun k => emG g0 Y (k + 1)))) a (va_up (I a) 4 (emG g0 Y N)), sp_up J (x + 1) 3 (emT g0 Y N), P) := by
  intro d
  induction d with
  | zero =>
    intro n hn
    obtain rfl : n = N := by omega
    refine ev_iload 5 dX3_emphasize_3 rfl rfl ?_
    refine ev_iload_n 6 dX3_emphasize_5 rfl rfl ?_
    refine ev_icmp_geN 9 48 dX3_emphasize_6 (by decide) (by omega) (by omega) rfl (fun hbr => ?_) (fun hx => absurd ((by omega)) hx)
    exact ev_vret dX3_emphasize_48 rfl (rfl)
  | succ d ih =>
    intro n hn
    have e := ih (n + 1) (by omega)
    rw [← sg0_grow (f := Y) (v := fun k => emG g0 Y (k + 1)) (n := n) (w := emG g0 Y (n + 1)) rfl, show emT g0 Y (n + 1) = emT g0 Y n + sp_t ((Y n).toInt64 + sp_half (emG g0 Y n).toInt64 22282) from rfl, ← sp_up_up, show emG g0 Y (n + 1) = sp_S ((Y n).toInt64 + sp_half (emG g0 Y n).toInt64 22282) from rfl] at e
    have hax : a ≠ x + 6 := by omega
    refine ev_iload 5 dX3_emphasize_3 rfl rfl ?_
    refine ev_iload_n 6 dX3_emphasize_5 rfl rfl ?_
    refine ev_icmp_geN 9 48 dX3_emphasize_6 (by decide) (by omega) (by omega) rfl (fun hx => absurd hx ((by omega))) (fun hbr => ?_)
    refine ev_aload_n 10 dX3_emphasize_9 rfl rfl ?_
    refine ev_aload_n 11 dX3_emphasize_10 rfl rfl ?_
    refine ev_aload_n 12 dX3_emphasize_11 rfl rfl ?_
    refine ev_iload 14 dX3_emphasize_12 rfl rfl ?_
    refine ev_iald 15 _ dX3_emphasize_14 (hV.1 6 _ rfl) rfl (by have hNN := hV.2.1 6 _ rfl; omega) rfl ?_
    refine ev_eqI (y := (Y n)) ((by rw [va_up_n _ _ (by omega), va_up_s, sgp_out (by omega)])) ?_
    refine ev_i2l 16 dX3_emphasize_15 rfl ?_
    refine ev_aload_n 17 dX3_emphasize_16 rfl rfl ?_
    refine ev_getI 20 mm_cl3 (j := 4) (Nat.le_of_ble_eq_true rfl) dX3_emphasize_17 lk458 (fun _ _ _ => rfl) ta rfl ?_
    refine ev_eqI (y := (emG g0 Y n)) ((by rw [va_up_s, va_up_s])) ?_
    refine ev_i2l 21 dX3_emphasize_20 rfl ?_
    refine ev_ldc2 24 dX3_emphasize_21 lk1154 rfl ?_
    refine ev_invSN 27 (Mc := mX11_half) ⟨lk669, lk75, hdX11_half, (Nat.le_of_ble_eq_true rfl), (Nat.le_of_ble_eq_true rfl)⟩ lk1143 lk668 dX3_emphasize_24 (ct_X11_half) rfl (Nat.le_of_ble_eq_true rfl) rfl rfl ?_
    refine ev_ladd 28 dX3_emphasize_27 rfl ?_
    refine ev_invV 31 (Mc := mX10_narrow) ⟨lk674, lk76, hdX10_narrow, (Nat.le_of_ble_eq_true rfl), (Nat.le_of_ble_eq_true rfl)⟩ lk1137 lk672 lk673 mm_cl10 rfl dX3_emphasize_28 (ct_X10_narrow hV) rfl (hV.1 1 _ rfl) (Nat.le_of_ble_eq_true rfl) rfl rfl ?_
    refine ev_putI 34 mm_cl3 (j := 4) (Nat.le_of_ble_eq_true rfl) dX3_emphasize_31 lk458 rfl (fun _ _ _ => rfl) rfl rfl ta rfl ?_
    rw [va_up_s, bx_uu, bx_uu]
    refine ev_aload_n 35 dX3_emphasize_34 rfl rfl ?_
    refine ev_iload 37 dX3_emphasize_35 rfl rfl ?_
    refine ev_aload_n 38 dX3_emphasize_37 rfl rfl ?_
    refine ev_getI 41 mm_cl3 (j := 4) (Nat.le_of_ble_eq_true rfl) dX3_emphasize_38 lk458 (fun _ _ _ => rfl) ta rfl ?_
    refine ev_eqI (y := (sp_S ((Y n).toInt64 + sp_half (emG g0 Y n).toInt64 22282))) ((by rw [va_up_s, va_up_s])) ?_
    refine ev_iast 42 _ dX3_emphasize_41 (hV.1 6 _ rfl) rfl (by have hNN := hV.2.1 6 _ rfl; omega) rfl ?_
    rw [va_3 I (a := x + 6) (b := a) _ _ _ (fun h => hax h.symm), va_up_n _ _ (show x + 6 ≠ a by omega), va_up_s]
    refine ev_iincN 45 (lv' := [_, _, _, some (.ref _), _]) 1 dX3_emphasize_42 rfl (Nat.le_of_ble_eq_true rfl) rfl rfl ?_
    refine ev_goto 3 dX3_emphasize_45 (by decide) ?_
    exact e
theorem ct_X3_emph {N : Nat} (hV : lyV B P x) (ta : mm_T B a = 103) (ha : x + 22 ≤ a) (hN : N ≤ 320) : Ct g mX3_emphasize [.ref a, .ref (x + 6), .int (nI N), .ref (x + 1)] B I J P
      (none, B, va_up (va_up I (x + 6) (sgp (I (x + 6)) 0 N (fun k => emG (I a 4) (I (x + 6)) (k + 1)))) a (va_up (I a) 4 (emG (I a 4) (I (x + 6)) N)), sp_up J (x + 1) 3 (emT (I a 4) (I (x + 6)) N), P) := by
  have e := lp_X3_emph (g := g) (B := B) (I := I) (J := J) (P := P) (x := x) (a := a) (N := N) (g0 := I a 4) hV ta ha hN rfl N 0 (by omega)
  rw [sgp_0, va_up_id, show emT (I a 4) (I (x + 6)) 0 = 0 from rfl, sp_up_0, show emG (I a 4) (I (x + 6)) 0 = I a 4 from rfl, va_up_id, va_up_id] at e
  refine ct_of (lv := [some (.ref a), some (.ref (x + 6)), some (.int (nI N)), some (.ref (x + 1)), none]) (by decide +kernel) (Nat.le_of_ble_eq_true rfl) rfl ?_
  refine ev_iconstN 1 0 dX3_emphasize_0 rfl ?_
  refine ev_istore 3 (lv' := [_, _, _, some (.ref _), _]) dX3_emphasize_1 (Nat.le_of_ble_eq_true rfl) rfl rfl ?_
  exact e
theorem lp_X3_comb {N lag : Nat} {K T : Nat → Int32} (hV : lyV B P x) (ta : mm_T B a = 103) (ha : x + 22 ≤ a) (hp : P a 1 = some (a + 1)) (tk : mm_T B (a + 1) = 200) (nk : mm_N B (a + 1) = 160) (hN : N ≤ 320) (hN1 : 160 ≤ N) (hl : 20 ≤ lag) (hl2 : lag ≤ 147) (hK : ∀ j, j < 160 → I (a + 1) j = K j) : ∀ (d n : Nat), n + d = N →
    Ev g mX3_comb 3 [some (.ref a), some (.ref (x + 6)), some (.int (nI N)), some (.int (nI lag)), some (.ref (x + 1)), some (.int (nI n)), none] [] B (va_up I (x + 6) (cmY T K lag n)) (sp_up J (x + 1) 3 (cmT T K lag n)) P
      (none, B, va_up (va_up I (x + 6) (cmY T K lag N)) (a + 1) (va_cpy (cmY T K lag N) (I (a + 1)) (N - 160) 0 160), sp_up J (x + 1) 3 (cmT T K lag N), P) := by
  have nv := hV.2.1 6 _ rfl
  intro d
  induction d with
  | zero =>
    intro n hn
    obtain rfl : n = N := by omega
    refine ev_iload 5 dX3_comb_3 rfl rfl ?_
    refine ev_iload_n 6 dX3_comb_5 rfl rfl ?_
    refine ev_icmp_geN 9 69 dX3_comb_6 (by decide) (by omega) (by omega) rfl (fun hbr => ?_) (fun hx => absurd ((by omega)) hx)
    refine ev_aload_n 70 dX3_comb_69 rfl rfl ?_
    refine ev_iload_n 71 dX3_comb_70 rfl rfl ?_
    refine ev_sipushN 74 160 dX3_comb_71 (by decide +kernel) rfl ?_
    refine ev_isubN 75 dX3_comb_74 (by omega) rfl ?_
    refine ev_aload_n 76 dX3_comb_75 rfl rfl ?_
    refine ev_getP 79 mm_cl3 (j := 1) (Nat.le_of_ble_eq_true rfl) dX3_comb_76 lk455 (fun _ _ _ => rfl) ta (a := (a+1)) (hp) rfl ?_
    refine ev_iconstN 80 0 dX3_comb_79 rfl ?_
    refine ev_sipushN 83 160 dX3_comb_80 (by decide +kernel) rfl ?_
    refine ev_copyI 86 (n - 160) (0) (160) 0 dX3_comb_83 lk1149 lk650 lk649 lk88 (by decide) (hV.1 6 _ rfl) tk rfl rfl rfl (by have hNN := hV.2.1 6 _ rfl; omega) (by have hNN := hV.2.1 6 _ rfl; omega) (fun _ _ => rfl) (Nat.le_of_ble_eq_true rfl) (Nat.le_of_ble_eq_true rfl) (Nat.le_of_ble_eq_true rfl) rfl ?_
    rw [va_up_s, va_up_n _ _ (show a + 1 ≠ x + 6 by omega)]
    exact ev_vret dX3_comb_86 rfl (rfl)
  | succ d ih =>
    intro n hn
    have e := ih (n + 1) (by omega)
    have hT := cmY_o (T := T) (K := K) (lag := lag) n n (Nat.le_refl _)
    rw [show cmY T K lag (n + 1) = va_up (cmY T K lag n) n (sp_S (cmw T K (cmY T K lag n) lag n)) from rfl, show cmT T K lag (n + 1) = cmT T K lag n + sp_t (cmw T K (cmY T K lag n) lag n) from rfl, ← sp_up_up] at e
    generalize hC : cmY T K lag n = C at e hT ⊢
    have k37 : ∀ (b : Int32), b = (if n < lag then K (160 + n - lag) else C (n - lag)) → Ev g mX3_comb 39 [some (.ref a), some (.ref (x + 6)), some (.int (nI N)), some (.int (nI lag)), some (.ref (x + 1)), some (.int (nI n)), some (.int b)] [] B (va_up I (x + 6) C) (sp_up J (x + 1) 3 (cmT T K lag n)) P
        (none, B, va_up (va_up I (x + 6) (cmY T K lag N)) (a + 1) (va_cpy (cmY T K lag N) (I (a + 1)) (N - 160) 0 160), sp_up J (x + 1) 3 (cmT T K lag N), P) := by
      intro b hb
      subst hb
      refine ev_aload_n 40 dX3_comb_39 rfl rfl ?_
      refine ev_iload 42 dX3_comb_40 rfl rfl ?_
      refine ev_aload 44 dX3_comb_42 rfl rfl ?_
      refine ev_aload_n 45 dX3_comb_44 rfl rfl ?_
      refine ev_iload 47 dX3_comb_45 rfl rfl ?_
      refine ev_iald 48 _ dX3_comb_47 (hV.1 6 _ rfl) rfl (by have hNN := hV.2.1 6 _ rfl; omega) rfl ?_
      refine ev_eqI (y := (T n)) ((by rw [va_up_s]; exact hT)) ?_
      refine ev_i2l 49 dX3_comb_48 rfl ?_
      refine ev_iload 51 dX3_comb_49 rfl rfl ?_
      refine ev_i2l 52 dX3_comb_51 rfl ?_
      refine ev_ldc2 55 dX3_comb_52 lk1148 rfl ?_
      refine ev_invSN 58 (Mc := mX11_half) ⟨lk669, lk75, hdX11_half, (Nat.le_of_ble_eq_true rfl), (Nat.le_of_ble_eq_true rfl)⟩ lk1143 lk668 dX3_comb_55 (ct_X11_half) rfl (Nat.le_of_ble_eq_true rfl) rfl rfl ?_
      refine ev_ladd 59 dX3_comb_58 rfl ?_
      refine ev_invV 62 (Mc := mX10_narrow) ⟨lk674, lk76, hdX10_narrow, (Nat.le_of_ble_eq_true rfl), (Nat.le_of_ble_eq_true rfl)⟩ lk1137 lk672 lk673 mm_cl10 rfl dX3_comb_59 (ct_X10_narrow hV) rfl (hV.1 1 _ rfl) (Nat.le_of_ble_eq_true rfl) rfl rfl ?_
      refine ev_iast 63 _ dX3_comb_62 (hV.1 6 _ rfl) rfl (by have hNN := hV.2.1 6 _ rfl; omega) rfl ?_
      refine ev_iincN 66 (lv' := [_, _, _, _, some (.ref _), _, _]) 1 dX3_comb_63 rfl (Nat.le_of_ble_eq_true rfl) rfl rfl ?_
      refine ev_goto 3 dX3_comb_66 (by decide) ?_
      rw [va_up_s, bx_uu]
      refine ev_le (mle_s (mle_s (mle_s (mle_s (mle_s (mle_s (mle_n (mle_0)))))))) ?_
      exact e
    refine ev_iload 5 dX3_comb_3 rfl rfl ?_
    refine ev_iload_n 6 dX3_comb_5 rfl rfl ?_
    refine ev_icmp_geN 9 69 dX3_comb_6 (by decide) (by omega) (by omega) rfl (fun hx => absurd hx ((by omega))) (fun hbr => ?_)
    refine ev_iload 11 dX3_comb_9 rfl rfl ?_
    refine ev_iload_n 12 dX3_comb_11 rfl rfl ?_
    refine ev_icmp_geN 15 31 dX3_comb_12 (by decide) (by omega) (by omega) rfl (fun hz => ?_) (fun hz => ?_)
    · refine ev_aload_n 32 dX3_comb_31 rfl rfl ?_
      refine ev_iload 34 dX3_comb_32 rfl rfl ?_
      refine ev_iload_n 35 dX3_comb_34 rfl rfl ?_
      refine ev_isubN 36 dX3_comb_35 (by omega) rfl ?_
      refine ev_iald 37 _ dX3_comb_36 (hV.1 6 _ rfl) rfl (by have hNN := hV.2.1 6 _ rfl; omega) rfl ?_
      refine ev_eqI (y := (C (n - lag))) ((by rw [va_up_s])) ?_
      refine ev_istore 39 (lv' := [_, _, _, _, _, some (.int _), _]) dX3_comb_37 (Nat.le_of_ble_eq_true rfl) rfl rfl ?_
      exact k37 _ (by rw [if_neg (by omega)])
    · refine ev_aload_n 16 dX3_comb_15 rfl rfl ?_
      refine ev_getP 19 mm_cl3 (j := 1) (Nat.le_of_ble_eq_true rfl) dX3_comb_16 lk455 (fun _ _ _ => rfl) ta (a := (a+1)) (hp) rfl ?_
      refine ev_sipushN 22 160 dX3_comb_19 (by decide +kernel) rfl ?_
      refine ev_iload 24 dX3_comb_22 rfl rfl ?_
      refine ev_iaddN 25 dX3_comb_24 rfl ?_
      refine ev_iload_n 26 dX3_comb_25 rfl rfl ?_
      refine ev_isubN 27 dX3_comb_26 (by omega) rfl ?_
      refine ev_iald 28 _ dX3_comb_27 tk rfl (by omega) rfl ?_
      refine ev_eqI (y := (K (160 + n - lag))) ((by rw [va_up_n _ _ (by omega)]; exact hK _ (by omega))) ?_
      refine ev_goto 37 dX3_comb_28 (by decide) ?_
      refine ev_istore 39 (lv' := [_, _, _, _, _, some (.int _), _]) dX3_comb_37 (Nat.le_of_ble_eq_true rfl) rfl rfl ?_
      exact k37 _ (by rw [if_pos (by omega)])
theorem ct_X3_comb {N lag : Nat} {K : Nat → Int32} (hV : lyV B P x) (ta : mm_T B a = 103) (ha : x + 22 ≤ a) (hp : P a 1 = some (a + 1)) (tk : mm_T B (a + 1) = 200) (nk : mm_N B (a + 1) = 160) (hN : N ≤ 320) (hN1 : 160 ≤ N) (hl : 20 ≤ lag) (hl2 : lag ≤ 147) (hK : ∀ j, j < 160 → I (a + 1) j = K j) : Ct g mX3_comb [.ref a, .ref (x + 6), .int (nI N), .int (nI lag), .ref (x + 1)] B I J P
      (none, B, va_up (va_up I (x + 6) (cmY (I (x + 6)) K lag N)) (a + 1) (va_cpy (cmY (I (x + 6)) K lag N) (I (a + 1)) (N - 160) 0 160), sp_up J (x + 1) 3 (cmT (I (x + 6)) K lag N), P) := by
  have e := lp_X3_comb (g := g) (B := B) (I := I) (J := J) (P := P) (x := x) (a := a) (N := N) (lag := lag) (T := I (x + 6)) hV ta ha hp tk nk hN hN1 hl hl2 hK N 0 (by omega)
  rw [show cmY (I (x + 6)) K lag 0 = I (x + 6) from rfl, va_up_id, show cmT (I (x + 6)) K lag 0 = 0 from rfl, sp_up_0] at e
  refine ct_of (lv := [some (.ref a), some (.ref (x + 6)), some (.int (nI N)), some (.int (nI lag)), some (.ref (x + 1)), none, none]) (by decide +kernel) (Nat.le_of_ble_eq_true rfl) rfl ?_
  refine ev_iconstN 1 0 dX3_comb_0 rfl ?_
  refine ev_istore 3 (lv' := [_, _, _, _, some (.ref _), _, _]) dX3_comb_1 (Nat.le_of_ble_eq_true rfl) rfl rfl ?_
  exact e
end VFI
