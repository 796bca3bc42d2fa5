def mO (F : Nat → Int32) : sp_V → Nat → Int32
  | none => F
  | some z => va_up (va_up F 75 (nI z.1)) 76 (nI z.2)
def mE (F : Nat → Int32) : sp_V → Nat → Int32
  | none => F
  | some z => va_up (va_up F 73 (nI z.1)) 74 (nI z.2)
theorem mO_up {F : Nat → Int32} {v : sp_V} {a b : Nat} : va_up (va_up (mO F v) 75 (nI a)) 76 (nI b) = mO F (some (a, b)) := by
  cases v with
  | none => rfl
  | some z =>
    show va_up (va_up (va_up (va_up F 75 (nI z.1)) 76 (nI z.2)) 75 (nI a)) 76 (nI b) = va_up (va_up F 75 (nI a)) 76 (nI b)
    rw [va_3 F (a := 75) (b := 76) _ _ _ (by omega), bx_uu]
theorem mE_up {F : Nat → Int32} {v : sp_V} {a b : Nat} : va_up (va_up (mE F v) 73 (nI a)) 74 (nI b) = mE F (some (a, b)) := by
  cases v with
  | none => rfl
  | some z =>
    show va_up (va_up (va_up (va_up F 73 (nI z.1)) 74 (nI z.2)) 73 (nI a)) 74 (nI b) = va_up (va_up F 73 (nI a)) 74 (nI b)
    rw [va_3 F (a := 73) (b := 74) _ _ _ (by omega), bx_uu]
theorem mF_c {F : Nat → Int32} {s : sp_Q} {k : Nat} {w : Int32} (h : k ≠ 77) : va_up (mF F s) k w = mF (va_up F k w) s := by
  cases s with
  | none => rfl
  | some z => exact va_comm F _ _ (fun e => h e.symm)
theorem mO_c {F : Nat → Int32} {s : sp_V} {k : Nat} {w : Int32} (h : k ≠ 75) (h2 : k ≠ 76) : va_up (mO F s) k w = mO (va_up F k w) s := by
  cases s with
  | none => rfl
  | some z =>
    show va_up (va_up (va_up F 75 _) 76 _) k w = va_up (va_up (va_up F k w) 75 _) 76 _
    rw [va_comm (va_up F 75 _) _ _ (fun e => h2 e.symm), va_comm F _ _ (fun e => h e.symm)]
theorem sp_hJ {U : Nat → Int32} {n : Nat} : (sp_ph 0).toInt64 * (U n).toInt64 = Int64.ofInt (32 * (U n).toInt) ∧ (sp_ph 1).toInt64 * (U n).toInt64 = Int64.ofInt (16 * (U n).toInt) ∧ (sp_ph 2).toInt64 * (U n).toInt64 = Int64.ofInt (-8 * (U n).toInt) := by
  refine ⟨?_, ?_, ?_⟩
  · rw [Int64.ofInt_mul, ji_of (U n), show (sp_ph 0).toInt64 = Int64.ofInt 32 by decide +kernel]
  · rw [Int64.ofInt_mul, ji_of (U n), show (sp_ph 1).toInt64 = Int64.ofInt 16 by decide +kernel]
  · rw [Int64.ofInt_mul, ji_of (U n), show (sp_ph 2).toInt64 = Int64.ofInt (-8) by decide +kernel]
section MOS
variable {g : mm_G} {B : mm_B} {I : mm_TI} {J : mm_TJ} {P : mm_TP} {m : Nat}
theorem lp_X12_pul1 {c pt sb L w : Nat} {p : Int32} {H R : Nat → Int32} {Z : mm_Z} (hM : lyM B P m) (hc8 : c < 8) (hp4 : pt < 4) (hb : sb ≤ 80) (hL : 20 ≤ L) (hL2 : L ≤ 147) (hsp : sb * pt + sb ≤ 320) (hH : ∀ n, n < 160 → I (m + 27) (160 * (4 * c + pt) + n) = H n) (hR : ∀ n, n < sb → I (m + 26) (320 * c + sb * pt + n) = R n)
    (K : Ev g mX12_pulses 78 [some (.ref m), some (.int (nI c)), some (.int (nI pt)), some (.int (nI sb)), some (.int (nI L)), some (.int p), some (.int (nI w)), none, none, none, none] [] B (va_up I (m + 56) (sgp (I (m + 56)) 0 sb (sp_U H R L p))) J P Z) : ∀ (d n : Nat), n + d = sb →
    Ev g mX12_pulses 3 [some (.ref m), some (.int (nI c)), some (.int (nI pt)), some (.int (nI sb)), some (.int (nI L)), some (.int p), some (.int (nI w)), some (.int (nI n)), none, none, none] [] B (va_up I (m + 56) (sgp (I (m + 56)) 0 n (sp_U H R L p))) J P Z := by
  intro d
  induction d with
  | zero =>
    intro n hn
    obtain rfl : n = sb := by omega
    refine ev_iload 5 dX12_pulses_3 rfl rfl ?_
    refine ev_iload_n 6 dX12_pulses_5 rfl rfl ?_
    refine ev_icmp_geN 9 78 dX12_pulses_6 (by decide) (by omega) (by omega) rfl (fun hbr => ?_) (fun hx => absurd ((by omega)) hx)
    refine ev_le (mle_s (mle_s (mle_s (mle_s (mle_s (mle_s (mle_s (mle_n (mle_n (mle_n (mle_n (mle_0)))))))))))) ?_
    exact K
  | succ d ih =>
    intro n hn
    have e3 := ih (n + 1) (by omega)
    have hm : n % L < L := Nat.mod_lt _ (by omega)
    rw [← sg0_grow (w := R n - ((nI 5 * p * sp_beh H L n) >>> (nI 5 &&& 31))) rfl] at e3
    refine ev_iload 5 dX12_pulses_3 rfl rfl ?_
    refine ev_iload_n 6 dX12_pulses_5 rfl rfl ?_
    refine ev_icmp_geN 9 78 dX12_pulses_6 (by decide) (by omega) (by omega) rfl (fun hx => absurd hx ((by omega))) (fun hbr => ?_)
    refine ev_aload_n 10 dX12_pulses_9 rfl rfl ?_
    refine ev_getP 13 mm_cl12 (j := 32) (Nat.le_of_ble_eq_true rfl) dX12_pulses_10 lk1317 (fun _ _ _ => rfl) (hM.1 0 _ rfl) (a := (m + 27)) (hM.2.2 26 _ _ _ rfl) rfl ?_
    refine ev_sipushN 16 160 dX12_pulses_13 (by decide +kernel) rfl ?_
    refine ev_iconstN 17 4 dX12_pulses_16 rfl ?_
    refine ev_iload_n 18 dX12_pulses_17 rfl rfl ?_
    refine ev_imulN 19 dX12_pulses_18 rfl ?_
    refine ev_iload_n 20 dX12_pulses_19 rfl rfl ?_
    refine ev_iaddN 21 dX12_pulses_20 rfl ?_
    refine ev_imulN 22 dX12_pulses_21 rfl ?_
    refine ev_sipushN 25 160 dX12_pulses_22 (by decide +kernel) rfl ?_
    refine ev_iaddN 26 dX12_pulses_25 rfl ?_
    refine ev_iload 28 dX12_pulses_26 rfl rfl ?_
    refine ev_isubN 29 dX12_pulses_28 (by omega) rfl ?_
    refine ev_iload 31 dX12_pulses_29 rfl rfl ?_
    refine ev_iload 33 dX12_pulses_31 rfl rfl ?_
    refine ev_iremN 34 dX12_pulses_33 (by omega) (by omega) (by omega) rfl ?_
    refine ev_iaddN 35 dX12_pulses_34 rfl ?_
    refine ev_iald 36 _ dX12_pulses_35 (hM.1 27 _ rfl) rfl (by have hNN := hM.2.1 27 _ rfl; omega) rfl ?_
    refine ev_eqI (y := (sp_beh H L n)) ((by rw [va_up_n _ _ (by omega), show 160 * (4 * c + pt) + 160 - L + n % L = 160 * (4 * c + pt) + (160 - L + n % L) by omega]; exact hH _ (by omega))) ?_
    refine ev_istore 38 (lv' := [_, _, _, _, _, _, _, some (.int _), _, _, _]) dX12_pulses_36 (Nat.le_of_ble_eq_true rfl) rfl rfl ?_
    refine ev_aload_n 39 dX12_pulses_38 rfl rfl ?_
    refine ev_getP 42 mm_cl12 (j := 62) (Nat.le_of_ble_eq_true rfl) dX12_pulses_39 lk1347 (fun _ _ _ => rfl) (hM.1 0 _ rfl) (a := (m + 56)) (hM.2.2 55 _ _ _ rfl) rfl ?_
    refine ev_iload 44 dX12_pulses_42 rfl rfl ?_
    refine ev_aload_n 45 dX12_pulses_44 rfl rfl ?_
    refine ev_getP 48 mm_cl12 (j := 31) (Nat.le_of_ble_eq_true rfl) dX12_pulses_45 lk1316 (fun _ _ _ => rfl) (hM.1 0 _ rfl) (a := (m + 26)) (hM.2.2 25 _ _ _ rfl) rfl ?_
    refine ev_sipushN 51 320 dX12_pulses_48 (by decide +kernel) rfl ?_
    refine ev_iload_n 52 dX12_pulses_51 rfl rfl ?_
    refine ev_imulN 53 dX12_pulses_52 rfl ?_
    refine ev_iload_n 54 dX12_pulses_53 rfl rfl ?_
    refine ev_iload_n 55 dX12_pulses_54 rfl rfl ?_
    refine ev_imulN 56 dX12_pulses_55 rfl ?_
    refine ev_iaddN 57 dX12_pulses_56 rfl ?_
    refine ev_iload 59 dX12_pulses_57 rfl rfl ?_
    refine ev_iaddN 60 dX12_pulses_59 rfl ?_
    refine ev_iald 61 _ dX12_pulses_60 (hM.1 26 _ rfl) rfl (by have hNN := hM.2.1 26 _ rfl; omega) rfl ?_
    refine ev_eqI (y := (R n)) ((by rw [va_up_n _ _ (by omega)]; exact hR n (by omega))) ?_
    refine ev_iconstN 62 5 dX12_pulses_61 rfl ?_
    refine ev_iload 64 dX12_pulses_62 rfl rfl ?_
    refine ev_imul 65 dX12_pulses_64 rfl ?_
    refine ev_iload 67 dX12_pulses_65 rfl rfl ?_
    refine ev_imul 68 dX12_pulses_67 rfl ?_
    refine ev_iconstN 69 5 dX12_pulses_68 rfl ?_
    refine ev_ishr 70 dX12_pulses_69 rfl ?_
    refine ev_isub 71 dX12_pulses_70 rfl ?_
    refine ev_iast 72 _ dX12_pulses_71 (hM.1 56 _ rfl) rfl (by have hNN := hM.2.1 56 _ rfl; omega) rfl ?_
    refine ev_iincN 75 (lv' := [_, _, _, _, _, _, some (.int _), _, _, _, _]) 1 dX12_pulses_72 rfl (Nat.le_of_ble_eq_true rfl) rfl rfl ?_
    refine ev_goto 3 dX12_pulses_75 (by decide) ?_
    rw [va_up_s, bx_uu]
    refine ev_le (mle_s (mle_s (mle_s (mle_s (mle_s (mle_s (mle_s (mle_s (mle_n (mle_n (mle_n (mle_0)))))))))))) ?_
    exact e3
theorem lp_X12_pul2 {c pt sb L w q : Nat} {p : Int32} {U : Nat → Int32} {F K : Nat → Int64} {Z : mm_Z} (hM : lyM B P m) (hb : sb ≤ 80) (hq : q < sb) (hU : ∀ n, n < sb → I (m + 56) n = U n) (hF : F q = 0) (hK : K q = 0)
    (e : Ev g mX12_pulses 177 [some (.ref m), some (.int (nI c)), some (.int (nI pt)), some (.int (nI sb)), some (.int (nI L)), some (.int p), some (.int (nI w)), some (.int (nI q)), none, none, none] [] B I (va_up (va_up J (m + 59) (va_up F q (Int64.ofInt (sp_en sb q : Nat)))) (m + 60) (va_up K q (Int64.ofInt (sp_hz U sb q)))) P Z) :
    Ev g mX12_pulses 106 [some (.ref m), some (.int (nI c)), some (.int (nI pt)), some (.int (nI sb)), some (.int (nI L)), some (.int p), some (.int (nI w)), some (.int (nI q)), some (.int (nI 0)), none, none] [] B I (va_up (va_up J (m + 59) F) (m + 60) K) P Z := by
  have u1 : ∀ (F K : Nat → Int64) (w : Int64), va_up (va_up (va_up J (m + 59) F) (m + 60) K) (m + 59) (va_up (va_up (va_up J (m + 59) F) (m + 60) K (m + 59)) q w) = va_up (va_up J (m + 59) (va_up F q w)) (m + 60) K := fun F K w => by
    rw [va_up_n _ _ (by omega), va_up_s, va_3 J (a := m + 59) (b := m + 60) _ _ _ (by omega)]
  have u2 : ∀ (F K : Nat → Int64) (w : Int64), va_up (va_up (va_up J (m + 59) F) (m + 60) K) (m + 60) (va_up (va_up (va_up J (m + 59) F) (m + 60) K (m + 60)) q w) = va_up (va_up J (m + 59) F) (m + 60) (va_up K q w) := fun F K w => by
    rw [va_up_s, bx_uu]
  have r1 : ∀ (F K : Nat → Int64), va_up (va_up J (m + 59) F) (m + 60) K (m + 59) q = F q := fun F K => by rw [va_up_n _ _ (by omega), va_up_s]
  have r2 : ∀ (F K : Nat → Int64), va_up (va_up J (m + 59) F) (m + 60) K (m + 60) q = K q := fun F K => by rw [va_up_s]
  unfold sp_en sp_hz at e
  rw [Int64.ofInt_add, Int64.ofInt_add, ← sp_hJ.1] at e
  refine ev_iload 108 dX12_pulses_106 rfl rfl ?_
  refine ev_iconstN 109 3 dX12_pulses_108 rfl ?_
  refine ev_icmp_geN 112 177 dX12_pulses_109 (by decide) (by omega) (by omega) rfl (fun hx => absurd hx ((by omega))) (fun hbr => ?_)
  refine ev_iload 114 dX12_pulses_112 rfl rfl ?_
  refine ev_iload 116 dX12_pulses_114 rfl rfl ?_
  refine ev_iaddN 117 dX12_pulses_116 rfl ?_
  refine ev_iload_n 118 dX12_pulses_117 rfl rfl ?_
  refine ev_icmp_geN 121 177 dX12_pulses_118 (by decide) (by omega) (by omega) rfl (fun hx => absurd hx ((by omega))) (fun hbr => ?_)
  refine ev_aload_n 122 dX12_pulses_121 rfl rfl ?_
  refine ev_getP 125 mm_cl12 (j := 65) (Nat.le_of_ble_eq_true rfl) dX12_pulses_122 lk1350 (fun _ _ _ => rfl) (hM.1 0 _ rfl) (a := (m + 59)) (hM.2.2 58 _ _ _ rfl) rfl ?_
  refine ev_iload 127 dX12_pulses_125 rfl rfl ?_
  refine ev_dup2_11 128 dX12_pulses_127 rfl rfl rfl ?_
  refine ev_lald 129 _ dX12_pulses_128 (hM.1 59 _ rfl) rfl (by have hNN := hM.2.1 59 _ rfl; omega) rfl ?_
  refine ev_eqJ (y := (0)) (((r1 _ _).trans hF)) ?_
  refine ev_iload 131 dX12_pulses_129 rfl rfl ?_
  refine ev_invS 134 (Mc := mX12_pulse) ⟨lk1669, lk80, hdX12_pulse, (Nat.le_of_ble_eq_true rfl), (Nat.le_of_ble_eq_true rfl)⟩ lk1667 lk1668 dX12_pulses_131 (ct_X12_pulse (by omega)) rfl (Nat.le_of_ble_eq_true rfl) rfl rfl ?_
  refine ev_iload 136 dX12_pulses_134 rfl rfl ?_
  refine ev_invS 139 (Mc := mX12_pulse) ⟨lk1669, lk80, hdX12_pulse, (Nat.le_of_ble_eq_true rfl), (Nat.le_of_ble_eq_true rfl)⟩ lk1667 lk1668 dX12_pulses_136 (ct_X12_pulse (by omega)) rfl (Nat.le_of_ble_eq_true rfl) rfl rfl ?_
  refine ev_imul 140 dX12_pulses_139 rfl ?_
  refine ev_i2l 141 dX12_pulses_140 rfl ?_
  refine ev_ladd 142 dX12_pulses_141 rfl ?_
  refine ev_eqJ (y := (1024)) ((by decide +kernel)) ?_
  refine ev_last 143 _ dX12_pulses_142 (hM.1 59 _ rfl) rfl (by have hNN := hM.2.1 59 _ rfl; omega) rfl ?_
  rw [u1]
  refine ev_aload_n 144 dX12_pulses_143 rfl rfl ?_
  refine ev_getP 147 mm_cl12 (j := 66) (Nat.le_of_ble_eq_true rfl) dX12_pulses_144 lk1351 (fun _ _ _ => rfl) (hM.1 0 _ rfl) (a := (m + 60)) (hM.2.2 59 _ _ _ rfl) rfl ?_
  refine ev_iload 149 dX12_pulses_147 rfl rfl ?_
  refine ev_dup2_11 150 dX12_pulses_149 rfl rfl rfl ?_
  refine ev_lald 151 _ dX12_pulses_150 (hM.1 60 _ rfl) rfl (by have hNN := hM.2.1 60 _ rfl; omega) rfl ?_
  refine ev_eqJ (y := (0)) (((r2 _ _).trans hK)) ?_
  refine ev_iload 153 dX12_pulses_151 rfl rfl ?_
  refine ev_invS 156 (Mc := mX12_pulse) ⟨lk1669, lk80, hdX12_pulse, (Nat.le_of_ble_eq_true rfl), (Nat.le_of_ble_eq_true rfl)⟩ lk1667 lk1668 dX12_pulses_153 (ct_X12_pulse (by omega)) rfl (Nat.le_of_ble_eq_true rfl) rfl rfl ?_
  refine ev_i2l 157 dX12_pulses_156 rfl ?_
  refine ev_aload_n 158 dX12_pulses_157 rfl rfl ?_
  refine ev_getP 161 mm_cl12 (j := 62) (Nat.le_of_ble_eq_true rfl) dX12_pulses_158 lk1347 (fun _ _ _ => rfl) (hM.1 0 _ rfl) (a := (m + 56)) (hM.2.2 55 _ _ _ rfl) rfl ?_
  refine ev_iload 163 dX12_pulses_161 rfl rfl ?_
  refine ev_iload 165 dX12_pulses_163 rfl rfl ?_
  refine ev_iaddN 166 dX12_pulses_165 rfl ?_
  refine ev_iald 167 _ dX12_pulses_166 (hM.1 56 _ rfl) rfl (by have hNN := hM.2.1 56 _ rfl; omega) rfl ?_
  refine ev_eqI (y := (U q)) ((by rw [Nat.add_zero]; exact hU q hq)) ?_
  refine ev_i2l 168 dX12_pulses_167 rfl ?_
  refine ev_lmul 169 dX12_pulses_168 rfl ?_
  refine ev_ladd 170 dX12_pulses_169 rfl ?_
  refine ev_eqJ (y := ((sp_ph 0).toInt64 * (U q).toInt64)) ((Int64.zero_add _)) ?_
  refine ev_last 171 _ dX12_pulses_170 (hM.1 60 _ rfl) rfl (by have hNN := hM.2.1 60 _ rfl; omega) rfl ?_
  refine ev_iincN 174 (lv' := [_, _, _, _, _, _, _, some (.int _), _, _, _]) 1 dX12_pulses_171 rfl (Nat.le_of_ble_eq_true rfl) rfl rfl ?_
  refine ev_goto 106 dX12_pulses_174 (by decide) ?_
  rw [u2]
  refine ev_iload 108 dX12_pulses_106 rfl rfl ?_
  refine ev_iconstN 109 3 dX12_pulses_108 rfl ?_
  refine ev_icmp_geN 112 177 dX12_pulses_109 (by decide) (by omega) (by omega) rfl (fun hx => absurd hx ((by omega))) (fun hbr => ?_)
  refine ev_iload 114 dX12_pulses_112 rfl rfl ?_
  refine ev_iload 116 dX12_pulses_114 rfl rfl ?_
  refine ev_iaddN 117 dX12_pulses_116 rfl ?_
  refine ev_iload_n 118 dX12_pulses_117 rfl rfl ?_
  refine ev_icmp_geN 121 177 dX12_pulses_118 (by decide) (by omega) (by omega) rfl (fun c1 => ?_) (fun c1 => ?_)
  · rw [if_neg (show ¬ q + 2 < sb by omega), if_neg (by omega), if_neg (by omega), if_neg (by omega), show Int64.ofInt 0 = 0 from rfl, Int64.add_zero, Int64.add_zero] at e
    refine ev_le (mle_s (mle_s (mle_s (mle_s (mle_s (mle_s (mle_s (mle_s (mle_n (mle_n (mle_n (mle_0)))))))))))) ?_
    exact e
  · rw [if_pos (show q + 1 < sb by omega), if_pos (show q + 1 < sb by omega), ← sp_hJ.2.1] at e
    refine ev_aload_n 122 dX12_pulses_121 rfl rfl ?_
    refine ev_getP 125 mm_cl12 (j := 65) (Nat.le_of_ble_eq_true rfl) dX12_pulses_122 lk1350 (fun _ _ _ => rfl) (hM.1 0 _ rfl) (a := (m + 59)) (hM.2.2 58 _ _ _ rfl) rfl ?_
    refine ev_iload 127 dX12_pulses_125 rfl rfl ?_
    refine ev_dup2_11 128 dX12_pulses_127 rfl rfl rfl ?_
    refine ev_lald 129 _ dX12_pulses_128 (hM.1 59 _ rfl) rfl (by have hNN := hM.2.1 59 _ rfl; omega) rfl ?_
    refine ev_eqJ (y := (1024)) ((by rw [r1, va_up_s])) ?_
    refine ev_iload 131 dX12_pulses_129 rfl rfl ?_
    refine ev_invS 134 (Mc := mX12_pulse) ⟨lk1669, lk80, hdX12_pulse, (Nat.le_of_ble_eq_true rfl), (Nat.le_of_ble_eq_true rfl)⟩ lk1667 lk1668 dX12_pulses_131 (ct_X12_pulse (by omega)) rfl (Nat.le_of_ble_eq_true rfl) rfl rfl ?_
    refine ev_iload 136 dX12_pulses_134 rfl rfl ?_
    refine ev_invS 139 (Mc := mX12_pulse) ⟨lk1669, lk80, hdX12_pulse, (Nat.le_of_ble_eq_true rfl), (Nat.le_of_ble_eq_true rfl)⟩ lk1667 lk1668 dX12_pulses_136 (ct_X12_pulse (by omega)) rfl (Nat.le_of_ble_eq_true rfl) rfl rfl ?_
    refine ev_imul 140 dX12_pulses_139 rfl ?_
    refine ev_i2l 141 dX12_pulses_140 rfl ?_
    refine ev_ladd 142 dX12_pulses_141 rfl ?_
    refine ev_eqJ (y := (1280)) ((by decide +kernel)) ?_
    refine ev_last 143 _ dX12_pulses_142 (hM.1 59 _ rfl) rfl (by have hNN := hM.2.1 59 _ rfl; omega) rfl ?_
    rw [u1, bx_uu]
    refine ev_aload_n 144 dX12_pulses_143 rfl rfl ?_
    refine ev_getP 147 mm_cl12 (j := 66) (Nat.le_of_ble_eq_true rfl) dX12_pulses_144 lk1351 (fun _ _ _ => rfl) (hM.1 0 _ rfl) (a := (m + 60)) (hM.2.2 59 _ _ _ rfl) rfl ?_
    refine ev_iload 149 dX12_pulses_147 rfl rfl ?_
    refine ev_dup2_11 150 dX12_pulses_149 rfl rfl rfl ?_
    refine ev_lald 151 _ dX12_pulses_150 (hM.1 60 _ rfl) rfl (by have hNN := hM.2.1 60 _ rfl; omega) rfl ?_
    refine ev_eqJ (y := ((sp_ph 0).toInt64 * (U q).toInt64)) ((by rw [r2, va_up_s])) ?_
    refine ev_iload 153 dX12_pulses_151 rfl rfl ?_
    refine ev_invS 156 (Mc := mX12_pulse) ⟨lk1669, lk80, hdX12_pulse, (Nat.le_of_ble_eq_true rfl), (Nat.le_of_ble_eq_true rfl)⟩ lk1667 lk1668 dX12_pulses_153 (ct_X12_pulse (by omega)) rfl (Nat.le_of_ble_eq_true rfl) rfl rfl ?_
    refine ev_i2l 157 dX12_pulses_156 rfl ?_
    refine ev_aload_n 158 dX12_pulses_157 rfl rfl ?_
    refine ev_getP 161 mm_cl12 (j := 62) (Nat.le_of_ble_eq_true rfl) dX12_pulses_158 lk1347 (fun _ _ _ => rfl) (hM.1 0 _ rfl) (a := (m + 56)) (hM.2.2 55 _ _ _ rfl) rfl ?_
    refine ev_iload 163 dX12_pulses_161 rfl rfl ?_
    refine ev_iload 165 dX12_pulses_163 rfl rfl ?_
    refine ev_iaddN 166 dX12_pulses_165 rfl ?_
    refine ev_iald 167 _ dX12_pulses_166 (hM.1 56 _ rfl) rfl (by have hNN := hM.2.1 56 _ rfl; omega) rfl ?_
    refine ev_eqI (y := (U (q + 1))) ((hU (q + 1) (by omega))) ?_
    refine ev_i2l 168 dX12_pulses_167 rfl ?_
    refine ev_lmul 169 dX12_pulses_168 rfl ?_
    refine ev_ladd 170 dX12_pulses_169 rfl ?_
    refine ev_last 171 _ dX12_pulses_170 (hM.1 60 _ rfl) rfl (by have hNN := hM.2.1 60 _ rfl; omega) rfl ?_
    refine ev_iincN 174 (lv' := [_, _, _, _, _, _, _, some (.int _), _, _, _]) 1 dX12_pulses_171 rfl (Nat.le_of_ble_eq_true rfl) rfl rfl ?_
    refine ev_goto 106 dX12_pulses_174 (by decide) ?_
    rw [u2, bx_uu]
    refine ev_iload 108 dX12_pulses_106 rfl rfl ?_
    refine ev_iconstN 109 3 dX12_pulses_108 rfl ?_
    refine ev_icmp_geN 112 177 dX12_pulses_109 (by decide) (by omega) (by omega) rfl (fun hx => absurd hx ((by omega))) (fun hbr => ?_)
    refine ev_iload 114 dX12_pulses_112 rfl rfl ?_
    refine ev_iload 116 dX12_pulses_114 rfl rfl ?_
    refine ev_iaddN 117 dX12_pulses_116 rfl ?_
    refine ev_iload_n 118 dX12_pulses_117 rfl rfl ?_
    refine ev_icmp_geN 121 177 dX12_pulses_118 (by decide) (by omega) (by omega) rfl (fun c2 => ?_) (fun c2 => ?_)
    · rw [if_neg (by omega), if_neg (by omega), show Int64.ofInt 0 = 0 from rfl, Int64.add_zero] at e
      refine ev_le (mle_s (mle_s (mle_s (mle_s (mle_s (mle_s (mle_s (mle_s (mle_n (mle_n (mle_n (mle_0)))))))))))) ?_
      exact e
    · rw [if_pos (by omega), if_pos (by omega), ← sp_hJ.2.2] at e
      refine ev_aload_n 122 dX12_pulses_121 rfl rfl ?_
      refine ev_getP 125 mm_cl12 (j := 65) (Nat.le_of_ble_eq_true rfl) dX12_pulses_122 lk1350 (fun _ _ _ => rfl) (hM.1 0 _ rfl) (a := (m + 59)) (hM.2.2 58 _ _ _ rfl) rfl ?_
      refine ev_iload 127 dX12_pulses_125 rfl rfl ?_
      refine ev_dup2_11 128 dX12_pulses_127 rfl rfl rfl ?_
      refine ev_lald 129 _ dX12_pulses_128 (hM.1 59 _ rfl) rfl (by have hNN := hM.2.1 59 _ rfl; omega) rfl ?_
      refine ev_eqJ (y := (1280)) ((by rw [r1, va_up_s])) ?_
      refine ev_iload 131 dX12_pulses_129 rfl rfl ?_
      refine ev_invS 134 (Mc := mX12_pulse) ⟨lk1669, lk80, hdX12_pulse, (Nat.le_of_ble_eq_true rfl), (Nat.le_of_ble_eq_true rfl)⟩ lk1667 lk1668 dX12_pulses_131 (ct_X12_pulse (by omega)) rfl (Nat.le_of_ble_eq_true rfl) rfl rfl ?_
      refine ev_iload 136 dX12_pulses_134 rfl rfl ?_
      refine ev_invS 139 (Mc := mX12_pulse) ⟨lk1669, lk80, hdX12_pulse, (Nat.le_of_ble_eq_true rfl), (Nat.le_of_ble_eq_true rfl)⟩ lk1667 lk1668 dX12_pulses_136 (ct_X12_pulse (by omega)) rfl (Nat.le_of_ble_eq_true rfl) rfl rfl ?_
      refine ev_imul 140 dX12_pulses_139 rfl ?_
      refine ev_i2l 141 dX12_pulses_140 rfl ?_
      refine ev_ladd 142 dX12_pulses_141 rfl ?_
      refine ev_eqJ (y := (1344)) ((by decide +kernel)) ?_
      refine ev_last 143 _ dX12_pulses_142 (hM.1 59 _ rfl) rfl (by have hNN := hM.2.1 59 _ rfl; omega) rfl ?_
      rw [u1, bx_uu]
      refine ev_aload_n 144 dX12_pulses_143 rfl rfl ?_
      refine ev_getP 147 mm_cl12 (j := 66) (Nat.le_of_ble_eq_true rfl) dX12_pulses_144 lk1351 (fun _ _ _ => rfl) (hM.1 0 _ rfl) (a := (m + 60)) (hM.2.2 59 _ _ _ rfl) rfl ?_
      refine ev_iload 149 dX12_pulses_147 rfl rfl ?_
      refine ev_dup2_11 150 dX12_pulses_149 rfl rfl rfl ?_
      refine ev_lald 151 _ dX12_pulses_150 (hM.1 60 _ rfl) rfl (by have hNN := hM.2.1 60 _ rfl; omega) rfl ?_
      refine ev_eqJ (y := ((sp_ph 0).toInt64 * (U q).toInt64 + (sp_ph 1).toInt64 * (U (q + 1)).toInt64)) ((by rw [r2, va_up_s])) ?_
      refine ev_iload 153 dX12_pulses_151 rfl rfl ?_
      refine ev_invS 156 (Mc := mX12_pulse) ⟨lk1669, lk80, hdX12_pulse, (Nat.le_of_ble_eq_true rfl), (Nat.le_of_ble_eq_true rfl)⟩ lk1667 lk1668 dX12_pulses_153 (ct_X12_pulse (by omega)) rfl (Nat.le_of_ble_eq_true rfl) rfl rfl ?_
      refine ev_i2l 157 dX12_pulses_156 rfl ?_
      refine ev_aload_n 158 dX12_pulses_157 rfl rfl ?_
      refine ev_getP 161 mm_cl12 (j := 62) (Nat.le_of_ble_eq_true rfl) dX12_pulses_158 lk1347 (fun _ _ _ => rfl) (hM.1 0 _ rfl) (a := (m + 56)) (hM.2.2 55 _ _ _ rfl) rfl ?_
      refine ev_iload 163 dX12_pulses_161 rfl rfl ?_
      refine ev_iload 165 dX12_pulses_163 rfl rfl ?_
      refine ev_iaddN 166 dX12_pulses_165 rfl ?_
      refine ev_iald 167 _ dX12_pulses_166 (hM.1 56 _ rfl) rfl (by have hNN := hM.2.1 56 _ rfl; omega) rfl ?_
      refine ev_eqI (y := (U (q + 2))) ((hU (q + 2) (by omega))) ?_
      refine ev_i2l 168 dX12_pulses_167 rfl ?_
      refine ev_lmul 169 dX12_pulses_168 rfl ?_
      refine ev_ladd 170 dX12_pulses_169 rfl ?_
      refine ev_last 171 _ dX12_pulses_170 (hM.1 60 _ rfl) rfl (by have hNN := hM.2.1 60 _ rfl; omega) rfl ?_
      refine ev_iincN 174 (lv' := [_, _, _, _, _, _, _, some (.int _), _, _, _]) 1 dX12_pulses_171 rfl (Nat.le_of_ble_eq_true rfl) rfl rfl ?_
      refine ev_goto 106 dX12_pulses_174 (by decide) ?_
      rw [u2, bx_uu]
      refine ev_iload 108 dX12_pulses_106 rfl rfl ?_
      refine ev_iconstN 109 3 dX12_pulses_108 rfl ?_
      refine ev_icmp_geN 112 177 dX12_pulses_109 (by decide) (by omega) (by omega) rfl (fun hbr => ?_) (fun hx => absurd ((by omega)) hx)
      refine ev_le (mle_s (mle_s (mle_s (mle_s (mle_s (mle_s (mle_s (mle_s (mle_n (mle_n (mle_n (mle_0)))))))))))) ?_
      exact e
theorem lx_X12_pul3 {c pt sb L w : Nat} {p : Int32} {U : Nat → Int32} (hM : lyM B P m) (hb : sb ≤ 80) (hU : ∀ n, n < sb → I (m + 56) n = U n) : ∀ (d q : Nat), q + d = sb → ∀ (F K : Nat → Int64), (∀ n, n < q → F n = Int64.ofInt (sp_en sb n : Nat) ∧ K n = Int64.ofInt (sp_hz U sb n)) →
    ∃ F' K' : Nat → Int64, (∀ n, n < sb → F' n = Int64.ofInt (sp_en sb n : Nat) ∧ K' n = Int64.ofInt (sp_hz U sb n)) ∧ ∀ Z : mm_Z, Ev g mX12_pulses 183 [some (.ref m), some (.int (nI c)), some (.int (nI pt)), some (.int (nI sb)), some (.int (nI L)), some (.int p), some (.int (nI w)), none, none, none, none] [] B I (va_up (va_up J (m + 59) F') (m + 60) K') P Z → Ev g mX12_pulses 81 [some (.ref m), some (.int (nI c)), some (.int (nI pt)), some (.int (nI sb)), some (.int (nI L)), some (.int p), some (.int (nI w)), some (.int (nI q)), none, none, none] [] B I (va_up (va_up J (m + 59) F) (m + 60) K) P Z := by
  intro d
  induction d with
  | zero =>
    intro q hq F K h
    obtain rfl : q = sb := by omega
    refine ⟨F, K, h, fun Z e => ?_⟩
    refine ev_iload 83 dX12_pulses_81 rfl rfl ?_
    refine ev_iload_n 84 dX12_pulses_83 rfl rfl ?_
    refine ev_icmp_geN 87 183 dX12_pulses_84 (by decide) (by omega) (by omega) rfl (fun hbr => ?_) (fun hx => absurd ((by omega)) hx)
    refine ev_le (mle_s (mle_s (mle_s (mle_s (mle_s (mle_s (mle_s (mle_n (mle_n (mle_n (mle_n (mle_0)))))))))))) ?_
    exact e
  | succ d ih =>
    intro q hq F K h
    obtain ⟨F', K', h1, h2⟩ := ih (q + 1) (by omega) (va_up F q (Int64.ofInt (sp_en sb q : Nat))) (va_up K q (Int64.ofInt (sp_hz U sb q))) (fun n hn => by
      by_cases k : n = q
      · subst k; rw [va_up_s, va_up_s]; exact ⟨rfl, rfl⟩
      · rw [va_up_n _ _ k, va_up_n _ _ k]; exact h n (by omega))
    refine ⟨F', K', h1, fun Z e => ?_⟩
    have e2 := h2 Z e
    refine ev_iload 83 dX12_pulses_81 rfl rfl ?_
    refine ev_iload_n 84 dX12_pulses_83 rfl rfl ?_
    refine ev_icmp_geN 87 183 dX12_pulses_84 (by decide) (by omega) (by omega) rfl (fun hx => absurd hx ((by omega))) (fun hbr => ?_)
    refine ev_aload_n 88 dX12_pulses_87 rfl rfl ?_
    refine ev_getP 91 mm_cl12 (j := 65) (Nat.le_of_ble_eq_true rfl) dX12_pulses_88 lk1350 (fun _ _ _ => rfl) (hM.1 0 _ rfl) (a := (m + 59)) (hM.2.2 58 _ _ _ rfl) rfl ?_
    refine ev_iload 93 dX12_pulses_91 rfl rfl ?_
    refine ev_lconst 94 (v := 0) dX12_pulses_93 (by decide +kernel) rfl ?_
    refine ev_last 95 _ dX12_pulses_94 (hM.1 59 _ rfl) rfl (by have hNN := hM.2.1 59 _ rfl; omega) rfl ?_
    rw [va_3 J (a := m + 59) (b := m + 60) _ _ _ (by omega), va_up_n _ _ (show m + 59 ≠ m + 60 by omega), va_up_s]
    refine ev_aload_n 96 dX12_pulses_95 rfl rfl ?_
    refine ev_getP 99 mm_cl12 (j := 66) (Nat.le_of_ble_eq_true rfl) dX12_pulses_96 lk1351 (fun _ _ _ => rfl) (hM.1 0 _ rfl) (a := (m + 60)) (hM.2.2 59 _ _ _ rfl) rfl ?_
    refine ev_iload 101 dX12_pulses_99 rfl rfl ?_
    refine ev_lconst 102 (v := 0) dX12_pulses_101 (by decide +kernel) rfl ?_
    refine ev_last 103 _ dX12_pulses_102 (hM.1 60 _ rfl) rfl (by have hNN := hM.2.1 60 _ rfl; omega) rfl ?_
    refine ev_iconstN 104 0 dX12_pulses_103 rfl ?_
    refine ev_istore 106 (lv' := [_, _, _, _, _, _, _, some (.int _), _, _, _]) dX12_pulses_104 (Nat.le_of_ble_eq_true rfl) rfl rfl ?_
    rw [va_up_s, bx_uu]
    refine lp_X12_pul2 hM hb (by omega) hU (va_up_s _ _ _) (va_up_s _ _ _) ?_
    rw [bx_uu, bx_uu]
    refine ev_iincN 180 (lv' := [_, _, _, _, _, _, some (.int _), _, _, _, _]) 1 dX12_pulses_177 rfl (Nat.le_of_ble_eq_true rfl) rfl rfl ?_
    refine ev_goto 81 dX12_pulses_180 (by decide) ?_
    exact e2
/-- one pair -/
theorem lp_X12_pul4 {c pt sb L w q sg r ot : Nat} {p : Int32} {hz : Nat → Int} {t : sp_Q × sp_V × sp_V} {T : sp_Q × sp_V} {F : Nat → Int32} {Q : Nat → Int64} {Z : mm_Z} (hM : lyM B P m) (hb : sb ≤ 80) (hq : q < sb) (hq2 : q % 2 = 0) (hr : r < sb) (hr2 : r % 2 = 1) (hsg : sg ≤ 1) (hot : ot ≤ 1) (hzb : sp_zb hz)
    (hE : ∀ n, n < sb → J (m + 59) n = Int64.ofInt (sp_en sb n : Nat)) (hH : ∀ n, n < sb → J (m + 60) n = Int64.ofInt (hz n)) (hok : sp_ok T.1) (hch : sp_ch t.1 T.1)
    (K : Ev g mX12_pulses 225 [some (.ref m), some (.int (nI c)), some (.int (nI pt)), some (.int (nI sb)), some (.int (nI L)), some (.int p), some (.int (nI w)), some (.int (nI q)), some (.int (nI sg)), some (.int (nI r)), some (.int (nI (ot + 1)))] [] B (va_up I m (mF (mO (mE F (if (sp_o1 (sp_pe sb q sg r ot) (sp_pd hz q sg r ot) (r, ot) T).1 = t.1 then t.2.2 else some (q, sg))) (sp_o1 (sp_pe sb q sg r ot) (sp_pd hz q sg r ot) (r, ot) T).2) (sp_o1 (sp_pe sb q sg r ot) (sp_pd hz q sg r ot) (r, ot) T).1)) (va_up J m (va_up Q 70 (Int64.ofInt (mZ (sp_o1 (sp_pe sb q sg r ot) (sp_pd hz q sg r ot) (r, ot) T).1)))) P Z) :
    Ev g mX12_pulses 225 [some (.ref m), some (.int (nI c)), some (.int (nI pt)), some (.int (nI sb)), some (.int (nI L)), some (.int p), some (.int (nI w)), some (.int (nI q)), some (.int (nI sg)), some (.int (nI r)), some (.int (nI ot))] [] B (va_up I m (mF (mO (mE F (if T.1 = t.1 then t.2.2 else some (q, sg))) T.2) T.1)) (va_up J m (va_up Q 70 (Int64.ofInt (mZ T.1)))) P Z := by
  have ct := ct_X12_tryPair (g := g) (I := I) (J := J) (P := P) (hz := hz) (s := T.1) (F := mO (mE F (if T.1 = t.1 then t.2.2 else some (q, sg))) T.2) (Q := Q) (sg := sg) (ot := ot) hM hb hq hr (by omega) (by omega) (by omega) hsg hot hE hH hzb hok
  rw [show (sp_o1 (sp_pe sb q sg r ot) (sp_pd hz q sg r ot) (r, ot) T).1 = sp_bs (sp_pe sb q sg r ot) (sp_pd hz q sg r ot) T.1 52 from rfl, show (sp_o1 (sp_pe sb q sg r ot) (sp_pd hz q sg r ot) (r, ot) T).2 = (if sp_bs (sp_pe sb q sg r ot) (sp_pd hz q sg r ot) T.1 52 = T.1 then T.2 else some (r, ot)) from rfl] at K
  have hch2 := sp_ch_bs (e := sp_pe sb q sg r ot) (d := sp_pd hz q sg r ot) (s := T.1) 52
  generalize hs' : sp_bs (sp_pe sb q sg r ot) (sp_pd hz q sg r ot) T.1 52 = s' at K ct hch2
  refine ev_iload 227 dX12_pulses_225 rfl rfl ?_
  refine ev_iconstN 228 2 dX12_pulses_227 rfl ?_
  refine ev_icmp_geN 231 277 dX12_pulses_228 (by decide) (by omega) (by omega) rfl (fun hx => absurd hx ((by omega))) (fun hbr => ?_)
  refine ev_aload_n 232 dX12_pulses_231 rfl rfl ?_
  refine ev_iload 234 dX12_pulses_232 rfl rfl ?_
  refine ev_iload 236 dX12_pulses_234 rfl rfl ?_
  refine ev_iload 238 dX12_pulses_236 rfl rfl ?_
  refine ev_iload 240 dX12_pulses_238 rfl rfl ?_
  refine ev_iload_n 241 dX12_pulses_240 rfl rfl ?_
  refine ev_invV 244 (Mc := mX12_tryPair) ⟨lk1673, lk80, hdX12_tryPair, (Nat.le_of_ble_eq_true rfl), (Nat.le_of_ble_eq_true rfl)⟩ lk1670 lk1672 lk55 mm_cl12 rfl dX12_pulses_241 (ct) rfl (hM.1 0 _ rfl) (Nat.le_of_ble_eq_true rfl) rfl rfl ?_
  by_cases k : s' = T.1
  · rw [if_pos k] at K
    rw [show sp_im T.1 s' = 0 by unfold sp_im; rw [if_pos k.symm], show (if T.1 = t.1 then t.2.2 else some (q, sg)) = (if s' = t.1 then t.2.2 else some (q, sg)) by rw [k]]
    refine ev_if_eqN 247 271 dX12_pulses_244 (by decide) (by omega) rfl (fun hbr => ?_) (fun hx => absurd (rfl) hx)
    refine ev_iincN 274 (lv' := [_, _, _, _, _, _, _, _, _, some (.int _), _]) 1 dX12_pulses_271 rfl (Nat.le_of_ble_eq_true rfl) rfl rfl ?_
    refine ev_goto 225 dX12_pulses_274 (by decide) ?_
    exact K
  · rw [if_neg k, if_neg (sp_ch_ne hch hch2 k), ← mO_up (v := T.2), ← mE_up (v := if T.1 = t.1 then t.2.2 else some (q, sg))] at K
    rw [show sp_im T.1 s' = 1 by unfold sp_im; rw [if_neg (fun z => k z.symm)]]
    refine ev_if_eqN 247 271 dX12_pulses_244 (by decide) (by omega) rfl (fun hx => absurd hx ((by omega))) (fun hbr => ?_)
    refine ev_aload_n 248 dX12_pulses_247 rfl rfl ?_
    refine ev_iload 250 dX12_pulses_248 rfl rfl ?_
    refine ev_putI 253 mm_cl12 (j := 73) (Nat.le_of_ble_eq_true rfl) dX12_pulses_250 lk1358 rfl (fun _ _ _ => rfl) rfl rfl (hM.1 0 _ rfl) rfl ?_
    refine ev_aload_n 254 dX12_pulses_253 rfl rfl ?_
    refine ev_iload 256 dX12_pulses_254 rfl rfl ?_
    refine ev_putI 259 mm_cl12 (j := 74) (Nat.le_of_ble_eq_true rfl) dX12_pulses_256 lk1359 rfl (fun _ _ _ => rfl) rfl rfl (hM.1 0 _ rfl) rfl ?_
    refine ev_aload_n 260 dX12_pulses_259 rfl rfl ?_
    refine ev_iload 262 dX12_pulses_260 rfl rfl ?_
    refine ev_putI 265 mm_cl12 (j := 75) (Nat.le_of_ble_eq_true rfl) dX12_pulses_262 lk1360 rfl (fun _ _ _ => rfl) rfl rfl (hM.1 0 _ rfl) rfl ?_
    refine ev_aload_n 266 dX12_pulses_265 rfl rfl ?_
    refine ev_iload 268 dX12_pulses_266 rfl rfl ?_
    refine ev_putI 271 mm_cl12 (j := 76) (Nat.le_of_ble_eq_true rfl) dX12_pulses_268 lk1361 rfl (fun _ _ _ => rfl) rfl rfl (hM.1 0 _ rfl) rfl ?_
    refine ev_iincN 274 (lv' := [_, _, _, _, _, _, _, _, _, some (.int _), _]) 1 dX12_pulses_271 rfl (Nat.le_of_ble_eq_true rfl) rfl rfl ?_
    refine ev_goto 225 dX12_pulses_274 (by decide) ?_
    simp only [va_up_s, bx_uu]
    rw [mF_c (by omega), mF_c (by omega), mF_c (by omega), mF_c (by omega), mO_c (by omega) (by omega), mO_c (by omega) (by omega)]
    exact K
theorem lp_X12_pul5 {c pt sb L w q sg : Nat} {p : Int32} {hz : Nat → Int} {t : sp_Q × sp_V × sp_V} {F : Nat → Int32} {Q : Nat → Int64} {Z : mm_Z} (hM : lyM B P m) (hb : sb ≤ 80) (hb2 : sb % 2 = 0) (hq : q < sb) (hq2 : q % 2 = 0) (hsg : sg ≤ 1) (hzb : sp_zb hz)
    (hE : ∀ n, n < sb → J (m + 59) n = Int64.ofInt (sp_en sb n : Nat)) (hH : ∀ n, n < sb → J (m + 60) n = Int64.ofInt (hz n)) (hok : sp_ok t.1)
    (K : Ev g mX12_pulses 207 [some (.ref m), some (.int (nI c)), some (.int (nI pt)), some (.int (nI sb)), some (.int (nI L)), some (.int p), some (.int (nI w)), some (.int (nI q)), some (.int (nI (sg + 1))), none, none] [] B (va_up I m (mF (mO (mE F (sp_q1 sb hz q sg t).2.2) (sp_q1 sb hz q sg t).2.1) (sp_q1 sb hz q sg t).1)) (va_up J m (va_up Q 70 (Int64.ofInt (mZ (sp_q1 sb hz q sg t).1)))) P Z) : ∀ (d k : Nat), k + d = sb / 2 →
    Ev g mX12_pulses 216 [some (.ref m), some (.int (nI c)), some (.int (nI pt)), some (.int (nI sb)), some (.int (nI L)), some (.int p), some (.int (nI w)), some (.int (nI q)), some (.int (nI sg)), some (.int (nI (2 * k + 1))), none] [] B (va_up I m (mF (mO (mE F (if (sp_os sb hz q sg (t.1, t.2.1) k).1 = t.1 then t.2.2 else some (q, sg))) (sp_os sb hz q sg (t.1, t.2.1) k).2) (sp_os sb hz q sg (t.1, t.2.1) k).1)) (va_up J m (va_up Q 70 (Int64.ofInt (mZ (sp_os sb hz q sg (t.1, t.2.1) k).1)))) P Z := by
  intro d
  induction d with
  | zero =>
    intro k hk
    obtain rfl : k = sb / 2 := by omega
    unfold sp_q1 at K
    refine ev_iload 218 dX12_pulses_216 rfl rfl ?_
    refine ev_iload_n 219 dX12_pulses_218 rfl rfl ?_
    refine ev_icmp_geN 222 283 dX12_pulses_219 (by decide) (by omega) (by omega) rfl (fun hbr => ?_) (fun hx => absurd ((by omega)) hx)
    refine ev_iincN 286 (lv' := [_, _, _, _, _, _, _, some (.int _), _, _, _]) 1 dX12_pulses_283 rfl (Nat.le_of_ble_eq_true rfl) rfl rfl ?_
    refine ev_goto 207 dX12_pulses_286 (by decide) ?_
    refine ev_le (mle_s (mle_s (mle_s (mle_s (mle_s (mle_s (mle_s (mle_s (mle_s (mle_n (mle_n (mle_0)))))))))))) ?_
    exact K
  | succ d ih =>
    intro k hk
    have e := ih (k + 1) (by omega)
    have k1 := sp_ok_os (sg := sg) (t := (t.1, t.2.1)) hzb hq hq2 hok k (by omega)
    have c1 := sp_ch_os (sb := sb) (hz := hz) (q := q) (sg := sg) (t := (t.1, t.2.1)) k
    have k2 := sp_ok_o1 (sg := sg) (ot := 0) (pl := (2 * k + 1, 0)) hzb hq (show 2 * k + 1 < sb by omega) (by omega) k1
    have c2 := sp_ch_t c1 (sp_ch_bs (e := sp_pe sb q sg (2 * k + 1) 0) (d := sp_pd hz q sg (2 * k + 1) 0) 52)
    rw [show sp_os sb hz q sg (t.1, t.2.1) (k + 1) = sp_o1 (sp_pe sb q sg (2 * k + 1) 1) (sp_pd hz q sg (2 * k + 1) 1) (2 * k + 1, 1) (sp_o1 (sp_pe sb q sg (2 * k + 1) 0) (sp_pd hz q sg (2 * k + 1) 0) (2 * k + 1, 0) (sp_os sb hz q sg (t.1, t.2.1) k)) from rfl] at e
    generalize hT : sp_os sb hz q sg (t.1, t.2.1) k = T at e k1 c1 k2 c2 ⊢
    refine ev_iload 218 dX12_pulses_216 rfl rfl ?_
    refine ev_iload_n 219 dX12_pulses_218 rfl rfl ?_
    refine ev_icmp_geN 222 283 dX12_pulses_219 (by decide) (by omega) (by omega) rfl (fun hx => absurd hx ((by omega))) (fun hbr => ?_)
    refine ev_iconstN 223 0 dX12_pulses_222 rfl ?_
    refine ev_istore 225 (lv' := [_, _, _, _, _, _, _, _, _, some (.int _), _]) dX12_pulses_223 (Nat.le_of_ble_eq_true rfl) rfl rfl ?_
    refine lp_X12_pul4 hM hb hq hq2 (by omega) (by omega) hsg (by omega) hzb hE hH k1 c1 ?_
    generalize hT1 : sp_o1 (sp_pe sb q sg (2 * k + 1) 0) (sp_pd hz q sg (2 * k + 1) 0) (2 * k + 1, 0) T = T1 at e k2
    have c3 : sp_ch t.1 T1.1 := by rw [← hT1]; exact c2
    refine lp_X12_pul4 hM hb hq hq2 (by omega) (by omega) hsg (by omega) hzb hE hH k2 c3 ?_
    generalize sp_o1 (sp_pe sb q sg (2 * k + 1) 1) (sp_pd hz q sg (2 * k + 1) 1) (2 * k + 1, 1) T1 = T2 at e
    refine ev_iload 227 dX12_pulses_225 rfl rfl ?_
    refine ev_iconstN 228 2 dX12_pulses_227 rfl ?_
    refine ev_icmp_geN 231 277 dX12_pulses_228 (by decide) (by omega) (by omega) rfl (fun hbr => ?_) (fun hx => absurd ((by omega)) hx)
    refine ev_iincN 280 (lv' := [_, _, _, _, _, _, _, _, some (.int _), _, _]) 2 dX12_pulses_277 rfl (Nat.le_of_ble_eq_true rfl) rfl rfl ?_
    refine ev_goto 216 dX12_pulses_280 (by decide) ?_
    refine ev_le (mle_s (mle_s (mle_s (mle_s (mle_s (mle_s (mle_s (mle_s (mle_s (mle_s (mle_n (mle_0)))))))))))) ?_
    rw [show 2 * k + 1 + 2 = 2 * (k + 1) + 1 by omega]
    exact e
theorem lp_X12_pul6 {c pt sb L w : Nat} {p : Int32} {hz : Nat → Int} {t : sp_Q × sp_V × sp_V} {F : Nat → Int32} {Q : Nat → Int64} (hM : lyM B P m) (hb : sb ≤ 80) (hb2 : sb % 2 = 0) (hzb : sp_zb hz)
    (hE : ∀ n, n < sb → J (m + 59) n = Int64.ofInt (sp_en sb n : Nat)) (hH : ∀ n, n < sb → J (m + 60) n = Int64.ofInt (hz n)) (hok : sp_ok t.1) : ∀ (d k : Nat), k + d = sb / 2 →
    Ev g mX12_pulses 198 [some (.ref m), some (.int (nI c)), some (.int (nI pt)), some (.int (nI sb)), some (.int (nI L)), some (.int p), some (.int (nI w)), some (.int (nI (2 * k))), none, none, none] [] B (va_up I m (mF (mO (mE F (sp_qs sb hz t k).2.2) (sp_qs sb hz t k).2.1) (sp_qs sb hz t k).1)) (va_up J m (va_up Q 70 (Int64.ofInt (mZ (sp_qs sb hz t k).1)))) P
      (none, B, va_up I m (mF (mO (mE F (sp_qs sb hz t (sb / 2)).2.2) (sp_qs sb hz t (sb / 2)).2.1) (sp_qs sb hz t (sb / 2)).1), va_up J m (va_up Q 70 (Int64.ofInt (mZ (sp_qs sb hz t (sb / 2)).1))), P) := by
  intro d
  induction d with
  | zero =>
    intro k hk
    obtain rfl : k = sb / 2 := by omega
    generalize sp_qs sb hz t (sb / 2) = T
    refine ev_iload 200 dX12_pulses_198 rfl rfl ?_
    refine ev_iload_n 201 dX12_pulses_200 rfl rfl ?_
    refine ev_icmp_geN 204 295 dX12_pulses_201 (by decide) (by omega) (by omega) rfl (fun hbr => ?_) (fun hx => absurd ((by omega)) hx)
    exact ev_vret dX12_pulses_295 rfl (rfl)
  | succ d ih =>
    intro k hk
    have e := ih (k + 1) (by omega)
    have k1 := sp_ok_qs (sb := sb) hzb hok k (by omega)
    have k2 := sp_ok_q1 (sb := sb) (q := 2 * k) (sg := 0) hzb (by omega) (by omega) k1
    generalize hZ : sp_qs sb hz t (sb / 2) = SZ at e ⊢
    rw [show sp_qs sb hz t (k + 1) = sp_q1 sb hz (2 * k) 1 (sp_q1 sb hz (2 * k) 0 (sp_qs sb hz t k)) from rfl] at e
    generalize hT : sp_qs sb hz t k = T at e k1 k2 ⊢
    refine ev_iload 200 dX12_pulses_198 rfl rfl ?_
    refine ev_iload_n 201 dX12_pulses_200 rfl rfl ?_
    refine ev_icmp_geN 204 295 dX12_pulses_201 (by decide) (by omega) (by omega) rfl (fun hx => absurd hx ((by omega))) (fun hbr => ?_)
    refine ev_iconstN 205 0 dX12_pulses_204 rfl ?_
    refine ev_istore 207 (lv' := [_, _, _, _, _, _, _, some (.int _), _, _, _]) dX12_pulses_205 (Nat.le_of_ble_eq_true rfl) rfl rfl ?_
    refine ev_iload 209 dX12_pulses_207 rfl rfl ?_
    refine ev_iconstN 210 2 dX12_pulses_209 rfl ?_
    refine ev_icmp_geN 213 289 dX12_pulses_210 (by decide) (by omega) (by omega) rfl (fun hx => absurd hx ((by omega))) (fun hbr => ?_)
    refine ev_iconstN 214 1 dX12_pulses_213 rfl ?_
    refine ev_istore 216 (lv' := [_, _, _, _, _, _, _, _, some (.int _), _, _]) dX12_pulses_214 (Nat.le_of_ble_eq_true rfl) rfl rfl ?_
    have e0 := lp_X12_pul5 (g := g) (I := I) (J := J) (P := P) (c := c) (pt := pt) (L := L) (w := w) (p := p) (t := T) (F := F) (Q := Q) (sg := 0) (q := 2 * k) (Z := (none, B, va_up I m (mF (mO (mE F SZ.2.2) SZ.2.1) SZ.1), va_up J m (va_up Q 70 (Int64.ofInt (mZ SZ.1))), P)) hM hb hb2 (by omega) (by omega) (by omega) hzb hE hH k1 ?_ (sb / 2) 0 (by omega)
    · rw [show sp_os sb hz (2 * k) 0 (T.1, T.2.1) 0 = (T.1, T.2.1) from rfl, if_pos rfl] at e0
      exact e0
    generalize hT1 : sp_q1 sb hz (2 * k) 0 T = T1 at e k2
    refine ev_iload 209 dX12_pulses_207 rfl rfl ?_
    refine ev_iconstN 210 2 dX12_pulses_209 rfl ?_
    refine ev_icmp_geN 213 289 dX12_pulses_210 (by decide) (by omega) (by omega) rfl (fun hx => absurd hx ((by omega))) (fun hbr => ?_)
    refine ev_iconstN 214 1 dX12_pulses_213 rfl ?_
    refine ev_istore 216 (lv' := [_, _, _, _, _, _, _, _, some (.int _), _, _]) dX12_pulses_214 (Nat.le_of_ble_eq_true rfl) rfl rfl ?_
    have e1 := lp_X12_pul5 (g := g) (I := I) (J := J) (P := P) (c := c) (pt := pt) (L := L) (w := w) (p := p) (t := T1) (F := F) (Q := Q) (sg := 1) (q := 2 * k) (Z := (none, B, va_up I m (mF (mO (mE F SZ.2.2) SZ.2.1) SZ.1), va_up J m (va_up Q 70 (Int64.ofInt (mZ SZ.1))), P)) hM hb hb2 (by omega) (by omega) (by omega) hzb hE hH k2 ?_ (sb / 2) 0 (by omega)
    · rw [show sp_os sb hz (2 * k) 1 (T1.1, T1.2.1) 0 = (T1.1, T1.2.1) from rfl, if_pos rfl] at e1
      exact e1
    generalize sp_q1 sb hz (2 * k) 1 T1 = T2 at e
    refine ev_iload 209 dX12_pulses_207 rfl rfl ?_
    refine ev_iconstN 210 2 dX12_pulses_209 rfl ?_
    refine ev_icmp_geN 213 289 dX12_pulses_210 (by decide) (by omega) (by omega) rfl (fun hbr => ?_) (fun hx => absurd ((by omega)) hx)
    refine ev_iincN 292 (lv' := [_, _, _, _, _, _, some (.int _), _, _, _, _]) 2 dX12_pulses_289 rfl (Nat.le_of_ble_eq_true rfl) rfl rfl ?_
    refine ev_goto 198 dX12_pulses_292 (by decide) ?_
    refine ev_le (mle_s (mle_s (mle_s (mle_s (mle_s (mle_s (mle_s (mle_s (mle_n (mle_n (mle_n (mle_0)))))))))))) ?_
    rw [show 2 * k + 2 = 2 * (k + 1) by omega]
    exact e
end MOS
