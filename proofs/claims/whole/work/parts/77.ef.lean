/-! a frame's bytes, class side -/
/-- one byte of a PART -/
def sp_pb (f : Nat → Int32) (j : Nat) : Int32 := if j = 0 then b8 (f 0 - nI 20) else if j = 1 then b8 (f 1) else if j = 2 then b8 (f 2 + f 3) else if j = 3 then b8 (f 4 - nI 1 + f 5) else b8 (f 6)
/-- a frame's bytes before its sum -/
def sp_row (vo : Nat) (rt nu : Int32) (bd spr : Nat) (pk : Int32) (ix : Nat → Int32) (pf : Nat → Nat → Int32) (sl sh : Int32) : Nat → Int32 := fun k =>
  if k = 0 then b8 (nI (if vo = 1 then 1 else 2)) else if k = 1 then b8 rt else if k = 2 then b8 (nI bd) else if k = 3 then b8 (nu >>> (nI 8 &&& 31)) else if k = 4 then b8 nu else if k = 5 then b8 (nI spr) else
  if vo = 1 then (if k < 14 then b8 (ix (k - 6) + nI 32) else if k < 34 then sp_pb (pf ((k - 14) / 5)) ((k - 14) % 5) else if k = 34 then b8 sl else b8 sh)
  else (if k = 6 then b8 (pk >>> (nI 8 &&& 31)) else if k = 7 then b8 pk else if k = 8 then b8 sl else b8 sh)
/-- as it is laid into a new row -/
def sp_hd (vo : Nat) (rt nu : Int32) (bd spr : Nat) : Nat → Int32 := va_up (va_up (va_up (va_up (va_up (va_up (fun _ => 0) 0 (b8 (nI (if vo = 1 then 1 else 2)))) 1 (b8 rt)) 2 (b8 (nI bd))) 3 (b8 (nu >>> (nI 8 &&& 31)))) 4 (b8 nu)) 5 (b8 (nI spr))
def sp_bo (vo : Nat) (F : Nat → Int32) (pk : Int32) (ix : Nat → Int32) (pf : Nat → Nat → Int32) : Nat → Int32 :=
  if vo = 1 then sgp (sgp F 6 8 (fun j => b8 (ix j + nI 32))) 14 20 (fun j => sp_pb (pf (j / 5)) (j % 5)) else va_up (va_up F 6 (b8 (pk >>> (nI 8 &&& 31)))) 7 (b8 pk)
def sp_sr (F : Nat → Int32) (bd spr : Nat) (sl sh : Int32) : Nat → Int32 := if spr = 2 then va_up (va_up F (6 + bd) (b8 sl)) (6 + bd + 1) (b8 sh) else F
theorem sp_row_6 {vo bd spr k : Nat} {rt nu pk sl sh : Int32} {ix : Nat → Int32} {pf : Nat → Nat → Int32} (h : 6 ≤ k) : sp_row vo rt nu bd spr pk ix pf sl sh k =
    if vo = 1 then (if k < 14 then b8 (ix (k - 6) + nI 32) else if k < 34 then sp_pb (pf ((k - 14) / 5)) ((k - 14) % 5) else if k = 34 then b8 sl else b8 sh)
    else (if k = 6 then b8 (pk >>> (nI 8 &&& 31)) else if k = 7 then b8 pk else if k = 8 then b8 sl else b8 sh) := by
  unfold sp_row
  rw [if_neg (by omega), if_neg (by omega), if_neg (by omega), if_neg (by omega), if_neg (by omega), if_neg (by omega)]
theorem sp_row_e {vo bd spr : Nat} {rt nu pk sl sh : Int32} {ix : Nat → Int32} {pf : Nat → Nat → Int32} (hvo : vo ≤ 1) (hbd : bd = if vo = 1 then 28 else 2) (hspr : spr = 2 ∨ spr = 0) : ∀ k, k < 6 + bd + spr →
    sp_sr (sp_bo vo (sp_hd vo rt nu bd spr) pk ix pf) bd spr sl sh k = sp_row vo rt nu bd spr pk ix pf sl sh k := by
  intro k hk
  have h6 : ∀ k, k < 6 → sp_hd vo rt nu bd spr k = sp_row vo rt nu bd spr pk ix pf sl sh k := fun k hk => by
    rcases (show k = 0 ∨ k = 1 ∨ k = 2 ∨ k = 3 ∨ k = 4 ∨ k = 5 by omega) with rfl | rfl | rfl | rfl | rfl | rfl <;> simp [sp_hd, sp_row, va_up]
  have hb : ∀ k, k < 6 + bd → sp_bo vo (sp_hd vo rt nu bd spr) pk ix pf k = sp_row vo rt nu bd spr pk ix pf sl sh k := fun k hk => by
    by_cases c6 : k < 6
    · rw [← h6 k c6]
      unfold sp_bo
      by_cases cv : vo = 1
      · rw [if_pos cv, sgp_out (by omega), sgp_out (by omega)]
      · rw [if_neg cv, va_up_n _ _ (by omega), va_up_n _ _ (by omega)]
    · rw [sp_row_6 (by omega)]
      unfold sp_bo
      by_cases cv : vo = 1
      · rw [if_pos cv] at hbd
        rw [if_pos cv, if_pos cv]
        by_cases c14 : k < 14
        · rw [if_pos c14, sgp_out (by omega)]
          obtain ⟨j, rfl⟩ : ∃ j, k = 6 + j := ⟨k - 6, by omega⟩
          rw [sgp_in (by omega), show 6 + j - 6 = j by omega]
        · rw [if_neg c14, if_pos (by omega)]
          obtain ⟨j, rfl⟩ : ∃ j, k = 14 + j := ⟨k - 14, by omega⟩
          rw [sgp_in (by omega), show 14 + j - 14 = j by omega]
      · rw [if_neg cv] at hbd
        rw [if_neg cv, if_neg cv]
        by_cases c7 : k = 6
        · subst c7; rw [if_pos rfl, va_up_n _ _ (by omega), va_up_s]
        · obtain rfl : k = 7 := by omega
          rw [if_neg (by omega), if_pos rfl, va_up_s]
  unfold sp_sr
  rcases hspr with rfl | rfl
  · rw [if_pos rfl]
    by_cases c1 : k = 6 + bd + 1
    · subst c1
      rw [va_up_s]
      rw [sp_row_6 (by omega)]
      by_cases cv : vo = 1
      · rw [if_pos cv] at hbd
        rw [if_pos cv, if_neg (by omega), if_neg (by omega), if_neg (by omega)]
      · rw [if_neg cv] at hbd
        rw [if_neg cv, if_neg (by omega), if_neg (by omega), if_neg (by omega)]
    · rw [va_up_n _ _ c1]
      by_cases c2 : k = 6 + bd
      · subst c2
        rw [va_up_s]
        rw [sp_row_6 (by omega)]
        by_cases cv : vo = 1
        · rw [if_pos cv] at hbd
          rw [if_pos cv, if_neg (by omega), if_neg (by omega), if_pos (by omega)]
        · rw [if_neg cv] at hbd
          rw [if_neg cv, if_neg (by omega), if_neg (by omega), if_pos (by omega)]
      · rw [va_up_n _ _ c2]; exact hb k (by omega)
  · rw [if_neg (by omega)]; exact hb k (by omega)
section VEF
variable {g : mm_G} {B : mm_B} {I : mm_TI} {J : mm_TJ} {P : mm_TP} {x o : Nat}
theorem lp_X2_wb2 {q N : Nat} {pk : Int32} {pf : Nat → Nat → Int32} {F1 : Nat → Int32} (hC : lyC B P x o) (tq : mm_T B q = 201) (nq : mm_N B q = N) (hN : 34 ≤ N) (hq : o + 33 ≤ q) (hPa : ∀ i, i < 4 → P (o + 6) i = some (o + 7 + i)) (hpf : ∀ i, i < 4 → I (o + 7 + i) = pf i) : ∀ (d k : Nat), k + d = 4 →
    Ev g mX2_writeBody 60 [some (.ref (o + 4)), some (.ref q), some (.int (nI 1)), some (.int pk), some (.int (nI k))] [] B (va_up I q (sgp F1 14 (5 * k) (fun j => sp_pb (pf (j / 5)) (j % 5)))) J P (none, B, va_up I q (sgp F1 14 20 (fun j => sp_pb (pf (j / 5)) (j % 5))), J, P) := by
  intro d
  induction d with
  | zero =>
    intro k hk
    obtain rfl : k = 4 := by omega
    refine ev_iload 62 dX2_writeBody_60 rfl rfl ?_
    refine ev_iconstN 63 4 dX2_writeBody_62 rfl ?_
    refine ev_icmp_geN 66 90 dX2_writeBody_63 (by decide) (by omega) (by omega) rfl (fun hbr => ?_) (fun hx => absurd ((by omega)) hx)
    exact ev_vret dX2_writeBody_90 rfl (rfl)
  | succ d ih =>
    intro k hk
    have e := ih (k + 1) (by omega)
    have hpb : ∀ j, j < 5 → sp_pb (pf ((5 * k + j) / 5)) ((5 * k + j) % 5) = sp_pb (pf k) j := fun j hj => by rw [show (5 * k + j) / 5 = k by omega, show (5 * k + j) % 5 = j by omega]
    rw [show 5 * (k + 1) = 5 * k + 1 + 1 + 1 + 1 + 1 by omega,
      ← sgp_grow (f := F1) (off := 14) (v := fun j => sp_pb (pf (j / 5)) (j % 5)) (n := 5 * k + 1 + 1 + 1 + 1) (x := b8 (pf k 6)) (hpb 4 (by omega)).symm, ← sgp_grow (f := F1) (off := 14) (v := fun j => sp_pb (pf (j / 5)) (j % 5)) (n := 5 * k + 1 + 1 + 1) (x := b8 (pf k 4 - nI 1 + pf k 5)) (hpb 3 (by omega)).symm, ← sgp_grow (f := F1) (off := 14) (v := fun j => sp_pb (pf (j / 5)) (j % 5)) (n := 5 * k + 1 + 1) (x := b8 (pf k 2 + pf k 3)) (hpb 2 (by omega)).symm, ← sgp_grow (f := F1) (off := 14) (v := fun j => sp_pb (pf (j / 5)) (j % 5)) (n := 5 * k + 1) (x := b8 (pf k 1)) (hpb 1 (by omega)).symm, ← sgp_grow (f := F1) (off := 14) (v := fun j => sp_pb (pf (j / 5)) (j % 5)) (n := 5 * k) (x := b8 (pf k 0 - nI 20)) (hpb 0 (by omega)).symm] at e
    have tp : mm_T B (o + 7 + k) = 107 := by
      rcases (show k = 0 ∨ k = 1 ∨ k = 2 ∨ k = 3 by omega) with rfl | rfl | rfl | rfl
      · exact hC.1 7 _ rfl
      · exact hC.1 8 _ rfl
      · exact hC.1 9 _ rfl
      · exact hC.1 10 _ rfl
    have w := ct_X7_write (g := g) (I := va_up I q (sgp F1 14 (5 * k) (fun j => sp_pb (pf (j / 5)) (j % 5)))) (J := J) (P := P) (at_ := 14 + 5 * k) tq tp nq (by omega) (by omega)
    rw [va_up_s, bx_uu, va_up_n _ _ (show o + 7 + k ≠ q by omega), hpf k (by omega)] at w
    refine ev_iload 62 dX2_writeBody_60 rfl rfl ?_
    refine ev_iconstN 63 4 dX2_writeBody_62 rfl ?_
    refine ev_icmp_geN 66 90 dX2_writeBody_63 (by decide) (by omega) (by omega) rfl (fun hx => absurd hx ((by omega))) (fun hbr => ?_)
    refine ev_aload_n 67 dX2_writeBody_66 rfl rfl ?_
    refine ev_getP 70 mm_cl2 (j := 5) (Nat.le_of_ble_eq_true rfl) dX2_writeBody_67 lk375 (fun _ _ _ => rfl) (hC.1 4 _ rfl) (a := (o + 6)) (hC.2.2.1 7 _ _ _ rfl) rfl ?_
    refine ev_iload 72 dX2_writeBody_70 rfl rfl ?_
    refine ev_aald 73 _ 7 dX2_writeBody_72 (hC.1 6 _ rfl) rfl (by have hNN := hC.2.1 6 _ rfl; omega) rfl ?_
    refine ev_eqR (a := (o+7+k)) ((hPa k (by omega))) ?_
    refine ev_aload_n 74 dX2_writeBody_73 rfl rfl ?_
    refine ev_bipushN 76 14 dX2_writeBody_74 (by decide +kernel) rfl ?_
    refine ev_iconstN 77 5 dX2_writeBody_76 rfl ?_
    refine ev_iload 79 dX2_writeBody_77 rfl rfl ?_
    refine ev_imulN 80 dX2_writeBody_79 rfl ?_
    refine ev_iaddN 81 dX2_writeBody_80 rfl ?_
    refine ev_invVv 84 (Mc := mX7_write) ⟨lk843, lk79, hdX7_write, (Nat.le_of_ble_eq_true rfl), (Nat.le_of_ble_eq_true rfl)⟩ lk840 lk841 lk842 mm_cl7 rfl dX2_writeBody_81 (w) rfl tp (Nat.le_of_ble_eq_true rfl) rfl rfl ?_
    refine ev_iincN 87 (lv' := [_, _, _, some (.int _), _]) 1 dX2_writeBody_84 rfl (Nat.le_of_ble_eq_true rfl) rfl rfl ?_
    refine ev_goto 60 dX2_writeBody_87 (by decide) ?_
    exact e
theorem lp_X2_wb1 {q N : Nat} {pk : Int32} {ix : Nat → Int32} {F0 : Nat → Int32} {Z : mm_Z} (hC : lyC B P x o) (tq : mm_T B q = 201) (nq : mm_N B q = N) (hN : 34 ≤ N) (hq : o + 33 ≤ q) (hix : I (o + 16) = ix)
    (K : Ev g mX2_writeBody 57 [some (.ref (o + 4)), some (.ref q), some (.int (nI 1)), some (.int pk), none] [] B (va_up I q (sgp F0 6 8 (fun j => b8 (ix j + nI 32)))) J P Z) : ∀ (d k : Nat), k + d = 8 →
    Ev g mX2_writeBody 23 [some (.ref (o + 4)), some (.ref q), some (.int (nI 1)), some (.int pk), some (.int (nI k))] [] B (va_up I q (sgp F0 6 k (fun j => b8 (ix j + nI 32)))) J P Z := by
  intro d
  induction d with
  | zero =>
    intro k hk
    obtain rfl : k = 8 := by omega
    refine ev_iload 25 dX2_writeBody_23 rfl rfl ?_
    refine ev_bipushN 27 8 dX2_writeBody_25 (by decide +kernel) rfl ?_
    refine ev_icmp_geN 30 57 dX2_writeBody_27 (by decide) (by omega) (by omega) rfl (fun hbr => ?_) (fun hx => absurd ((by omega)) hx)
    refine ev_le (mle_s (mle_s (mle_s (mle_s (mle_n (mle_0)))))) ?_
    exact K
  | succ d ih =>
    intro k hk
    have e := ih (k + 1) (by omega)
    rw [← sgp_grow (x := b8 (ix k + nI 32)) rfl] at e
    refine ev_iload 25 dX2_writeBody_23 rfl rfl ?_
    refine ev_bipushN 27 8 dX2_writeBody_25 (by decide +kernel) rfl ?_
    refine ev_icmp_geN 30 57 dX2_writeBody_27 (by decide) (by omega) (by omega) rfl (fun hx => absurd hx ((by omega))) (fun hbr => ?_)
    refine ev_aload_n 31 dX2_writeBody_30 rfl rfl ?_
    refine ev_bipushN 33 6 dX2_writeBody_31 (by decide +kernel) rfl ?_
    refine ev_iload 35 dX2_writeBody_33 rfl rfl ?_
    refine ev_iaddN 36 dX2_writeBody_35 rfl ?_
    refine ev_aload_n 37 dX2_writeBody_36 rfl rfl ?_
    refine ev_getP 40 mm_cl2 (j := 3) (Nat.le_of_ble_eq_true rfl) dX2_writeBody_37 lk372 (fun _ _ _ => rfl) (hC.1 4 _ rfl) (a := (o + 13)) (hC.2.2.1 5 _ _ _ rfl) rfl ?_
    refine ev_getP 43 mm_cl6 (j := 2) (Nat.le_of_ble_eq_true rfl) dX2_writeBody_40 lk347 (fun _ _ _ => rfl) (hC.1 13 _ rfl) (a := (o + 16)) (hC.2.2.1 12 _ _ _ rfl) rfl ?_
    refine ev_iload 45 dX2_writeBody_43 rfl rfl ?_
    refine ev_iald 46 _ dX2_writeBody_45 (hC.1 16 _ rfl) rfl (by have hNN := hC.2.1 16 _ rfl; omega) rfl ?_
    refine ev_eqI (y := (ix k)) ((by rw [va_up_n _ _ (by omega), hix])) ?_
    refine ev_bipushN 48 32 dX2_writeBody_46 (by decide +kernel) rfl ?_
    refine ev_iadd 49 dX2_writeBody_48 rfl ?_
    refine ev_i2b 50 dX2_writeBody_49 rfl ?_
    refine ev_bast 51 _ dX2_writeBody_50 tq rfl (by omega) rfl ?_
    refine ev_iincN 54 (lv' := [_, _, _, some (.int _), _]) 1 dX2_writeBody_51 rfl (Nat.le_of_ble_eq_true rfl) rfl rfl ?_
    refine ev_goto 23 dX2_writeBody_54 (by decide) ?_
    rw [va_up_s, bx_uu, show (ix k + nI 32).toInt8.toInt32.toInt8.toInt32 = b8 (ix k + nI 32) from b8_b8 _]
    exact e
theorem ct_X2_writeBody {q N vo : Nat} {pk : Int32} {ix : Nat → Int32} {pf : Nat → Nat → Int32} (hC : lyC B P x o) (tq : mm_T B q = 201) (nq : mm_N B q = N) (hvo : vo ≤ 1) (hN : vo = 1 → 34 ≤ N) (hN8 : 8 ≤ N) (hq : o + 33 ≤ q) (hPa : ∀ i, i < 4 → P (o + 6) i = some (o + 7 + i)) (hix : I (o + 16) = ix) (hpf : ∀ i, i < 4 → I (o + 7 + i) = pf i) :
    Ct g mX2_writeBody [.ref (o + 4), .ref q, .int (nI vo), .int pk] B I J P (none, B, va_up I q (sp_bo vo (I q) pk ix pf), J, P) := by
  unfold sp_bo
  by_cases cv : vo = 1
  · rw [if_pos cv]
    subst cv
    have e2 := lp_X2_wb2 (g := g) (I := I) (J := J) (pk := pk) (F1 := sgp (I q) 6 8 (fun j => b8 (ix j + nI 32))) hC tq nq (hN rfl) hq hPa hpf 4 0 (by omega)
    rw [Nat.mul_zero, sgp_0] at e2
    have e57 : Ev g mX2_writeBody 57 [some (.ref (o + 4)), some (.ref q), some (.int (nI 1)), some (.int pk), none] [] B (va_up I q (sgp (I q) 6 8 (fun j => b8 (ix j + nI 32)))) J P (none, B, va_up I q (sgp (sgp (I q) 6 8 (fun j => b8 (ix j + nI 32))) 14 20 (fun j => sp_pb (pf (j / 5)) (j % 5))), J, P) := by
      refine ev_iconstN 58 0 dX2_writeBody_57 rfl ?_
      refine ev_istore 60 (lv' := [_, _, _, some (.int _), _]) dX2_writeBody_58 (Nat.le_of_ble_eq_true rfl) rfl rfl ?_
      exact e2
    have e1 := lp_X2_wb1 (g := g) (I := I) (J := J) (F0 := I q) hC tq nq (hN rfl) hq hix e57 8 0 (by omega)
    rw [sgp_0, va_up_id] at e1
    refine ct_of (lv := [some (.ref (o + 4)), some (.ref q), some (.int (nI 1)), some (.int pk), none]) (by decide +kernel) (Nat.le_of_ble_eq_true rfl) rfl ?_
    refine ev_iload_n 1 dX2_writeBody_0 rfl rfl ?_
    refine ev_if_neN 4 20 dX2_writeBody_1 (by decide) (by omega) rfl (fun hbr => ?_) (fun hx => absurd hx ((by omega)))
    refine ev_iconstN 21 0 dX2_writeBody_20 rfl ?_
    refine ev_istore 23 (lv' := [_, _, _, some (.int _), _]) dX2_writeBody_21 (Nat.le_of_ble_eq_true rfl) rfl rfl ?_
    exact e1
  · rw [if_neg cv]
    obtain rfl : vo = 0 := by omega
    refine ct_of (lv := [some (.ref (o + 4)), some (.ref q), some (.int (nI 0)), some (.int pk), none]) (by decide +kernel) (Nat.le_of_ble_eq_true rfl) rfl ?_
    refine ev_iload_n 1 dX2_writeBody_0 rfl rfl ?_
    refine ev_if_neN 4 20 dX2_writeBody_1 (by decide) (by omega) rfl (fun hx => absurd ((by omega)) hx) (fun hbr => ?_)
    refine ev_aload_n 5 dX2_writeBody_4 rfl rfl ?_
    refine ev_bipushN 7 6 dX2_writeBody_5 (by decide +kernel) rfl ?_
    refine ev_iload_n 8 dX2_writeBody_7 rfl rfl ?_
    refine ev_bipushN 10 8 dX2_writeBody_8 (by decide +kernel) rfl ?_
    refine ev_ishr 11 dX2_writeBody_10 rfl ?_
    refine ev_i2b 12 dX2_writeBody_11 rfl ?_
    refine ev_bast 13 _ dX2_writeBody_12 tq rfl (by omega) rfl ?_
    refine ev_aload_n 14 dX2_writeBody_13 rfl rfl ?_
    refine ev_bipushN 16 7 dX2_writeBody_14 (by decide +kernel) rfl ?_
    refine ev_iload_n 17 dX2_writeBody_16 rfl rfl ?_
    refine ev_i2b 18 dX2_writeBody_17 rfl ?_
    refine ev_bast 19 _ dX2_writeBody_18 tq rfl (by omega) rfl ?_
    rw [va_up_s, bx_uu]
    exact ev_vret dX2_writeBody_19 rfl ((by simp only [show ∀ v : Int32, v.toInt8.toInt32.toInt8.toInt32 = b8 v from fun v => b8_b8 v]))
/-- from the spare bytes on -/
theorem lx_X2_ef2 {q N vo bd spr nu : Nat} {rt pk sl sh en : Int32} {F3 Fr : Nat → Int32} (hV : lyV B P x) (hC : lyC B P x o) (hxo : x + 22 ≤ o) (hq : o + 33 ≤ q) (tq : mm_T B q = 201) (nq : mm_N B q = 6 + bd + spr + 1) (hb' : bd = 28 ∨ bd = 2) (hs' : spr = 2 ∨ spr = 0) (hvo : vo ≤ 1) (r3 : I (o + 4) 10 = rt) (r4 : I (o + 4) 16 = nI nu) (r5 : I (o + 4) 17 = en) (hnu : nu < 65536)
    (f3 : I q = F3) (e54 : F3 5 = nI spr) (hrow : ∀ k, k < 6 + bd + spr → sp_sr F3 bd spr sl sh k = Fr k) :
    ∃ (I' : mm_TI) (J' : mm_TJ), Ev g mX2_encodeFrame 144 [some (.ref (o + 4)), some (.int (nI N)), some (.int pk), some (.int sl), some (.int sh), some (.int (nI vo)), some (.ref q)] [] B I J P (some (.ref q), B, I', J', P) ∧
      (∀ k, k < 6 + bd + spr → I' q k = Fr k) ∧ I' q (6 + bd + spr) = b8 (sp_xs Fr (6 + bd + spr)) ∧
      I' (o + 4) = va_up (va_up (va_up (va_up (I (o + 4)) 9 (nI vo)) 8 rt) 17 (en + nI 1)) 16 (nI ((nu + 1) % 65536)) ∧
      (∀ k, 5 ≤ k → k ≤ 14 → I' (x + k) = fun _ => 0) ∧ (∀ n, n < 9 → J' (x + 15) n = 0) ∧ (∀ n, n < 8 → J' (x + 16) n = 0) ∧
      (∀ k, k ≠ q → k ≠ o + 4 → k < x + 5 ∨ x + 14 < k → I' k = I k) ∧ (∀ k, k ≠ x + 15 → k ≠ x + 16 → J' k = J k) := by
  generalize hF4 : sp_sr F3 bd spr sl sh = F4 at hrow
  have c5 := ct_X11_sumOf (g := g) (B := B) (I := va_up I q F4) (J := J) (P := P) (q := q) (n := 6 + bd + spr) (F := Fr) tq nq (by omega) (fun k hk => by rw [va_up_s]; exact hrow k hk)
  generalize hs5 : b8 (sp_xs Fr (6 + bd + spr)) = s5 at c5 ⊢
  have hs5b : s5.toInt8.toInt32 = s5 := by rw [← hs5]; exact b8_b8 _
  generalize hI5 : va_up I q (va_up F4 (6 + bd + spr) s5) = I5
  have a5 : ∀ k, k ≠ q → I5 k = I k := fun k h => by rw [← hI5, va_up_n _ _ h]
  have e5 : I5 (o + 4) = I (o + 4) := a5 _ (by omega)
  generalize hI6 : va_up I5 (o + 4) (va_up (va_up (va_up (va_up (I (o + 4)) 9 (nI vo)) 8 rt) 17 (en + nI 1)) 16 (nI ((nu + 1) % 65536))) = I6
  have a6 : ∀ k, k ≠ o + 4 → I6 k = I5 k := fun k h => by rw [← hI6, va_up_n _ _ h]
  obtain ⟨I7, J7, c7, w1, w2, w3, w4, w5⟩ := cx_X8_wipe (g := g) (B := B) (I := I6) (J := J) (P := P) (x := x) hV
  have hbo1 : narrow .boolean (.int (nI vo)) = .int (nI vo) := by rcases (show vo = 0 ∨ vo = 1 by omega) with rfl | rfl <;> rfl
  have hbo2 : fits .boolean (.int (nI vo)) = true := by rcases (show vo = 0 ∨ vo = 1 by omega) with rfl | rfl <;> rfl
  have tail : Ev g mX2_encodeFrame 173 [some (.ref (o + 4)), some (.int (nI N)), some (.int pk), some (.int sl), some (.int sh), some (.int (nI vo)), some (.ref q)] [] B (va_up I q F4) J P (some (.ref q), B, I7, J7, P) := by
    refine ev_aload 175 dX2_encodeFrame_173 rfl rfl ?_
    refine ev_aload 177 dX2_encodeFrame_175 rfl rfl ?_
    refine ev_alen 178 1 dX2_encodeFrame_177 tq rfl ?_
    refine ev_eqI (y := nI ((6+bd+spr+1))) ((by rw [nq])) ?_
    refine ev_iconstN 179 1 dX2_encodeFrame_178 rfl ?_
    refine ev_isubN 180 dX2_encodeFrame_179 (by omega) rfl ?_
    refine ev_aload 182 dX2_encodeFrame_180 rfl rfl ?_
    refine ev_invSN 185 (Mc := mX11_sumOf) ⟨lk846, lk75, hdX11_sumOf, (Nat.le_of_ble_eq_true rfl), (Nat.le_of_ble_eq_true rfl)⟩ lk844 lk845 dX2_encodeFrame_182 (c5) rfl (Nat.le_of_ble_eq_true rfl) rfl rfl ?_
    refine ev_bast 186 _ dX2_encodeFrame_185 tq rfl (by omega) rfl ?_
    rw [va_up_s, bx_uu, hs5b, show 6 + bd + spr + 1 - 1 = 6 + bd + spr from rfl, hI5]
    refine ev_aload_n 187 dX2_encodeFrame_186 rfl rfl ?_
    refine ev_iload 189 dX2_encodeFrame_187 rfl rfl ?_
    refine ev_putI 192 mm_cl2 (j := 9) (Nat.le_of_ble_eq_true rfl) dX2_encodeFrame_189 lk380 rfl (fun _ _ _ => rfl) (by assumption) (by assumption) (hC.1 4 _ rfl) rfl ?_
    refine ev_aload_n 193 dX2_encodeFrame_192 rfl rfl ?_
    refine ev_aload_n 194 dX2_encodeFrame_193 rfl rfl ?_
    refine ev_getI 197 mm_cl2 (j := 10) (Nat.le_of_ble_eq_true rfl) dX2_encodeFrame_194 lk382 (fun _ _ _ => rfl) (hC.1 4 _ rfl) rfl ?_
    refine ev_eqI (y := (rt)) ((by rw [va_up_s, va_up_n _ _ (by omega), e5]; exact r3)) ?_
    refine ev_putI 200 mm_cl2 (j := 8) (Nat.le_of_ble_eq_true rfl) dX2_encodeFrame_197 lk379 rfl (fun _ _ _ => rfl) rfl rfl (hC.1 4 _ rfl) rfl ?_
    rw [va_up_s, bx_uu]
    refine ev_aload_n 201 dX2_encodeFrame_200 rfl rfl ?_
    refine ev_dup 202 dX2_encodeFrame_201 rfl rfl ?_
    refine ev_getI 205 mm_cl2 (j := 17) (Nat.le_of_ble_eq_true rfl) dX2_encodeFrame_202 lk396 (fun _ _ _ => rfl) (hC.1 4 _ rfl) rfl ?_
    refine ev_eqI (y := (en)) ((by rw [va_up_s, va_up_n _ _ (by omega), va_up_n _ _ (by omega), e5]; exact r5)) ?_
    refine ev_iconstN 206 1 dX2_encodeFrame_205 rfl ?_
    refine ev_iadd 207 dX2_encodeFrame_206 rfl ?_
    refine ev_putI 210 mm_cl2 (j := 17) (Nat.le_of_ble_eq_true rfl) dX2_encodeFrame_207 lk396 rfl (fun _ _ _ => rfl) rfl rfl (hC.1 4 _ rfl) rfl ?_
    rw [va_up_s, bx_uu]
    refine ev_aload_n 211 dX2_encodeFrame_210 rfl rfl ?_
    refine ev_aload_n 212 dX2_encodeFrame_211 rfl rfl ?_
    refine ev_getI 215 mm_cl2 (j := 16) (Nat.le_of_ble_eq_true rfl) dX2_encodeFrame_212 lk394 (fun _ _ _ => rfl) (hC.1 4 _ rfl) rfl ?_
    refine ev_eqI (y := nI (nu)) ((by rw [va_up_s, va_up_n _ _ (by omega), va_up_n _ _ (by omega), va_up_n _ _ (by omega), e5]; exact r4)) ?_
    refine ev_iconstN 216 1 dX2_encodeFrame_215 rfl ?_
    refine ev_iaddN 217 dX2_encodeFrame_216 rfl ?_
    refine ev_ldc 219 dX2_encodeFrame_217 lk847 rfl ?_
    refine ev_eqI (y := nI 65536) (by decide +kernel) ?_
    refine ev_iremN 220 dX2_encodeFrame_219 (by omega) (by omega) (by omega) rfl ?_
    refine ev_putI 223 mm_cl2 (j := 16) (Nat.le_of_ble_eq_true rfl) dX2_encodeFrame_220 lk394 rfl (fun _ _ _ => rfl) rfl rfl (hC.1 4 _ rfl) rfl ?_
    rw [va_up_s, bx_uu, e5, hI6]
    refine ev_aload_n 224 dX2_encodeFrame_223 rfl rfl ?_
    refine ev_getP 227 mm_cl2 (j := 1) (Nat.le_of_ble_eq_true rfl) dX2_encodeFrame_224 lk370 (fun _ _ _ => rfl) (hC.1 4 _ rfl) (a := (x + 4)) (hC.2.2.2 1 _ _ _ rfl) rfl ?_
    refine ev_invVv 230 (Mc := mX8_wipe) ⟨lk851, lk77, hdX8_wipe, (Nat.le_of_ble_eq_true rfl), (Nat.le_of_ble_eq_true rfl)⟩ lk848 lk849 lk850 mm_cl8 rfl dX2_encodeFrame_227 (c7) rfl (hV.1 4 _ rfl) (Nat.le_of_ble_eq_true rfl) rfl rfl ?_
    refine ev_aload 232 dX2_encodeFrame_230 rfl rfl ?_
    exact ev_aret dX2_encodeFrame_232 rfl (Or.inr ⟨_, rfl⟩) (rfl)
  refine ⟨I7, J7, ?_, ?_, ?_, ?_, w1, w3, w4, ?_, w5⟩
  · refine ev_aload 146 dX2_encodeFrame_144 rfl rfl ?_
    refine ev_iconstN 147 5 dX2_encodeFrame_146 rfl ?_
    refine ev_bald 148 _ dX2_encodeFrame_147 tq rfl (by omega) rfl ?_
    refine ev_eqI (y := nI (spr)) ((by rw [f3]; exact e54)) ?_
    refine ev_iconstN 149 2 dX2_encodeFrame_148 rfl ?_
    rcases hs' with rfl | rfl
    · rw [show sp_sr F3 bd 2 sl sh = va_up (va_up F3 (6 + bd) (b8 sl)) (6 + bd + 1) (b8 sh) from if_pos rfl] at hF4
      refine ev_icmp_neN 152 173 dX2_encodeFrame_149 (by decide) (by omega) (by omega) rfl (fun hx => absurd ((by omega)) hx) (fun hbr => ?_)
      refine ev_aload 154 dX2_encodeFrame_152 rfl rfl ?_
      refine ev_aload 156 dX2_encodeFrame_154 rfl rfl ?_
      refine ev_alen 157 1 dX2_encodeFrame_156 tq rfl ?_
      refine ev_eqI (y := nI ((6+bd+2+1))) ((by rw [nq])) ?_
      refine ev_iconstN 158 3 dX2_encodeFrame_157 rfl ?_
      refine ev_isubN 159 dX2_encodeFrame_158 (by omega) rfl ?_
      refine ev_iload_n 160 dX2_encodeFrame_159 rfl rfl ?_
      refine ev_i2b 161 dX2_encodeFrame_160 rfl ?_
      refine ev_bast 162 _ dX2_encodeFrame_161 tq rfl (by omega) rfl ?_
      refine ev_aload 164 dX2_encodeFrame_162 rfl rfl ?_
      refine ev_aload 166 dX2_encodeFrame_164 rfl rfl ?_
      refine ev_alen 167 1 dX2_encodeFrame_166 tq rfl ?_
      refine ev_eqI (y := nI ((6+bd+2+1))) ((by rw [nq])) ?_
      refine ev_iconstN 168 2 dX2_encodeFrame_167 rfl ?_
      refine ev_isubN 169 dX2_encodeFrame_168 (by omega) rfl ?_
      refine ev_iload 171 dX2_encodeFrame_169 rfl rfl ?_
      refine ev_i2b 172 dX2_encodeFrame_171 rfl ?_
      refine ev_bast 173 _ dX2_encodeFrame_172 tq rfl (by omega) rfl ?_
      rw [va_up_s, bx_uu, f3, show 6 + bd + 2 + 1 - 3 = 6 + bd by omega, show 6 + bd + 2 + 1 - 2 = 6 + bd + 1 by omega]
      simp only [show ∀ v : Int32, v.toInt8.toInt32.toInt8.toInt32 = b8 v from fun v => b8_b8 v]
      rw [hF4]
      exact tail
    · rw [show sp_sr F3 bd 0 sl sh = F3 from if_neg (by omega)] at hF4
      refine ev_icmp_neN 152 173 dX2_encodeFrame_149 (by decide) (by omega) (by omega) rfl (fun hbr => ?_) (fun hx => absurd hx ((by omega)))
      rw [← hF4, ← f3, va_up_id] at tail
      exact tail
  · intro k hk
    rw [w2 q (by omega), a6 q (by omega), ← hI5, va_up_s, va_up_n _ _ (by omega)]; exact hrow k hk
  · rw [w2 q (by omega), a6 q (by omega), ← hI5, va_up_s, va_up_s]
  · rw [w2 _ (by omega), ← hI6, va_up_s]
  · intro k h1 h2 h3
    rw [w2 k h3, a6 k h2, a5 k h1]
/-- behind the sounds: the frame's bytes -/
theorem lx_X2_ef {N vo rd sp bd spr nu t : Nat} {rt pk sl sh en : Int32} {ix : Nat → Int32} {pf : Nat → Nat → Int32} (hV : lyV B P x) (hC : lyC B P x o) (hxo : x + 22 ≤ o) (hnx : o + 33 ≤ mm_nx B) (hvo : vo ≤ 1) (hrd : rd ≤ 1) (hsp : sp ≤ 1) (r1 : I (o + 4) 14 = nI rd) (r2 : I (o + 4) 9 = nI sp) (r3 : I (o + 4) 10 = rt) (r4 : I (o + 4) 16 = nI nu) (r5 : I (o + 4) 17 = en) (hnu : nu < 65536) (hbd : bd = if vo = 1 then 28 else 2) (hspr : spr = if rd = 1 ∧ sp = 1 then 2 else 0)
    (ht : I (x + 1) 2 = nI t) (h32 : t < 32) (hPa : ∀ i, i < 4 → P (o + 6) i = some (o + 7 + i)) (hix : I (o + 16) = ix) (hpf : ∀ i, i < 4 → I (o + 7 + i) = pf i) :
    ∃ (I' : mm_TI) (J' : mm_TJ), Ev g mX2_encodeFrame 118 [some (.ref (o + 4)), some (.int (nI N)), some (.int pk), some (.int sl), some (.int sh), some (.int (nI vo)), none] [] B I J P (some (.ref (mm_nx B)), mm_al B 201 (6 + bd + spr + 1) (6 + bd + spr + 1), I', J', va_up P (mm_nx B) (fun _ => none)) ∧
      (∀ k, k < 6 + bd + spr → I' (mm_nx B) k = sp_row vo rt (nI nu) bd spr pk ix pf sl sh k) ∧ I' (mm_nx B) (6 + bd + spr) = b8 (sp_xs (sp_row vo rt (nI nu) bd spr pk ix pf sl sh) (6 + bd + spr)) ∧
      I' (o + 4) = va_up (va_up (va_up (va_up (I (o + 4)) 9 (nI vo)) 8 rt) 17 (en + nI 1)) 16 (nI ((nu + 1) % 65536)) ∧ I' (x + 3) = va_up (I (x + 3)) t (nI 15) ∧ I' (x + 1) = va_up (I (x + 1)) 2 (nI (t + 1)) ∧
      (∀ k, 5 ≤ k → k ≤ 14 → I' (x + k) = fun _ => 0) ∧ (∀ n, n < 9 → J' (x + 15) n = 0) ∧ (∀ n, n < 8 → J' (x + 16) n = 0) ∧
      (∀ q, q ≠ mm_nx B → q ≠ o + 4 → q ≠ x + 1 → q ≠ x + 3 → q < x + 5 ∨ x + 14 < q → I' q = I q) ∧ (∀ q, q ≠ mm_nx B → q ≠ x + 15 → q ≠ x + 16 → J' q = J q) := by
  have hs' : spr = 2 ∨ spr = 0 := by rw [hspr]; split <;> omega
  have hb' : bd = 28 ∨ bd = 2 := by rw [hbd]; split <;> omega
  have m1 := ct_X10_mark (g := g) (I := I) (J := J) (P := P) (a := nI 15) hV ht h32
  generalize hI1 : va_up (va_up I (x + 3) (va_up (I (x + 3)) t (nI 15))) (x + 1) (va_up (I (x + 1)) 2 (nI (t + 1))) = I1 at m1
  have a1 : ∀ q, q ≠ x + 3 → q ≠ x + 1 → I1 q = I q := fun q h h' => by rw [← hI1, va_up_n _ _ h', va_up_n _ _ h]
  have e4 : I1 (o + 4) = I (o + 4) := a1 _ (by omega) (by omega)
  have c2 := cx_X2_headed (g := g) (B := B) (I := I1) (J := J) (P := P) (x := x) (o := o) (vo := vo) (bd := bd) (spr := spr) (rt := rt) (nu := nI nu) hC hnx hvo hrd hsp (by rw [e4]; exact r1) (by rw [e4]; exact r2) (by rw [e4]; exact r3) (by rw [e4]; exact r4) hbd hspr
  have hV1 := lyV_al (t := 201) (n := 6 + bd + spr + 1) (sl := 6 + bd + spr + 1) (f := fun _ => none) hV (show x + 22 ≤ mm_nx B by omega)
  have hC1 := lyC_al (t := 201) (n := 6 + bd + spr + 1) (sl := 6 + bd + spr + 1) (f := fun _ => none) hC hnx
  have tq : mm_T (mm_al B 201 (6 + bd + spr + 1) (6 + bd + spr + 1)) (mm_nx B) = 201 := al_Ts
  have nq : mm_N (mm_al B 201 (6 + bd + spr + 1) (6 + bd + spr + 1)) (mm_nx B) = 6 + bd + spr + 1 := al_Ns
  have hPa1 : ∀ i, i < 4 → va_up P (mm_nx B) (fun _ => none) (o + 6) i = some (o + 7 + i) := fun i hi => by rw [va_up_n _ _ (by omega)]; exact hPa i hi
  rw [show va_up (va_up (va_up (va_up (va_up (va_up (fun _ => 0) 0 (b8 (nI (if vo = 1 then 1 else 2)))) 1 (b8 rt)) 2 (b8 (nI bd))) 3 (b8 (nI nu >>> (nI 8 &&& 31)))) 4 (b8 (nI nu))) 5 (b8 (nI spr)) = sp_hd vo rt (nI nu) bd spr from rfl] at c2
  obtain ⟨q, hq⟩ : ∃ q, mm_nx B = q := ⟨_, rfl⟩
  rw [hq] at c2 hV1 hC1 tq nq hPa1 hnx ⊢
  generalize hI2 : va_up I1 q (sp_hd vo rt (nI nu) bd spr) = I2 at c2
  generalize hJ2 : va_up J q (fun _ => 0) = J2 at c2
  have a2 : ∀ k, k ≠ q → I2 k = I1 k := fun k h => by rw [← hI2, va_up_n _ _ h]
  have c3 := ct_X2_writeBody (g := g) (B := mm_al B 201 (6 + bd + spr + 1) (6 + bd + spr + 1)) (I := I2) (J := J2) (P := va_up P q (fun _ => none)) (x := x) (o := o) (q := q) (pk := pk) (ix := ix) (pf := pf) hC1 tq nq hvo (fun h => by rw [if_pos h] at hbd; omega) (by omega) hnx hPa1 (by rw [a2 _ (by omega), a1 _ (by omega) (by omega)]; exact hix) (fun i hi => by rw [a2 _ (by omega), a1 _ (by omega) (by omega)]; exact hpf i hi)
  rw [show I2 q = sp_hd vo rt (nI nu) bd spr by rw [← hI2, va_up_s]] at c3
  have hrow := sp_row_e (vo := vo) (bd := bd) (spr := spr) (rt := rt) (nu := nI nu) (pk := pk) (sl := sl) (sh := sh) (ix := ix) (pf := pf) hvo hbd hs'
  have e54 : sp_bo vo (sp_hd vo rt (nI nu) bd spr) pk ix pf 5 = nI spr := by
    have : sp_bo vo (sp_hd vo rt (nI nu) bd spr) pk ix pf 5 = sp_hd vo rt (nI nu) bd spr 5 := by
      unfold sp_bo
      by_cases cv : vo = 1
      · rw [if_pos cv, sgp_out (by omega), sgp_out (by omega)]
      · rw [if_neg cv, va_up_n _ _ (by omega), va_up_n _ _ (by omega)]
    rw [this]
    unfold sp_hd
    rw [va_up_s]
    rcases hs' with rfl | rfl <;> decide
  generalize hF3 : sp_bo vo (sp_hd vo rt (nI nu) bd spr) pk ix pf = F3 at c3 hrow e54
  generalize hI3 : va_up I2 q F3 = I3 at c3
  have a3 : ∀ k, k ≠ q → I3 k = I2 k := fun k h => by rw [← hI3, va_up_n _ _ h]
  have e43 : I3 (o + 4) = I (o + 4) := by rw [a3 _ (by omega), a2 _ (by omega), e4]
  obtain ⟨I', J', E, g1, g2, g3, g4, g5, g6, g7, g8⟩ := lx_X2_ef2 (g := g) (B := mm_al B 201 (6 + bd + spr + 1) (6 + bd + spr + 1)) (I := I3) (J := J2) (P := va_up P q (fun _ => none)) (x := x) (o := o) (q := q) (N := N) (vo := vo) (bd := bd) (spr := spr) (nu := nu) (rt := rt) (pk := pk) (sl := sl) (sh := sh) (en := en) (F3 := F3) (Fr := sp_row vo rt (nI nu) bd spr pk ix pf sl sh) hV1 hC1 hxo hnx tq nq hb' hs' hvo (by rw [e43]; exact r3) (by rw [e43]; exact r4) (by rw [e43]; exact r5) hnu (by rw [← hI3, va_up_s]) e54 hrow
  rw [e43] at g3
  refine ⟨I', J', ?_, g1, g2, g3, ?_, ?_, g4, g5, g6, ?_, ?_⟩
  · refine ev_aload_n 119 dX2_encodeFrame_118 rfl rfl ?_
    refine ev_getP 122 mm_cl2 (j := 0) (Nat.le_of_ble_eq_true rfl) dX2_encodeFrame_119 lk369 (fun _ _ _ => rfl) (hC.1 4 _ rfl) (a := (x + 1)) (hC.2.2.2 0 _ _ _ rfl) rfl ?_
    refine ev_bipushN 124 15 dX2_encodeFrame_122 (by decide +kernel) rfl ?_
    refine ev_invVv 127 (Mc := mX10_mark) ⟨lk665, lk76, hdX10_mark, (Nat.le_of_ble_eq_true rfl), (Nat.le_of_ble_eq_true rfl)⟩ lk662 lk663 lk664 mm_cl10 rfl dX2_encodeFrame_124 (m1) rfl (hV.1 1 _ rfl) (Nat.le_of_ble_eq_true rfl) rfl rfl ?_
    refine ev_aload_n 128 dX2_encodeFrame_127 rfl rfl ?_
    refine ev_iload 130 dX2_encodeFrame_128 rfl rfl ?_
    refine ev_invV 133 (Mc := mX2_headed) ⟨lk835, lk83, hdX2_headed, (Nat.le_of_ble_eq_true rfl), (Nat.le_of_ble_eq_true rfl)⟩ lk832 lk834 lk20 mm_cl2 rfl dX2_encodeFrame_130 (c2) rfl (hC.1 4 _ rfl) (Nat.le_of_ble_eq_true rfl) rfl rfl ?_
    have hC := hC1
    refine ev_astore 135 (lv' := [_, _, _, _, _, some (.int _), _]) dX2_encodeFrame_133 (Nat.le_of_ble_eq_true rfl) rfl rfl ?_
    refine ev_aload_n 136 dX2_encodeFrame_135 rfl rfl ?_
    refine ev_aload 138 dX2_encodeFrame_136 rfl rfl ?_
    refine ev_iload 140 dX2_encodeFrame_138 rfl rfl ?_
    refine ev_iload_n 141 dX2_encodeFrame_140 rfl rfl ?_
    refine ev_invVv 144 (Mc := mX2_writeBody) ⟨lk839, lk83, hdX2_writeBody, (Nat.le_of_ble_eq_true rfl), (Nat.le_of_ble_eq_true rfl)⟩ lk836 lk838 lk21 mm_cl2 rfl dX2_encodeFrame_141 (c3) rfl (hC.1 4 _ rfl) (Nat.le_of_ble_eq_true rfl) rfl rfl ?_
    exact E
  · rw [g7 _ (by omega) (by omega) (by omega), a3 _ (by omega), a2 _ (by omega), ← hI1, va_up_n _ _ (by omega), va_up_s]
  · rw [g7 _ (by omega) (by omega) (by omega), a3 _ (by omega), a2 _ (by omega), ← hI1, va_up_s]
  · intro k h1 h2 h3 h4 h5
    rw [g7 k h1 h2 h5, a3 k h1, a2 k h1, a1 k h4 h3]
  · intro k h1 h2 h3
    rw [g8 k h2 h3, ← hJ2, va_up_n _ _ h1]
end VEF
