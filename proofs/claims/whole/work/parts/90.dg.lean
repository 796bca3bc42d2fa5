/-! the decoder's sounds: PART after PART -/
/-- H, then V, y and the saturations, where PART k's excitation is Es k H -/
def gH (Es : Nat → (Nat → Int32) → Nat → Int32) (sb : Nat) (H0 : Nat → Int32) : Nat → Nat → Int32
  | 0 => H0
  | k + 1 => sp_sh (gH Es sb H0 k) (Es k (gH Es sb H0 k)) sb
def gV (ix : Nat → Int32) (Es : Nat → (Nat → Int32) → Nat → Int32) (Ts : Nat → (Nat → Int32) → Int64) (sb : Nat) (H0 : Nat → Int32) (s : (Nat → Int32) × (Nat → Int32) × Int64) : Nat → (Nat → Int32) × (Nat → Int32) × Int64
  | 0 => s
  | k + 1 => ((sp_sq ix (Es k (gH Es sb H0 k)) (sb * k) ((gV ix Es Ts sb H0 s k).1, (gV ix Es Ts sb H0 s k).2.1, 0) sb).1,
      (sp_sq ix (Es k (gH Es sb H0 k)) (sb * k) ((gV ix Es Ts sb H0 s k).1, (gV ix Es Ts sb H0 s k).2.1, 0) sb).2.1,
      (gV ix Es Ts sb H0 s k).2.2 + (Ts k (gH Es sb H0 k) + (sp_sq ix (Es k (gH Es sb H0 k)) (sb * k) ((gV ix Es Ts sb H0 s k).1, (gV ix Es Ts sb H0 s k).2.1, 0) sb).2.2))
theorem gH_z {Es : Nat → (Nat → Int32) → Nat → Int32} {sb : Nat} {H0 : Nat → Int32} (h : ∀ n, 160 ≤ n → H0 n = 0) : ∀ k n, 160 ≤ n → gH Es sb H0 k n = 0 := by
  intro k
  cases k with
  | zero => exact h
  | succ k => exact sp_sh_z0
theorem gH_r {Es : Nat → (Nat → Int32) → Nat → Int32} {sb : Nat} {H0 : Nat → Int32} (hb : sb ≤ 160) (hE : ∀ k H n, r16 (Es k H n)) (h : ∀ n, n < 160 → r16 (H0 n)) : ∀ k n, n < 160 → r16 (gH Es sb H0 k n) := by
  intro k
  induction k with
  | zero => exact h
  | succ k ih => exact sp_sh_r hb ih (hE k _)
theorem gV_z {ix : Nat → Int32} {Es : Nat → (Nat → Int32) → Nat → Int32} {Ts : Nat → (Nat → Int32) → Int64} {sb : Nat} {H0 V Y : Nat → Int32} {t : Int64} (h : ∀ n, 8 ≤ n → V n = 0) : ∀ k n, 8 ≤ n → (gV ix Es Ts sb H0 (V, Y, t) k).1 n = 0 := by
  intro k
  induction k with
  | zero => exact h
  | succ k ih => exact sp_sq_V ih sb
theorem gV_Y {ix : Nat → Int32} {Es : Nat → (Nat → Int32) → Nat → Int32} {Ts : Nat → (Nat → Int32) → Int64} {sb : Nat} {H0 V Y Y' : Nat → Int32} {t : Int64} : ∀ n, (gV ix Es Ts sb H0 (V, Y, t) n).1 = (gV ix Es Ts sb H0 (V, Y', t) n).1 ∧ (gV ix Es Ts sb H0 (V, Y, t) n).2.2 = (gV ix Es Ts sb H0 (V, Y', t) n).2.2 ∧
    (∀ k, k < sb * n → (gV ix Es Ts sb H0 (V, Y, t) n).2.1 k = (gV ix Es Ts sb H0 (V, Y', t) n).2.1 k) := by
  intro n
  induction n with
  | zero => exact ⟨rfl, rfl, fun k hk => by omega⟩
  | succ n ih =>
    obtain ⟨h1, h2, h3⟩ := ih
    have d1 : gV ix Es Ts sb H0 (V, Y, t) (n + 1) = ((sp_sq ix (Es n (gH Es sb H0 n)) (sb * n) ((gV ix Es Ts sb H0 (V, Y, t) n).1, (gV ix Es Ts sb H0 (V, Y, t) n).2.1, 0) sb).1, (sp_sq ix (Es n (gH Es sb H0 n)) (sb * n) ((gV ix Es Ts sb H0 (V, Y, t) n).1, (gV ix Es Ts sb H0 (V, Y, t) n).2.1, 0) sb).2.1, (gV ix Es Ts sb H0 (V, Y, t) n).2.2 + (Ts n (gH Es sb H0 n) + (sp_sq ix (Es n (gH Es sb H0 n)) (sb * n) ((gV ix Es Ts sb H0 (V, Y, t) n).1, (gV ix Es Ts sb H0 (V, Y, t) n).2.1, 0) sb).2.2)) := rfl
    have d2 : gV ix Es Ts sb H0 (V, Y', t) (n + 1) = ((sp_sq ix (Es n (gH Es sb H0 n)) (sb * n) ((gV ix Es Ts sb H0 (V, Y', t) n).1, (gV ix Es Ts sb H0 (V, Y', t) n).2.1, 0) sb).1, (sp_sq ix (Es n (gH Es sb H0 n)) (sb * n) ((gV ix Es Ts sb H0 (V, Y', t) n).1, (gV ix Es Ts sb H0 (V, Y', t) n).2.1, 0) sb).2.1, (gV ix Es Ts sb H0 (V, Y', t) n).2.2 + (Ts n (gH Es sb H0 n) + (sp_sq ix (Es n (gH Es sb H0 n)) (sb * n) ((gV ix Es Ts sb H0 (V, Y', t) n).1, (gV ix Es Ts sb H0 (V, Y', t) n).2.1, 0) sb).2.2)) := rfl
    generalize gV ix Es Ts sb H0 (V, Y, t) n = A at *
    generalize gV ix Es Ts sb H0 (V, Y', t) n = A' at *
    obtain ⟨s1, s2, s3⟩ := sp_sq_Y (ix := ix) (E := Es n (gH Es sb H0 n)) (V := A.1) (Y := A.2.1) (Y' := A'.2.1) (fr := sb * n) (t := 0) sb
    rw [h1] at s1 s2 s3
    rw [d1, d2, h1]
    refine ⟨s1, ?_, fun k hk => s3 k (by rw [Nat.mul_succ] at hk; exact hk) (fun hk => h3 k hk)⟩
    show A.2.2 + (_ + _) = A'.2.2 + (_ + _)
    rw [h2, s2]
/-- ECHO -/
def ecw (st : Int32) (A : Nat → Int32) (n : Nat) : Int64 := ((st * A n) >>> (nI 5 &&& 31)).toInt64
def ecE (st : Int32) (A : Nat → Int32) : Nat → Int32 := fun n => sp_S (ecw st A n)
def ecT (st : Int32) (A : Nat → Int32) : Nat → Int64
  | 0 => 0
  | n + 1 => ecT st A n + sp_t (ecw st A n)
def ecEs (st : Int32) (lag : Nat) : Nat → (Nat → Int32) → Nat → Int32 := fun _ H => ecE st (sp_beh H lag)
def ecTs (st : Int32) (lag sb : Nat) : Nat → (Nat → Int32) → Int64 := fun _ H => ecT st (sp_beh H lag) sb
section VDG
variable {g : mm_G} {B : mm_B} {I : mm_TI} {J : mm_TJ} {P : mm_TP} {x b m : Nat}
theorem lp_X6_echo {sb fr : Nat} {st : Int32} {A : Nat → Int32} {Z : mm_Z} (hV : lyV B P x) (hK : lyK B P x b) (hxb : x + 22 ≤ b) (hb : sb ≤ 80) (hA : ∀ n, n < sb → I (x + 7) n = A n)
    (K : Ev g mX6_echo 66 [some (.ref b), some (.int st), some (.int (nI sb)), some (.int (nI fr)), none] [] B (va_up I (x + 9) (sgp (I (x + 9)) 0 sb (ecE st A))) (sp_up J (x + 1) 3 (ecT st A sb)) P Z) : ∀ (d n : Nat), n + d = sb →
    Ev g mX6_echo 22 [some (.ref b), some (.int st), some (.int (nI sb)), some (.int (nI fr)), some (.int (nI n))] [] B (va_up I (x + 9) (sgp (I (x + 9)) 0 n (ecE st A))) (sp_up J (x + 1) 3 (ecT st A n)) P Z := by
  intro d
  induction d with
  | zero =>
    intro n hn
    obtain rfl : n = sb := by omega
    refine ev_iload 24 dX6_echo_22 rfl rfl ?_
    refine ev_iload_n 25 dX6_echo_24 rfl rfl ?_
    refine ev_icmp_geN 28 66 dX6_echo_25 (by decide) (by omega) (by omega) rfl (fun hbr => ?_) (fun hx => absurd ((by omega)) hx)
    refine ev_le (mle_s (mle_s (mle_s (mle_s (mle_n (mle_0)))))) ?_
    exact K
  | succ d ih =>
    intro n hn
    have e := ih (n + 1) (by omega)
    rw [← sg0_grow (w := ecE st A n) rfl, show ecT st A (n + 1) = ecT st A n + sp_t (ecw st A n) from rfl, ← sp_up_up] at e
    refine ev_iload 24 dX6_echo_22 rfl rfl ?_
    refine ev_iload_n 25 dX6_echo_24 rfl rfl ?_
    refine ev_icmp_geN 28 66 dX6_echo_25 (by decide) (by omega) (by omega) rfl (fun hx => absurd hx ((by omega))) (fun hbr => ?_)
    refine ev_aload_n 29 dX6_echo_28 rfl rfl ?_
    refine ev_getP 32 mm_cl6 (j := 5) (Nat.le_of_ble_eq_true rfl) dX6_echo_29 lk355 (fun _ _ _ => rfl) (hK.1 0 _ rfl) (a := (x + 4)) (hK.2.2.2 1 _ _ _ rfl) rfl ?_
    refine ev_getP 35 mm_cl8 (j := 4) (Nat.le_of_ble_eq_true rfl) dX6_echo_32 lk144 (fun _ _ _ => rfl) (hV.1 4 _ rfl) (a := (x + 9)) (hV.2.2 12 _ _ _ rfl) rfl ?_
    refine ev_iload 37 dX6_echo_35 rfl rfl ?_
    refine ev_aload_n 38 dX6_echo_37 rfl rfl ?_
    refine ev_getP 41 mm_cl6 (j := 4) (Nat.le_of_ble_eq_true rfl) dX6_echo_38 lk354 (fun _ _ _ => rfl) (hK.1 0 _ rfl) (a := (x + 1)) (hK.2.2.2 0 _ _ _ rfl) rfl ?_
    refine ev_iload_n 42 dX6_echo_41 rfl rfl ?_
    refine ev_aload_n 43 dX6_echo_42 rfl rfl ?_
    refine ev_getP 46 mm_cl6 (j := 5) (Nat.le_of_ble_eq_true rfl) dX6_echo_43 lk355 (fun _ _ _ => rfl) (hK.1 0 _ rfl) (a := (x + 4)) (hK.2.2.2 1 _ _ _ rfl) rfl ?_
    refine ev_getP 49 mm_cl8 (j := 2) (Nat.le_of_ble_eq_true rfl) dX6_echo_46 lk139 (fun _ _ _ => rfl) (hV.1 4 _ rfl) (a := (x + 7)) (hV.2.2 10 _ _ _ rfl) rfl ?_
    refine ev_iload 51 dX6_echo_49 rfl rfl ?_
    refine ev_iald 52 _ dX6_echo_51 (hV.1 7 _ rfl) rfl (by have hNN := hV.2.1 7 _ rfl; omega) rfl ?_
    refine ev_eqI (y := (A n)) ((by rw [va_up_n _ _ (by omega)]; exact hA n (by omega))) ?_
    refine ev_imul 53 dX6_echo_52 rfl ?_
    refine ev_iconstN 54 5 dX6_echo_53 rfl ?_
    refine ev_ishr 55 dX6_echo_54 rfl ?_
    refine ev_i2l 56 dX6_echo_55 rfl ?_
    refine ev_invV 59 (Mc := mX10_narrow) ⟨lk674, lk76, hdX10_narrow, (Nat.le_of_ble_eq_true rfl), (Nat.le_of_ble_eq_true rfl)⟩ lk814 lk672 lk673 mm_cl10 rfl dX6_echo_56 (ct_X10_narrow hV) rfl (hV.1 1 _ rfl) (Nat.le_of_ble_eq_true rfl) rfl rfl ?_
    refine ev_iast 60 _ dX6_echo_59 (hV.1 9 _ rfl) rfl (by have hNN := hV.2.1 9 _ rfl; omega) rfl ?_
    refine ev_iincN 63 (lv' := [_, _, _, some (.int _), _]) 1 dX6_echo_60 rfl (Nat.le_of_ble_eq_true rfl) rfl rfl ?_
    refine ev_goto 22 dX6_echo_63 (by decide) ?_
    rw [va_up_s, bx_uu]
    exact e
theorem cx_X6_echo {sb fr L : Nat} {st : Int32} (hV : lyV B P x) (hK : lyK B P x b) (hxb : x + 22 ≤ b) (hb : sb ≤ 80) (hfr : fr + sb ≤ 321) (hL : 20 ≤ L) (hL2 : L ≤ 147) (hlag : I b 3 = nI L) (hz : ∀ j, 160 ≤ j → I (b + 1) j = 0) : ∃ I' : mm_TI, Ct g mX6_echo [.ref b, .int st, .int (nI sb), .int (nI fr)] B I J P
    (none, B, I', sp_up J (x + 1) 3 (ecT st (sp_beh (I (b + 1)) L) sb + (sp_sq (I (b + 3)) (ecE st (sp_beh (I (b + 1)) L)) fr (I (b + 2), I (x + 6), 0) sb).2.2), P) ∧
    I' (b + 1) = sp_sh (I (b + 1)) (ecE st (sp_beh (I (b + 1)) L)) sb ∧ I' (b + 2) = (sp_sq (I (b + 3)) (ecE st (sp_beh (I (b + 1)) L)) fr (I (b + 2), I (x + 6), 0) sb).1 ∧ I' (x + 6) = (sp_sq (I (b + 3)) (ecE st (sp_beh (I (b + 1)) L)) fr (I (b + 2), I (x + 6), 0) sb).2.1 ∧
    (∀ q, q ≠ b + 1 → q ≠ b + 2 → q ≠ x + 6 → q ≠ x + 7 → q ≠ x + 9 → I' q = I q) := by
  have n160 := hK.2.1 1 _ rfl
  have n7 := hV.2.1 7 _ rfl
  generalize hE : ecE st (sp_beh (I (b + 1)) L) = E
  generalize hI1 : va_up I (x + 7) (sgp (I (x + 7)) 0 sb (sp_beh (I (b + 1)) L)) = I1
  have a1 : ∀ q, q ≠ x + 7 → I1 q = I q := fun q h => by rw [← hI1, va_up_n _ _ h]
  obtain ⟨I', c', r1, r2, r3, r4⟩ := cx_X6_settle (g := g) (I := va_up I1 (x + 9) (sgp (I1 (x + 9)) 0 sb E)) (J := sp_up J (x + 1) 3 (ecT st (sp_beh (I (b + 1)) L) sb)) (fr := fr) (sb := sb) (E := E) (H := I (b + 1)) hV hK hxb hb hfr
    (fun n hn => by rw [va_up_s]; exact sg0_in hn) (by rw [va_up_n _ _ (by omega)]; exact a1 _ (by omega)) hz
  simp only [va_up_n I1 (k := x + 9) (j := b + 2) _ (by omega), va_up_n I1 (k := x + 9) (j := b + 3) _ (by omega), va_up_n I1 (k := x + 9) (j := x + 6) _ (by omega), a1 (b + 2) (by omega), a1 (b + 3) (by omega), a1 (x + 6) (by omega), sp_up_up] at c' r1 r2 r3
  refine ⟨I', ?_, r1, r2, r3, fun q h1 h2 h3 h4 h5 => ?_⟩
  · have e := lp_X6_echo (g := g) (I := I1) (J := J) (P := P) (sb := sb) (fr := fr) (st := st) (A := sp_beh (I (b + 1)) L) (Z := (none, B, I', sp_up J (x + 1) 3 (ecT st (sp_beh (I (b + 1)) L) sb + (sp_sq (I (b + 3)) E fr (I (b + 2), I (x + 6), 0) sb).2.2), P)) hV hK hxb hb (fun n hn => by rw [← hI1, va_up_s]; exact sg0_in hn) (by
      rw [hE]
      refine ev_aload_n 67 dX6_echo_66 rfl rfl ?_
      refine ev_iload_n 68 dX6_echo_67 rfl rfl ?_
      refine ev_iload_n 69 dX6_echo_68 rfl rfl ?_
      refine ev_invVv 72 (Mc := mX6_settle) ⟨lk818, lk84, hdX6_settle, (Nat.le_of_ble_eq_true rfl), (Nat.le_of_ble_eq_true rfl)⟩ lk815 lk817 lk18 mm_cl6 rfl dX6_echo_69 (c') rfl (hK.1 0 _ rfl) (Nat.le_of_ble_eq_true rfl) rfl rfl ?_
      exact ev_vret dX6_echo_72 rfl (rfl)
      ) sb 0 (by omega)
    rw [sgp_0, va_up_id, show ecT st (sp_beh (I (b + 1)) L) 0 = 0 from rfl, sp_up_0] at e
    refine ct_of (lv := [some (.ref b), some (.int st), some (.int (nI sb)), some (.int (nI fr)), none]) (by decide +kernel) (Nat.le_of_ble_eq_true rfl) rfl ?_
    refine ev_aload_n 1 dX6_echo_0 rfl rfl ?_
    refine ev_getP 4 mm_cl6 (j := 0) (Nat.le_of_ble_eq_true rfl) dX6_echo_1 lk341 (fun _ _ _ => rfl) (hK.1 0 _ rfl) (a := (b + 1)) (hK.2.2.1 0 _ _ _ rfl) rfl ?_
    refine ev_aload_n 5 dX6_echo_4 rfl rfl ?_
    refine ev_getI 8 mm_cl6 (j := 3) (Nat.le_of_ble_eq_true rfl) dX6_echo_5 lk350 (fun _ _ _ => rfl) (hK.1 0 _ rfl) rfl ?_
    refine ev_eqI (y := nI (L)) (hlag) ?_
    refine ev_aload_n 9 dX6_echo_8 rfl rfl ?_
    refine ev_getP 12 mm_cl6 (j := 5) (Nat.le_of_ble_eq_true rfl) dX6_echo_9 lk355 (fun _ _ _ => rfl) (hK.1 0 _ rfl) (a := (x + 4)) (hK.2.2.2 1 _ _ _ rfl) rfl ?_
    refine ev_getP 15 mm_cl8 (j := 2) (Nat.le_of_ble_eq_true rfl) dX6_echo_12 lk139 (fun _ _ _ => rfl) (hV.1 4 _ rfl) (a := (x + 7)) (hV.2.2 10 _ _ _ rfl) rfl ?_
    refine ev_iload_n 16 dX6_echo_15 rfl rfl ?_
    refine ev_invSNv 19 (Mc := mX11_lookBehind) ⟨lk756, lk75, hdX11_lookBehind, (Nat.le_of_ble_eq_true rfl), (Nat.le_of_ble_eq_true rfl)⟩ lk803 lk755 dX6_echo_16 (ct_X11_lookBehind (qh := b + 1) (qa := x + 7) (by omega) (hK.1 1 _ rfl) (hV.1 7 _ rfl) (by omega) (by omega) hb hL hL2) rfl (Nat.le_of_ble_eq_true rfl) rfl rfl ?_
    rw [hI1]
    refine ev_iconstN 20 0 dX6_echo_19 rfl ?_
    refine ev_istore 22 (lv' := [_, _, _, some (.int _), _]) dX6_echo_20 (Nat.le_of_ble_eq_true rfl) rfl rfl ?_
    exact e
  · rw [r4 q h1 h2 h3, va_up_n _ _ h5]; exact a1 q h4
/-- the model's echo, one PART -/
theorem lp_X12_ech {c lb s sb at_ wy k : Nat} {st v : Int32} {A : Nat → Int32} {Z : mm_Z} (hM : lyM B P m) (hb : sb ≤ 80) (hA : ∀ n, n < sb → I (m + 55) n = A n)
    (K : Ev g mX12_repair0 253 [some (.ref m), some (.int (nI c)), some (.int (nI lb)), some (.int (nI s)), some (.int (nI sb)), some (.int v), some (.int st), some (.int (nI wy)), some (.int (nI k)), none] [] B (va_up I (m + 57) (sgp (I (m + 57)) 0 sb (ecE st A))) (sp_up J m 2 (ecT st A sb)) P Z) : ∀ (d n : Nat), n + d = sb →
    Ev g mX12_repair0 216 [some (.ref m), some (.int (nI c)), some (.int (nI lb)), some (.int (nI s)), some (.int (nI sb)), some (.int v), some (.int st), some (.int (nI wy)), some (.int (nI k)), some (.int (nI n))] [] B (va_up I (m + 57) (sgp (I (m + 57)) 0 n (ecE st A))) (sp_up J m 2 (ecT st A n)) P Z := by
  intro d
  induction d with
  | zero =>
    intro n hn
    obtain rfl : n = sb := by omega
    refine ev_iload 218 dX12_repair0_216 rfl rfl ?_
    refine ev_iload 220 dX12_repair0_218 rfl rfl ?_
    refine ev_icmp_geN 223 253 dX12_repair0_220 (by decide) (by omega) (by omega) rfl (fun hbr => ?_) (fun hx => absurd ((by omega)) hx)
    refine ev_le (mle_s (mle_s (mle_s (mle_s (mle_s (mle_s (mle_s (mle_s (mle_s (mle_n (mle_0))))))))))) ?_
    exact K
  | succ d ih =>
    intro n hn
    have e := ih (n + 1) (by omega)
    rw [← sg0_grow (w := ecE st A n) rfl, show ecT st A (n + 1) = ecT st A n + sp_t (ecw st A n) from rfl, ← sp_up_up] at e
    refine ev_iload 218 dX12_repair0_216 rfl rfl ?_
    refine ev_iload 220 dX12_repair0_218 rfl rfl ?_
    refine ev_icmp_geN 223 253 dX12_repair0_220 (by decide) (by omega) (by omega) rfl (fun hx => absurd hx ((by omega))) (fun hbr => ?_)
    refine ev_aload_n 224 dX12_repair0_223 rfl rfl ?_
    refine ev_getP 227 mm_cl12 (j := 63) (Nat.le_of_ble_eq_true rfl) dX12_repair0_224 lk1348 (fun _ _ _ => rfl) (hM.1 0 _ rfl) (a := (m + 57)) (hM.2.2 56 _ _ _ rfl) rfl ?_
    refine ev_iload 229 dX12_repair0_227 rfl rfl ?_
    refine ev_aload_n 230 dX12_repair0_229 rfl rfl ?_
    refine ev_iload 232 dX12_repair0_230 rfl rfl ?_
    refine ev_aload_n 233 dX12_repair0_232 rfl rfl ?_
    refine ev_getP 236 mm_cl12 (j := 61) (Nat.le_of_ble_eq_true rfl) dX12_repair0_233 lk1346 (fun _ _ _ => rfl) (hM.1 0 _ rfl) (a := (m + 55)) (hM.2.2 54 _ _ _ rfl) rfl ?_
    refine ev_iload 238 dX12_repair0_236 rfl rfl ?_
    refine ev_iald 239 _ dX12_repair0_238 (hM.1 55 _ rfl) rfl (by have hNN := hM.2.1 55 _ rfl; omega) rfl ?_
    refine ev_eqI (y := (A n)) ((by rw [va_up_n _ _ (by omega)]; exact hA n (by omega))) ?_
    refine ev_imul 240 dX12_repair0_239 rfl ?_
    refine ev_iconstN 241 5 dX12_repair0_240 rfl ?_
    refine ev_ishr 242 dX12_repair0_241 rfl ?_
    refine ev_i2l 243 dX12_repair0_242 rfl ?_
    refine ev_invV 246 (Mc := mX12_sample16) ⟨lk1608, lk80, hdX12_sample16, (Nat.le_of_ble_eq_true rfl), (Nat.le_of_ble_eq_true rfl)⟩ lk1605 lk1607 lk42 mm_cl12 rfl dX12_repair0_243 (ct_X12_sample16 hM) rfl (hM.1 0 _ rfl) (Nat.le_of_ble_eq_true rfl) rfl rfl ?_
    refine ev_iast 247 _ dX12_repair0_246 (hM.1 57 _ rfl) rfl (by have hNN := hM.2.1 57 _ rfl; omega) rfl ?_
    refine ev_iincN 250 (lv' := [_, _, _, _, _, _, _, _, some (.int _), _]) 1 dX12_repair0_247 rfl (Nat.le_of_ble_eq_true rfl) rfl rfl ?_
    refine ev_goto 216 dX12_repair0_250 (by decide) ?_
    rw [va_up_s, bx_uu]
    exact e
/-- PARTS of an echo -/
theorem lx_X12_ech4 {c lb s sb wy L : Nat} {st v : Int32} {I0 : mm_TI} {J0 : mm_TJ} {ix H0 V0 Y0 : Nat → Int32} (hM : lyM B P m) (hs : s < 16) (hb : sb = 40 ∨ sb = 80) (hL : 20 ≤ L) (hL2 : L ≤ 147) (hlag : I0 (m + 18) s = nI L) (hix : sg (I0 (m + 17)) (8 * s) 8 = ix) (hHz : ∀ n, 160 ≤ n → H0 n = 0) (hVz : ∀ n, 8 ≤ n → V0 n = 0) : ∀ (d k : Nat), k + d = 4 → ∀ I : mm_TI,
    sg (I (m + 15)) (160 * s) 160 = gH (ecEs st L) sb H0 k → (∀ j, j < 160 * s ∨ 160 * s + 160 ≤ j → I (m + 15) j = I0 (m + 15) j) → sg (I (m + 16)) (8 * s) 8 = (gV ix (ecEs st L) (ecTs st L sb) sb H0 (V0, Y0, 0) k).1 → (∀ j, j < 8 * s ∨ 8 * s + 8 ≤ j → I (m + 16) j = I0 (m + 16) j) → I (m + 54) = (gV ix (ecEs st L) (ecTs st L sb) sb H0 (V0, Y0, 0) k).2.1 → (∀ q, q ≠ m + 15 → q ≠ m + 16 → q < m + 54 ∨ m + 57 < q → I q = I0 q) →
    ∃ I' : mm_TI, (sg (I' (m + 15)) (160 * s) 160 = gH (ecEs st L) sb H0 4 ∧ ∀ j, j < 160 * s ∨ 160 * s + 160 ≤ j → I' (m + 15) j = I0 (m + 15) j) ∧ (sg (I' (m + 16)) (8 * s) 8 = (gV ix (ecEs st L) (ecTs st L sb) sb H0 (V0, Y0, 0) 4).1 ∧ ∀ j, j < 8 * s ∨ 8 * s + 8 ≤ j → I' (m + 16) j = I0 (m + 16) j) ∧ I' (m + 54) = (gV ix (ecEs st L) (ecTs st L sb) sb H0 (V0, Y0, 0) 4).2.1 ∧ (∀ q, q ≠ m + 15 → q ≠ m + 16 → q < m + 54 ∨ m + 57 < q → I' q = I0 q) ∧
      Ev g mX12_repair0 194 [some (.ref m), some (.int (nI c)), some (.int (nI lb)), some (.int (nI s)), some (.int (nI sb)), some (.int v), some (.int st), some (.int (nI wy)), some (.int (nI k)), none] [] B I (sp_up J0 m 2 (gV ix (ecEs st L) (ecTs st L sb) sb H0 (V0, Y0, 0) k).2.2) P (none, B, I', sp_up J0 m 2 (gV ix (ecEs st L) (ecTs st L sb) sb H0 (V0, Y0, 0) 4).2.2, P) := by
  intro d
  induction d with
  | zero =>
    intro k hk I h1 h1' h2 h2' h3 h4
    obtain rfl : k = 4 := by omega
    refine ⟨I, ⟨h1, h1'⟩, ⟨h2, h2'⟩, h3, h4, ?_⟩
    refine ev_iload 196 dX12_repair0_194 rfl rfl ?_
    refine ev_iconstN 197 4 dX12_repair0_196 rfl ?_
    refine ev_icmp_geN 200 271 dX12_repair0_197 (by decide) (by omega) (by omega) rfl (fun hbr => ?_) (fun hx => absurd ((by omega)) hx)
    exact ev_vret dX12_repair0_271 rfl (rfl)
  | succ d ih =>
    intro k hk I h1 h1' h2 h2' h3 h4
    have hsb : sb ≤ 80 := by omega
    have hsk : sb * k + sb ≤ 320 := by
      have := Nat.mul_le_mul_left sb (show k + 1 ≤ 4 by omega)
      rw [Nat.mul_add] at this; omega
    have dH : gH (ecEs st L) sb H0 (k + 1) = sp_sh (gH (ecEs st L) sb H0 k) (ecE st (sp_beh (gH (ecEs st L) sb H0 k) L)) sb := rfl
    have dV : gV ix (ecEs st L) (ecTs st L sb) sb H0 (V0, Y0, 0) (k + 1) = ((sp_sq ix (ecE st (sp_beh (gH (ecEs st L) sb H0 k) L)) (sb * k) ((gV ix (ecEs st L) (ecTs st L sb) sb H0 (V0, Y0, 0) k).1, (gV ix (ecEs st L) (ecTs st L sb) sb H0 (V0, Y0, 0) k).2.1, 0) sb).1, (sp_sq ix (ecE st (sp_beh (gH (ecEs st L) sb H0 k) L)) (sb * k) ((gV ix (ecEs st L) (ecTs st L sb) sb H0 (V0, Y0, 0) k).1, (gV ix (ecEs st L) (ecTs st L sb) sb H0 (V0, Y0, 0) k).2.1, 0) sb).2.1, (gV ix (ecEs st L) (ecTs st L sb) sb H0 (V0, Y0, 0) k).2.2 + (ecT st (sp_beh (gH (ecEs st L) sb H0 k) L) sb + (sp_sq ix (ecE st (sp_beh (gH (ecEs st L) sb H0 k) L)) (sb * k) ((gV ix (ecEs st L) (ecTs st L sb) sb H0 (V0, Y0, 0) k).1, (gV ix (ecEs st L) (ecTs st L sb) sb H0 (V0, Y0, 0) k).2.1, 0) sb).2.2)) := rfl
    have z1 := gH_z (Es := ecEs st L) (sb := sb) hHz (k + 1)
    have z2 := gV_z (ix := ix) (Es := ecEs st L) (Ts := ecTs st L sb) (sb := sb) (H0 := H0) (Y := Y0) (t := 0) hVz (k + 1)
    generalize hg2 : gV ix (ecEs st L) (ecTs st L sb) sb H0 (V0, Y0, 0) (k + 1) = VV1 at *
    generalize hg1 : gH (ecEs st L) sb H0 (k + 1) = H1 at *
    generalize gH (ecEs st L) sb H0 k = H at *
    generalize gV ix (ecEs st L) (ecTs st L sb) sb H0 (V0, Y0, 0) k = VV at *
    generalize hI1 : va_up I (m + 55) (sgp (I (m + 55)) 0 sb (sp_beh H L)) = I1
    have a1 : ∀ q, q ≠ m + 55 → I1 q = I q := fun q h => by rw [← hI1, va_up_n _ _ h]
    have cb := ct_X12_behind (g := g) (B := B) (I := I) (J := sp_up J0 m 2 VV.2.2) (P := P) (m := m) (s := s) (L := L) (sb := sb) hM hs hL hL2 hsb
    rw [h1, hI1] at cb
    obtain ⟨I2, c2, y1, y2, y3, y4⟩ := cx_X12_sound (g := g) (B := B) (I := va_up I1 (m + 57) (sgp (I1 (m + 57)) 0 sb (ecE st (sp_beh H L)))) (J := sp_up (sp_up J0 m 2 VV.2.2) m 2 (ecT st (sp_beh H L) sb)) (P := P) (m := m) (s := s) (fr := sb * k) (sb := sb) (E := ecE st (sp_beh H L)) (H := H) (V := VV.1) hM hs hsb (by omega) (fun n hn => by rw [va_up_s]; exact sg0_in hn) (by rw [va_up_n _ _ (by omega), a1 _ (by omega)]; exact h1) (by rw [va_up_n _ _ (by omega), a1 _ (by omega)]; exact h2)
    simp only [va_up_n I1 (k := m + 57) (j := m + 17) _ (by omega), va_up_n I1 (k := m + 57) (j := m + 54) _ (by omega), va_up_n I1 (k := m + 57) (j := m + 15) _ (by omega), va_up_n I1 (k := m + 57) (j := m + 16) _ (by omega), a1 (m + 17) (by omega), a1 (m + 54) (by omega), a1 (m + 15) (by omega), a1 (m + 16) (by omega), h4 (m + 17) (by omega) (by omega) (by omega), hix, h3, sp_up_up, Int64.add_assoc] at c2 y1 y2 y3
    rw [show VV.2.2 + (ecT st (sp_beh H L) sb + (sp_sq ix (ecE st (sp_beh H L)) (sb * k) (VV.1, VV.2.1, 0) sb).2.2) = VV1.2.2 by rw [dV]] at c2
    have A2 : ∀ q, q ≠ m + 15 → q ≠ m + 16 → q < m + 54 ∨ m + 57 < q → I2 q = I0 q := fun q g1 g2 g3 => by rw [y4 q g1 g2 (by omega), va_up_n _ _ (by omega), a1 q (by omega)]; exact h4 q g1 g2 g3
    obtain ⟨I', p1, p2, p3, p4, p5⟩ := ih (k + 1) (by omega) I2 (by rw [hg1, y1, sg_sgp (by rw [← dH]; exact z1), dH]) (fun j hj => by rw [y1, sgp_out hj]; exact h1' j hj) (by rw [hg2, y2, sg_sgp (by intro n hn; have := z2 n hn; rw [dV] at this; exact this), dV]) (fun j hj => by rw [y2, sgp_out hj]; exact h2' j hj) (by rw [hg2, y3, dV]) A2
    rw [hg2] at p5
    refine ⟨I', p1, p2, p3, p4, ?_⟩
    have e := lp_X12_ech (g := g) (I := I1) (J := sp_up J0 m 2 VV.2.2) (P := P) (c := c) (lb := lb) (s := s) (sb := sb) (at_ := 0) (wy := wy) (k := k) (st := st) (v := v) (A := sp_beh H L) (Z := (none, B, I', sp_up J0 m 2 (gV ix (ecEs st L) (ecTs st L sb) sb H0 (V0, Y0, 0) 4).2.2, P)) hM hsb (fun n hn => by rw [← hI1, va_up_s]; exact sg0_in hn) (by
      refine ev_aload_n 254 dX12_repair0_253 rfl rfl ?_
      refine ev_iload_n 255 dX12_repair0_254 rfl rfl ?_
      refine ev_iload 257 dX12_repair0_255 rfl rfl ?_
      refine ev_iload 259 dX12_repair0_257 rfl rfl ?_
      refine ev_imulN 260 dX12_repair0_259 rfl ?_
      refine ev_iload 262 dX12_repair0_260 rfl rfl ?_
      rw [sp_up_up]
      refine ev_invVv 265 (Mc := mX12_sound) ⟨lk1622, lk80, hdX12_sound, (Nat.le_of_ble_eq_true rfl), (Nat.le_of_ble_eq_true rfl)⟩ lk1619 lk1621 lk45 mm_cl12 rfl dX12_repair0_262 (c2) rfl (hM.1 0 _ rfl) (Nat.le_of_ble_eq_true rfl) rfl rfl ?_
      refine ev_iincN 268 (lv' := [_, _, _, _, _, _, _, some (.int _), _, _]) 1 dX12_repair0_265 rfl (Nat.le_of_ble_eq_true rfl) rfl rfl ?_
      refine ev_goto 194 dX12_repair0_268 (by decide) ?_
      exact p5) sb 0 (by omega)
    rw [sgp_0, va_up_id, show ecT st (sp_beh H L) 0 = 0 from rfl, sp_up_0] at e
    refine ev_iload 196 dX12_repair0_194 rfl rfl ?_
    refine ev_iconstN 197 4 dX12_repair0_196 rfl ?_
    refine ev_icmp_geN 200 271 dX12_repair0_197 (by decide) (by omega) (by omega) rfl (fun hx => absurd hx ((by omega))) (fun hbr => ?_)
    refine ev_aload_n 201 dX12_repair0_200 rfl rfl ?_
    refine ev_iload_n 202 dX12_repair0_201 rfl rfl ?_
    refine ev_aload_n 203 dX12_repair0_202 rfl rfl ?_
    refine ev_getP 206 mm_cl12 (j := 23) (Nat.le_of_ble_eq_true rfl) dX12_repair0_203 lk1308 (fun _ _ _ => rfl) (hM.1 0 _ rfl) (a := (m + 18)) (hM.2.2 17 _ _ _ rfl) rfl ?_
    refine ev_iload_n 207 dX12_repair0_206 rfl rfl ?_
    refine ev_iald 208 _ dX12_repair0_207 (hM.1 18 _ rfl) rfl (by have hNN := hM.2.1 18 _ rfl; omega) rfl ?_
    refine ev_eqI (y := nI (L)) ((by rw [h4 _ (by omega) (by omega) (by omega)]; exact hlag)) ?_
    refine ev_iload 210 dX12_repair0_208 rfl rfl ?_
    refine ev_invVv 213 (Mc := mX12_behind) ⟨lk1694, lk80, hdX12_behind, (Nat.le_of_ble_eq_true rfl), (Nat.le_of_ble_eq_true rfl)⟩ lk1691 lk1693 lk58 mm_cl12 rfl dX12_repair0_210 (cb) rfl (hM.1 0 _ rfl) (Nat.le_of_ble_eq_true rfl) rfl rfl ?_
    refine ev_iconstN 214 0 dX12_repair0_213 rfl ?_
    refine ev_istore 216 (lv' := [_, _, _, _, _, _, _, _, some (.int _), _]) dX12_repair0_214 (Nat.le_of_ble_eq_true rfl) rfl rfl ?_
    exact e
end VDG
