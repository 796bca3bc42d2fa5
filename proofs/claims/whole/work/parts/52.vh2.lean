section VH2
variable {g : mm_G} {B : mm_B} {I : mm_TI} {J : mm_TJ} {P : mm_TP} {x b : Nat}
theorem lp_X6_hush1 {z sb p : Nat} {sd pk : Int32} {Z : mm_Z} (hV : lyV B P x) (hK : lyK B P x b) (hb : sb ≤ 80) (hz : z < 2 ^ 31) (hp : p < 4)
    (k : Ev g mX6_hush 71 [some (.ref b), some (.int sd), some (.int pk), some (.int (nI sb)), some (.long (lN (sp_dz z sb))), none, some (.int (nI p)), some (.int (nI sb))] [] B (va_up I (x + 9) (sgp (I (x + 9)) 0 sb (sp_hE pk z))) (sp_up J (x + 1) 3 (sp_hT pk z sb)) P Z) : ∀ (d n : Nat), n + d = sb →
    Ev g mX6_hush 24 [some (.ref b), some (.int sd), some (.int pk), some (.int (nI sb)), some (.long (lN (sp_dz z n))), none, some (.int (nI p)), some (.int (nI n))] [] B (va_up I (x + 9) (sgp (I (x + 9)) 0 n (sp_hE pk z))) (sp_up J (x + 1) 3 (sp_hT pk z n)) P Z := by
  intro d
  induction d with
  | zero =>
    intro n hn
    refine ev_iload 26 dX6_hush_24 rfl rfl ?_
    refine ev_iload_n 27 dX6_hush_26 rfl rfl ?_
    refine ev_icmp_geN 30 71 dX6_hush_27 (by decide) (by omega) (by omega) rfl (fun hbr => ?_) (fun hx => absurd ((by omega)) hx)
    obtain rfl : n = sb := by omega
    exact k
  | succ d ih =>
    intro n hn
    refine ev_iload 26 dX6_hush_24 rfl rfl ?_
    refine ev_iload_n 27 dX6_hush_26 rfl rfl ?_
    refine ev_icmp_geN 30 71 dX6_hush_27 (by decide) (by omega) (by omega) rfl (fun hx => absurd hx ((by omega))) (fun hbr => ?_)
    refine ev_lload 32 dX6_hush_30 rfl rfl ?_
    refine ev_invSN 35 (Mc := mX11_drawnFrom) ⟨lk619, lk75, hdX11_drawnFrom, (Nat.le_of_ble_eq_true rfl), (Nat.le_of_ble_eq_true rfl)⟩ lk830 lk618 dX6_hush_32 (ct_X11_drawnFrom (sp_dz_lt hz n)) rfl (Nat.le_of_ble_eq_true rfl) rfl rfl ?_
    refine ev_lstore 37 (lv' := [_, _, _, some (.int _), _, _, _, _]) dX6_hush_35 (Nat.le_of_ble_eq_true rfl) rfl rfl ?_
    refine ev_aload_n 38 dX6_hush_37 rfl rfl ?_
    refine ev_getP 41 mm_cl6 (j := 5) (Nat.le_of_ble_eq_true rfl) dX6_hush_38 lk355 (fun _ _ _ => rfl) (hK.1 0 _ rfl) (a := (x + 4)) (hK.2.2.2 1 _ _ _ rfl) rfl ?_
    refine ev_getP 44 mm_cl8 (j := 4) (Nat.le_of_ble_eq_true rfl) dX6_hush_41 lk144 (fun _ _ _ => rfl) (hV.1 4 _ rfl) (a := (x + 9)) (hV.2.2 12 _ _ _ rfl) rfl ?_
    refine ev_iload 46 dX6_hush_44 rfl rfl ?_
    refine ev_aload_n 47 dX6_hush_46 rfl rfl ?_
    refine ev_getP 50 mm_cl6 (j := 4) (Nat.le_of_ble_eq_true rfl) dX6_hush_47 lk354 (fun _ _ _ => rfl) (hK.1 0 _ rfl) (a := (x + 1)) (hK.2.2.2 0 _ _ _ rfl) rfl ?_
    refine ev_lload 52 dX6_hush_50 rfl rfl ?_
    refine ev_invSN 55 (Mc := mX11_drawOf) ⟨lk625, lk75, hdX11_drawOf, (Nat.le_of_ble_eq_true rfl), (Nat.le_of_ble_eq_true rfl)⟩ lk831 lk624 dX6_hush_52 (ct_X11_drawOf (sp_dn_lt _)) rfl (Nat.le_of_ble_eq_true rfl) rfl rfl ?_
    refine ev_iload_n 56 dX6_hush_55 rfl rfl ?_
    refine ev_imul 57 dX6_hush_56 rfl ?_
    refine ev_bipushN 59 8 dX6_hush_57 (by decide +kernel) rfl ?_
    refine ev_ishr 60 dX6_hush_59 rfl ?_
    refine ev_i2l 61 dX6_hush_60 rfl ?_
    refine ev_invV 64 (Mc := mX10_narrow) ⟨lk674, lk76, hdX10_narrow, (Nat.le_of_ble_eq_true rfl), (Nat.le_of_ble_eq_true rfl)⟩ lk814 lk672 lk673 mm_cl10 rfl dX6_hush_61 (ct_X10_narrow hV) rfl (hV.1 1 _ rfl) (Nat.le_of_ble_eq_true rfl) rfl rfl ?_
    rw [sp_up_up]
    refine ev_iast 65 _ dX6_hush_64 (hV.1 9 _ rfl) rfl (by have hNN := hV.2.1 9 _ rfl; omega) rfl ?_
    refine ev_iincN 68 (lv' := [_, _, _, _, _, _, some (.int _), _]) 1 dX6_hush_65 rfl (Nat.le_of_ble_eq_true rfl) rfl rfl ?_
    refine ev_goto 24 dX6_hush_68 (by decide) ?_
    have e2 := sgp_grow (f := I (x + 9)) (off := 0) (n := n) (v := sp_hE pk z) (x := sp_S (sp_hw pk z n)) rfl
    simp only [Nat.zero_add] at e2
    have e3 := ih (n + 1) (by omega)
    rw [← e2] at e3
    rw [va_up_s, bx_uu]
    exact e3
theorem lp_X6_hush2 {I0 : mm_TI} {z sb : Nat} {sd pk : Int32} (hV : lyV B P x) (hK : lyK B P x b) (hxb : x + 22 ≤ b) (hb : sb ≤ 80) (hz : z < 2 ^ 31) (hz1 : ∀ j, 160 ≤ j → I0 (b + 1) j = 0) (hz2 : ∀ j, 8 ≤ j → I0 (b + 2) j = 0) : ∀ (d p : Nat), p + d = 4 → ∀ (I : mm_TI),
    I (b + 1) = (sp_hu (I0 (b + 3)) pk z sb (I0 (b + 1), I0 (b + 2), I0 (x + 6), 0) p).1 →
    I (b + 2) = (sp_hu (I0 (b + 3)) pk z sb (I0 (b + 1), I0 (b + 2), I0 (x + 6), 0) p).2.1 →
    I (x + 6) = (sp_hu (I0 (b + 3)) pk z sb (I0 (b + 1), I0 (b + 2), I0 (x + 6), 0) p).2.2.1 →
    (∀ q, q ≠ b + 1 → q ≠ b + 2 → q ≠ x + 6 → q ≠ x + 9 → I q = I0 q) →
    ∃ I' : mm_TI,
    Ev g mX6_hush 15 [some (.ref b), some (.int sd), some (.int pk), some (.int (nI sb)), some (.long (lN (sp_dz z (p * sb)))), none, some (.int (nI p)), none] [] B I (sp_up J (x + 1) 3 (sp_hu (I0 (b + 3)) pk z sb (I0 (b + 1), I0 (b + 2), I0 (x + 6), 0) p).2.2.2) P
      (none, B, I', sp_up J (x + 1) 3 (sp_hu (I0 (b + 3)) pk z sb (I0 (b + 1), I0 (b + 2), I0 (x + 6), 0) 4).2.2.2, P) ∧
    I' (b + 1) = (sp_hu (I0 (b + 3)) pk z sb (I0 (b + 1), I0 (b + 2), I0 (x + 6), 0) 4).1 ∧
    I' (b + 2) = (sp_hu (I0 (b + 3)) pk z sb (I0 (b + 1), I0 (b + 2), I0 (x + 6), 0) 4).2.1 ∧
    I' (x + 6) = (sp_hu (I0 (b + 3)) pk z sb (I0 (b + 1), I0 (b + 2), I0 (x + 6), 0) 4).2.2.1 ∧
    (∀ q, q ≠ b + 1 → q ≠ b + 2 → q ≠ x + 6 → q ≠ x + 9 → I' q = I0 q) := by
  have hzz := sp_hu_z (ix := I0 (b + 3)) (pk := pk) (z := z) (sb := sb) (s := (I0 (b + 1), I0 (b + 2), I0 (x + 6), 0)) (by omega) hz1 hz2
  generalize hqq : sp_hu (I0 (b + 3)) pk z sb (I0 (b + 1), I0 (b + 2), I0 (x + 6), 0) = qq at hzz ⊢
  intro d
  induction d with
  | zero =>
    intro p hp I h1 h2 h3 h4
    obtain rfl : p = 4 := by omega
    refine ⟨I, ?_, h1, h2, h3, h4⟩
    refine ev_iload 17 dX6_hush_15 rfl rfl ?_
    refine ev_iconstN 18 4 dX6_hush_17 rfl ?_
    refine ev_icmp_geN 21 86 dX6_hush_18 (by decide) (by omega) (by omega) rfl (fun hbr => ?_) (fun hx => absurd ((Nat.le_refl 4)) hx)
    exact ev_vret dX6_hush_86 rfl (rfl)
  | succ d ih =>
    intro p hp I h1 h2 h3 h4
    have hstep : qq (p + 1) = (sp_sh (qq p).1 (sp_hE pk (sp_dz z (p * sb))) sb,
      (sp_sq (I0 (b + 3)) (sp_hE pk (sp_dz z (p * sb))) (sb * p) ((qq p).2.1, (qq p).2.2.1, 0) sb).1,
      (sp_sq (I0 (b + 3)) (sp_hE pk (sp_dz z (p * sb))) (sb * p) ((qq p).2.1, (qq p).2.2.1, 0) sb).2.1,
      (qq p).2.2.2 + (sp_hT pk (sp_dz z (p * sb)) sb + (sp_sq (I0 (b + 3)) (sp_hE pk (sp_dz z (p * sb))) (sb * p) ((qq p).2.1, (qq p).2.2.1, 0) sb).2.2)) := by rw [← hqq]; rfl
    have hfr : sb * p + sb ≤ 321 := by
      have : sb * p ≤ 80 * 3 := Nat.mul_le_mul hb (by omega)
      omega
    obtain ⟨I2, c2, a1, a2, a3, a4⟩ := cx_X6_settle (g := g) (I := va_up I (x + 9) (sgp (I (x + 9)) 0 sb (sp_hE pk (sp_dz z (p * sb))))) (J := sp_up (sp_up J (x + 1) 3 (qq p).2.2.2) (x + 1) 3 (sp_hT pk (sp_dz z (p * sb)) sb)) (fr := sb * p) (sb := sb) (E := sp_hE pk (sp_dz z (p * sb))) (H := (qq p).1) hV hK hxb hb hfr
      (fun n hn => by rw [va_up_s]; have e := sgp_in (f := I (x + 9)) (v := sp_hE pk (sp_dz z (p * sb))) (off := 0) hn; rw [Nat.zero_add] at e; exact e)
      (by rw [va_up_n _ _ (by omega), h1]) (hzz p).1
    simp only [va_up_n I (k := x + 9) (j := b + 2) _ (by omega), va_up_n I (k := x + 9) (j := b + 3) _ (by omega), va_up_n I (k := x + 9) (j := x + 6) _ (by omega), h2, h3, h4 (b + 3) (by omega) (by omega) (by omega) (by omega), sp_up_up] at c2 a1 a2 a3
    obtain ⟨I', e', b1, b2, b3, b4⟩ := ih (p + 1) (by omega) I2 (by rw [a1, hstep]) (by rw [a2, hstep]) (by rw [a3, hstep]) (fun q g1 g2 g3 g4 => by rw [a4 q g1 g2 g3, va_up_n _ _ g4]; exact h4 q g1 g2 g3 g4)
    refine ⟨I', ?_, b1, b2, b3, b4⟩
    refine ev_iload 17 dX6_hush_15 rfl rfl ?_
    refine ev_iconstN 18 4 dX6_hush_17 rfl ?_
    refine ev_icmp_geN 21 86 dX6_hush_18 (by decide) (by omega) (by omega) rfl (fun hx => absurd hx ((by omega))) (fun hbr => ?_)
    refine ev_iconstN 22 0 dX6_hush_21 rfl ?_
    refine ev_istore 24 (lv' := [_, _, _, _, _, _, some (.int _), _]) dX6_hush_22 (Nat.le_of_ble_eq_true rfl) rfl rfl ?_
    have e := lp_X6_hush1 (g := g) (I := I) (J := sp_up J (x + 1) 3 (qq p).2.2.2) (z := sp_dz z (p * sb)) (sb := sb) (p := p) (sd := sd) (pk := pk) (Z := (none, B, I', sp_up J (x + 1) 3 (qq 4).2.2.2, P)) hV hK hb (sp_dz_lt hz _) (by omega) ?_ sb 0 (by omega)
    · rw [sgp_0, va_up_id, show sp_hT pk (sp_dz z (p * sb)) 0 = 0 from rfl, sp_up_0] at e
      exact e
    rw [sp_up_up]
    refine ev_aload_n 72 dX6_hush_71 rfl rfl ?_
    refine ev_iload_n 73 dX6_hush_72 rfl rfl ?_
    refine ev_iload 75 dX6_hush_73 rfl rfl ?_
    refine ev_iload_n 76 dX6_hush_75 rfl rfl ?_
    refine ev_imulN 77 dX6_hush_76 rfl ?_
    refine ev_eqI (y := nI ((sb * p))) ((by rw [Nat.mul_comm])) ?_
    refine ev_invVv 80 (Mc := mX6_settle) ⟨lk818, lk84, hdX6_settle, (Nat.le_of_ble_eq_true rfl), (Nat.le_of_ble_eq_true rfl)⟩ lk815 lk817 lk18 mm_cl6 rfl dX6_hush_77 (c2) rfl (hK.1 0 _ rfl) (Nat.le_of_ble_eq_true rfl) rfl rfl ?_
    refine ev_iincN 83 (lv' := [_, _, _, _, _, none, _, _]) 1 dX6_hush_80 rfl (Nat.le_of_ble_eq_true rfl) rfl rfl ?_
    refine ev_goto 15 dX6_hush_83 (by decide) ?_
    refine ev_le (mle_s (mle_s (mle_s (mle_s (mle_s (mle_n (mle_s (mle_n (mle_0))))))))) ?_
    rw [sp_dz_add, show p * sb + sb = (p + 1) * sb by rw [Nat.succ_mul]]
    rw [hstep] at e'
    rw [Int64.add_assoc]
    exact e'
theorem cx_X6_hush {z sb : Nat} {pk : Int32} (hV : lyV B P x) (hK : lyK B P x b) (hxb : x + 22 ≤ b) (hb : sb ≤ 80) (hz : z < 2 ^ 31) (hz1 : ∀ j, 160 ≤ j → I (b + 1) j = 0) (hz2 : ∀ j, 8 ≤ j → I (b + 2) j = 0) (hz3 : ∀ j, 8 ≤ j → I (b + 3) j = 0) : ∃ I' : mm_TI, Ct g mX6_hush [.ref b, .int (nI z), .int pk, .int (nI sb)] B I J P
    (none, B, I', sp_up J (x + 1) 3 (sp_hu (fun _ => 0) pk z sb (I (b + 1), I (b + 2), I (x + 6), 0) 4).2.2.2, P) ∧
    I' (b + 1) = (sp_hu (fun _ => 0) pk z sb (I (b + 1), I (b + 2), I (x + 6), 0) 4).1 ∧
    I' (b + 2) = (sp_hu (fun _ => 0) pk z sb (I (b + 1), I (b + 2), I (x + 6), 0) 4).2.1 ∧
    I' (b + 3) = (fun _ => 0) ∧
    I' (x + 6) = (sp_hu (fun _ => 0) pk z sb (I (b + 1), I (b + 2), I (x + 6), 0) 4).2.2.1 ∧
    (∀ q, q ≠ b + 1 → q ≠ b + 2 → q ≠ b + 3 → q ≠ x + 6 → q ≠ x + 9 → I' q = I q) := by
  obtain ⟨I', e, b1, b2, b3, b4⟩ := lp_X6_hush2 (g := g) (I0 := va_up I (b + 3) (fun _ => 0)) (J := J) (z := z) (sb := sb) (sd := nI z) (pk := pk) hV hK hxb hb hz
    (fun j hj => by rw [va_up_n _ _ (by omega)]; exact hz1 j hj) (fun j hj => by rw [va_up_n _ _ (by omega)]; exact hz2 j hj) 4 0 (by omega) (va_up I (b + 3) (fun _ => 0)) rfl rfl rfl (fun _ _ _ _ _ => rfl)
  have n1 := va_up_n I (k := b + 3) (j := b + 1) (fun _ => 0) (by omega)
  have n2 := va_up_n I (k := b + 3) (j := b + 2) (fun _ => 0) (by omega)
  have n6 := va_up_n I (k := b + 3) (j := x + 6) (fun _ => 0) (by omega)
  have n3 := va_up_s I (b + 3) (fun _ => (0 : Int32))
  rw [n1, n2, n6, n3] at e b1 b2 b3
  refine ⟨I', ?_, b1, b2, ?_, b3, fun q h1 h2 h3 h4 h5 => ?_⟩
  · refine ct_of (lv := [some (.ref b), some (.int (nI z)), some (.int pk), some (.int (nI sb)), none, none, none, none]) (by decide +kernel) (Nat.le_of_ble_eq_true rfl) rfl ?_
    refine ev_aload_n 1 dX6_hush_0 rfl rfl ?_
    refine ev_getP 4 mm_cl6 (j := 2) (Nat.le_of_ble_eq_true rfl) dX6_hush_1 lk346 (fun _ _ _ => rfl) (hK.1 0 _ rfl) (a := (b + 3)) (hK.2.2.1 2 _ _ _ rfl) rfl ?_
    refine ev_iconstN 5 0 dX6_hush_4 rfl ?_
    refine ev_invSv 8 (Mc := mJ7_fill_53178) ⟨lk687, lk90, hdJ7_fill_53178, (Nat.le_of_ble_eq_true rfl), (Nat.le_of_ble_eq_true rfl)⟩ lk829 lk686 dX6_hush_5 (ct_fillI (hK.1 3 _ rfl) (by rw [hK.2.1 3 _ rfl]; decide)) rfl (Nat.le_of_ble_eq_true rfl) rfl rfl ?_
    rw [hK.2.1 3 _ rfl, sgp_all hz3 nI_0]
    refine ev_iload_n 9 dX6_hush_8 rfl rfl ?_
    refine ev_i2l 10 dX6_hush_9 rfl ?_
    refine ev_lstore 12 (lv' := [_, _, _, some (.int _), _, _, _, _]) dX6_hush_10 (Nat.le_of_ble_eq_true rfl) rfl rfl ?_
    refine ev_iconstN 13 0 dX6_hush_12 rfl ?_
    refine ev_istore 15 (lv' := [_, _, _, _, _, none, _, _]) dX6_hush_13 (Nat.le_of_ble_eq_true rfl) rfl rfl ?_
    rw [show (sp_hu (fun _ => 0) pk z sb (I (b + 1), I (b + 2), I (x + 6), 0) 0).2.2.2 = 0 from rfl, sp_up_0, Nat.zero_mul, show sp_dz z 0 = z from rfl, ← nI_l hz] at e
    exact e
  · rw [b4 _ (by omega) (by omega) (by omega) (by omega), n3]
  · rw [b4 q h1 h2 h4 h5, va_up_n _ _ h3]
end VH2
