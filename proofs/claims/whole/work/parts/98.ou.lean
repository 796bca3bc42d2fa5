/-! DRIFT and OUT; the PATH -/
/-- what comes out: dr 0 for none, 1 longer, 2 shorter -/
def oY (dr : Nat) (Y : Nat → Int32) (N : Nat) : Nat → Int32 := fun k =>
  if k < N / 2 then Y k else if dr = 1 then (if k = N / 2 then (Y (N / 2 - 1) + Y (N / 2)) >>> (nI 1 &&& 31) else Y (k - 1)) else if dr = 2 then Y (k + 1) else Y k
def oD (dr : Nat) : Int32 := if dr = 1 then nI 1 else if dr = 2 then -1 else nI 0
def oN (dr N : Nat) : Nat := if dr = 1 then N + 1 else if dr = 2 then N - 1 else N
theorem nI_mn1 (a : Nat) (h : 1 ≤ a) : nI a + (-1) = nI (a - 1) := by
  obtain ⟨b, rfl⟩ : ∃ b, a = b + 1 := ⟨a - 1, by omega⟩
  have e := nI_m1 (b + 1)
  rw [nI_s1] at e
  rw [show b + 1 - 1 = b from rfl, ← e]; rfl
section VOU
variable {g : mm_G} {B : mm_B} {I : mm_TI} {J : mm_TJ} {P : mm_TP} {m x o : Nat}
theorem cx_X1_bringOut {N dr : Nat} {Y : Nat → Int32} (hV : lyV B P x) (hC : lyC B P x o) (hxo : x + 22 ≤ o) (hN : N = 160 ∨ N = 320) (hdr : dr ≤ 2) (r11 : I (o + 17) 11 = oD dr) (hY : ∀ n, n < N → I (x + 6) n = Y n) :
    ∃ O' : Nat → Int32, Ct g mX1_bringOut [.ref (o + 17), .int (nI N)] B I J P (none, B, va_up (va_up I (o + 28) O') (o + 17) (va_up (va_up (I (o + 17)) 6 (nI (oN dr N))) 11 (nI 0)), J, P) ∧ (∀ k, k < oN dr N → O' k = oY dr Y N k) := by
  have n6 := hV.2.1 6 _ rfl
  have n28 := hC.2.1 28 _ rfl
  generalize hI1 : va_up I (o + 17) (va_up (I (o + 17)) 6 (nI (oN dr N))) = I1
  have a1 : ∀ q, q ≠ o + 17 → I1 q = I q := fun q h => by rw [← hI1, va_up_n _ _ h]
  have e17 : I1 (o + 17) = va_up (I (o + 17)) 6 (nI (oN dr N)) := by rw [← hI1, va_up_s]
  have d1 : I1 (o + 17) 11 = oD dr := by rw [e17, va_up_n _ _ (by omega)]; exact r11
  generalize hO1 : va_cpy (I (x + 6)) (I (o + 28)) 0 0 (N / 2) = O1
  have cin : ∀ k, k < N / 2 → O1 k = Y k := fun k hk => by rw [← hO1, cpy_0 hk, Nat.zero_add]; exact hY k (by omega)
  have key : ∀ O' : Nat → Int32, va_up (va_up (va_up I1 (o + 28) O1) (o + 28) O') (o + 17) (va_up (va_up (va_up I1 (o + 28) O1) (o + 28) O' (o + 17)) 11 (nI 0)) = va_up (va_up I (o + 28) O') (o + 17) (va_up (va_up (I (o + 17)) 6 (nI (oN dr N))) 11 (nI 0)) := fun O' => by
    rw [bx_uu, va_up_n _ _ (show o + 17 ≠ o + 28 by omega), e17, ← hI1, va_3 I (a := o + 17) (b := o + 28) _ _ _ (by omega), va_comm _ _ _ (show o + 17 ≠ o + 28 by omega)]
  rcases (show dr = 0 ∨ dr = 1 ∨ dr = 2 by omega) with rfl | rfl | rfl
  · refine ⟨va_cpy (I (x + 6)) O1 (N / 2) (N / 2) (N - N / 2), ?_, fun k hk => ?_⟩
    · refine ct_of (lv := [some (.ref (o + 17)), some (.int (nI N)), none, none, none]) (by decide +kernel) (Nat.le_of_ble_eq_true rfl) rfl ?_
      refine ev_aload_n 1 dX1_bringOut_0 rfl rfl ?_
      refine ev_getP 4 mm_cl1 (j := 1) (Nat.le_of_ble_eq_true rfl) dX1_bringOut_1 lk473 (fun _ _ _ => rfl) (hC.1 17 _ rfl) (a := (x + 4)) (hC.2.2.2 6 _ _ _ rfl) rfl ?_
      refine ev_getP 7 mm_cl8 (j := 1) (Nat.le_of_ble_eq_true rfl) dX1_bringOut_4 lk137 (fun _ _ _ => rfl) (hV.1 4 _ rfl) (a := (x + 6)) (hV.2.2 9 _ _ _ rfl) rfl ?_
      refine ev_astore_n 8 (lv' := [_, some (.int _), _, _, _]) dX1_bringOut_7 (Nat.le_of_ble_eq_true rfl) rfl rfl ?_
      refine ev_iload_n 9 dX1_bringOut_8 rfl rfl ?_
      refine ev_iconstN 10 2 dX1_bringOut_9 rfl ?_
      refine ev_idivN 11 dX1_bringOut_10 (by omega) (by omega) (by omega) rfl ?_
      refine ev_istore_n 12 (lv' := [_, _, some (.ref _), _, _]) dX1_bringOut_11 (Nat.le_of_ble_eq_true rfl) rfl rfl ?_
      refine ev_aload_n 13 dX1_bringOut_12 rfl rfl ?_
      refine ev_iload_n 14 dX1_bringOut_13 rfl rfl ?_
      refine ev_aload_n 15 dX1_bringOut_14 rfl rfl ?_
      refine ev_getI 18 mm_cl1 (j := 11) (Nat.le_of_ble_eq_true rfl) dX1_bringOut_15 lk489 (fun _ _ _ => rfl) (hC.1 17 _ rfl) rfl ?_
      refine ev_eqI (y := nI (0)) (r11) ?_
      refine ev_iaddN 19 dX1_bringOut_18 rfl ?_
      refine ev_putI 22 mm_cl1 (j := 6) (Nat.le_of_ble_eq_true rfl) dX1_bringOut_19 lk481 rfl (fun _ _ _ => rfl) rfl rfl (hC.1 17 _ rfl) rfl ?_
      rw [show N + 0 = oN 0 N from rfl, hI1]
      refine ev_aload_n 23 dX1_bringOut_22 rfl rfl ?_
      refine ev_iconstN 24 0 dX1_bringOut_23 rfl ?_
      refine ev_aload_n 25 dX1_bringOut_24 rfl rfl ?_
      refine ev_getP 28 mm_cl1 (j := 5) (Nat.le_of_ble_eq_true rfl) dX1_bringOut_25 lk479 (fun _ _ _ => rfl) (hC.1 17 _ rfl) (a := (o + 28)) (hC.2.2.1 16 _ _ _ rfl) rfl ?_
      refine ev_iconstN 29 0 dX1_bringOut_28 rfl ?_
      refine ev_iload_n 30 dX1_bringOut_29 rfl rfl ?_
      refine ev_copyI 33 (0) (0) (N / 2) 0 dX1_bringOut_30 lk1168 lk650 lk649 lk88 (by decide) (hV.1 6 _ rfl) (hC.1 28 _ rfl) rfl rfl rfl (by have hNN := hV.2.1 6 _ rfl; have hNM := hC.2.1 28 _ rfl; omega) (by have hNN := hV.2.1 6 _ rfl; have hNM := hC.2.1 28 _ rfl; omega) (fun _ _ => rfl) (Nat.le_of_ble_eq_true rfl) (Nat.le_of_ble_eq_true rfl) (Nat.le_of_ble_eq_true rfl) rfl ?_
      rw [a1 (x + 6) (by omega), a1 (o + 28) (by omega), hO1]
      refine ev_aload_n 34 dX1_bringOut_33 rfl rfl ?_
      refine ev_getI 37 mm_cl1 (j := 11) (Nat.le_of_ble_eq_true rfl) dX1_bringOut_34 lk489 (fun _ _ _ => rfl) (hC.1 17 _ rfl) rfl ?_
      refine ev_eqI (y := nI (0)) ((by rw [va_up_n _ _ (by omega)]; exact d1)) ?_
      refine ev_iconstN 38 1 dX1_bringOut_37 rfl ?_
      refine ev_icmp_neN 41 58 dX1_bringOut_38 (by decide) (by omega) (by omega) rfl (fun hbr => ?_) (fun hx => absurd hx ((by omega)))
      refine ev_aload_n 59 dX1_bringOut_58 rfl rfl ?_
      refine ev_getI 62 mm_cl1 (j := 11) (Nat.le_of_ble_eq_true rfl) dX1_bringOut_59 lk489 (fun _ _ _ => rfl) (hC.1 17 _ rfl) rfl ?_
      refine ev_eqI (y := (nI 0)) ((by rw [va_up_n _ _ (by omega)]; exact d1)) ?_
      refine ev_iconst 63 (v := -1) dX1_bringOut_62 (by decide +kernel) rfl ?_
      refine ev_icmp_ne 66 72 dX1_bringOut_63 (by decide) rfl (fun hbr => ?_) (fun hx => absurd hx ((by decide)))
      refine ev_iload_n 73 dX1_bringOut_72 rfl rfl ?_
      refine ev_istore 75 (lv' := [_, _, _, some (.int _), _]) dX1_bringOut_73 (Nat.le_of_ble_eq_true rfl) rfl rfl ?_
      refine ev_aload_n 76 dX1_bringOut_75 rfl rfl ?_
      refine ev_iload 78 dX1_bringOut_76 rfl rfl ?_
      refine ev_aload_n 79 dX1_bringOut_78 rfl rfl ?_
      refine ev_getP 82 mm_cl1 (j := 5) (Nat.le_of_ble_eq_true rfl) dX1_bringOut_79 lk479 (fun _ _ _ => rfl) (hC.1 17 _ rfl) (a := (o + 28)) (hC.2.2.1 16 _ _ _ rfl) rfl ?_
      refine ev_iload 84 dX1_bringOut_82 rfl rfl ?_
      refine ev_aload_n 85 dX1_bringOut_84 rfl rfl ?_
      refine ev_getI 88 mm_cl1 (j := 11) (Nat.le_of_ble_eq_true rfl) dX1_bringOut_85 lk489 (fun _ _ _ => rfl) (hC.1 17 _ rfl) rfl ?_
      refine ev_eqI (y := nI (0)) ((by rw [va_up_n _ _ (by omega)]; exact d1)) ?_
      refine ev_iaddN 89 dX1_bringOut_88 rfl ?_
      refine ev_iload_n 90 dX1_bringOut_89 rfl rfl ?_
      refine ev_iload 92 dX1_bringOut_90 rfl rfl ?_
      refine ev_isubN 93 dX1_bringOut_92 (by omega) rfl ?_
      refine ev_copyI 96 (N / 2) (N / 2 + 0) (N - N / 2) 0 dX1_bringOut_93 lk1168 lk650 lk649 lk88 (by decide) (hV.1 6 _ rfl) (hC.1 28 _ rfl) rfl rfl rfl (by have hNN := hV.2.1 6 _ rfl; have hNM := hC.2.1 28 _ rfl; omega) (by have hNN := hV.2.1 6 _ rfl; have hNM := hC.2.1 28 _ rfl; omega) (fun _ _ => rfl) (Nat.le_of_ble_eq_true rfl) (Nat.le_of_ble_eq_true rfl) (Nat.le_of_ble_eq_true rfl) rfl ?_
      rw [va_up_s, va_up_n _ _ (show x + 6 ≠ o + 28 by omega), a1 (x + 6) (by omega), Nat.add_zero]
      refine ev_aload_n 97 dX1_bringOut_96 rfl rfl ?_
      refine ev_iconstN 98 0 dX1_bringOut_97 rfl ?_
      refine ev_putI 101 mm_cl1 (j := 11) (Nat.le_of_ble_eq_true rfl) dX1_bringOut_98 lk489 rfl (fun _ _ _ => rfl) rfl rfl (hC.1 17 _ rfl) rfl ?_
      rw [key]
      exact ev_vret dX1_bringOut_101 rfl (rfl)
    · unfold oN at hk
      rw [if_neg (by omega), if_neg (by omega)] at hk
      unfold oY
      by_cases c : k < N / 2
      · rw [if_pos c, cpy_out (by omega)]; exact cin k c
      · rw [if_neg c, if_neg (by omega), if_neg (by omega)]
        obtain ⟨j, rfl⟩ : ∃ j, k = N / 2 + j := ⟨k - N / 2, by omega⟩
        rw [cpy_in (by omega)]; exact hY _ (by omega)
  · generalize hO2 : va_up O1 (N / 2) ((Y (N / 2 - 1) + Y (N / 2)) >>> (nI 1 &&& 31)) = O2
    refine ⟨va_cpy (I (x + 6)) O2 (N / 2) (N / 2 + 1) (N - N / 2), ?_, fun k hk => ?_⟩
    · have rr : ∀ (Q : Nat → Int32) k, k < N → va_up I1 (o + 28) Q (x + 6) k = Y k := fun Q k hk => by rw [va_up_n _ _ (by omega), a1 _ (by omega)]; exact hY k hk
      have key2 := key
      refine ct_of (lv := [some (.ref (o + 17)), some (.int (nI N)), none, none, none]) (by decide +kernel) (Nat.le_of_ble_eq_true rfl) rfl ?_
      refine ev_aload_n 1 dX1_bringOut_0 rfl rfl ?_
      refine ev_getP 4 mm_cl1 (j := 1) (Nat.le_of_ble_eq_true rfl) dX1_bringOut_1 lk473 (fun _ _ _ => rfl) (hC.1 17 _ rfl) (a := (x + 4)) (hC.2.2.2 6 _ _ _ rfl) rfl ?_
      refine ev_getP 7 mm_cl8 (j := 1) (Nat.le_of_ble_eq_true rfl) dX1_bringOut_4 lk137 (fun _ _ _ => rfl) (hV.1 4 _ rfl) (a := (x + 6)) (hV.2.2 9 _ _ _ rfl) rfl ?_
      refine ev_astore_n 8 (lv' := [_, some (.int _), _, _, _]) dX1_bringOut_7 (Nat.le_of_ble_eq_true rfl) rfl rfl ?_
      refine ev_iload_n 9 dX1_bringOut_8 rfl rfl ?_
      refine ev_iconstN 10 2 dX1_bringOut_9 rfl ?_
      refine ev_idivN 11 dX1_bringOut_10 (by omega) (by omega) (by omega) rfl ?_
      refine ev_istore_n 12 (lv' := [_, _, some (.ref _), _, _]) dX1_bringOut_11 (Nat.le_of_ble_eq_true rfl) rfl rfl ?_
      refine ev_aload_n 13 dX1_bringOut_12 rfl rfl ?_
      refine ev_iload_n 14 dX1_bringOut_13 rfl rfl ?_
      refine ev_aload_n 15 dX1_bringOut_14 rfl rfl ?_
      refine ev_getI 18 mm_cl1 (j := 11) (Nat.le_of_ble_eq_true rfl) dX1_bringOut_15 lk489 (fun _ _ _ => rfl) (hC.1 17 _ rfl) rfl ?_
      refine ev_eqI (y := nI (1)) (r11) ?_
      refine ev_iaddN 19 dX1_bringOut_18 rfl ?_
      refine ev_putI 22 mm_cl1 (j := 6) (Nat.le_of_ble_eq_true rfl) dX1_bringOut_19 lk481 rfl (fun _ _ _ => rfl) rfl rfl (hC.1 17 _ rfl) rfl ?_
      rw [show N + 1 = oN 1 N from rfl, hI1]
      refine ev_aload_n 23 dX1_bringOut_22 rfl rfl ?_
      refine ev_iconstN 24 0 dX1_bringOut_23 rfl ?_
      refine ev_aload_n 25 dX1_bringOut_24 rfl rfl ?_
      refine ev_getP 28 mm_cl1 (j := 5) (Nat.le_of_ble_eq_true rfl) dX1_bringOut_25 lk479 (fun _ _ _ => rfl) (hC.1 17 _ rfl) (a := (o + 28)) (hC.2.2.1 16 _ _ _ rfl) rfl ?_
      refine ev_iconstN 29 0 dX1_bringOut_28 rfl ?_
      refine ev_iload_n 30 dX1_bringOut_29 rfl rfl ?_
      refine ev_copyI 33 (0) (0) (N / 2) 0 dX1_bringOut_30 lk1168 lk650 lk649 lk88 (by decide) (hV.1 6 _ rfl) (hC.1 28 _ rfl) rfl rfl rfl (by have hNN := hV.2.1 6 _ rfl; have hNM := hC.2.1 28 _ rfl; omega) (by have hNN := hV.2.1 6 _ rfl; have hNM := hC.2.1 28 _ rfl; omega) (fun _ _ => rfl) (Nat.le_of_ble_eq_true rfl) (Nat.le_of_ble_eq_true rfl) (Nat.le_of_ble_eq_true rfl) rfl ?_
      rw [a1 (x + 6) (by omega), a1 (o + 28) (by omega), hO1]
      refine ev_aload_n 34 dX1_bringOut_33 rfl rfl ?_
      refine ev_getI 37 mm_cl1 (j := 11) (Nat.le_of_ble_eq_true rfl) dX1_bringOut_34 lk489 (fun _ _ _ => rfl) (hC.1 17 _ rfl) rfl ?_
      refine ev_eqI (y := nI (1)) ((by rw [va_up_n _ _ (by omega)]; exact d1)) ?_
      refine ev_iconstN 38 1 dX1_bringOut_37 rfl ?_
      refine ev_icmp_neN 41 58 dX1_bringOut_38 (by decide) (by omega) (by omega) rfl (fun hx => absurd ((by omega)) hx) (fun hbr => ?_)
      refine ev_aload_n 42 dX1_bringOut_41 rfl rfl ?_
      refine ev_getP 45 mm_cl1 (j := 5) (Nat.le_of_ble_eq_true rfl) dX1_bringOut_42 lk479 (fun _ _ _ => rfl) (hC.1 17 _ rfl) (a := (o + 28)) (hC.2.2.1 16 _ _ _ rfl) rfl ?_
      refine ev_iload_n 46 dX1_bringOut_45 rfl rfl ?_
      refine ev_aload_n 47 dX1_bringOut_46 rfl rfl ?_
      refine ev_iload_n 48 dX1_bringOut_47 rfl rfl ?_
      refine ev_iconstN 49 1 dX1_bringOut_48 rfl ?_
      refine ev_isubN 50 dX1_bringOut_49 (by omega) rfl ?_
      refine ev_iald 51 _ dX1_bringOut_50 (hV.1 6 _ rfl) rfl (by have hNN := hV.2.1 6 _ rfl; omega) rfl ?_
      refine ev_eqI (y := (Y (N / 2 - 1))) ((rr _ _ (by omega))) ?_
      refine ev_aload_n 52 dX1_bringOut_51 rfl rfl ?_
      refine ev_iload_n 53 dX1_bringOut_52 rfl rfl ?_
      refine ev_iald 54 _ dX1_bringOut_53 (hV.1 6 _ rfl) rfl (by have hNN := hV.2.1 6 _ rfl; omega) rfl ?_
      refine ev_eqI (y := (Y (N / 2))) ((rr _ _ (by omega))) ?_
      refine ev_iadd 55 dX1_bringOut_54 rfl ?_
      refine ev_iconstN 56 1 dX1_bringOut_55 rfl ?_
      refine ev_ishr 57 dX1_bringOut_56 rfl ?_
      refine ev_iast 58 _ dX1_bringOut_57 (hC.1 28 _ rfl) rfl (by have hNN := hC.2.1 28 _ rfl; omega) rfl ?_
      rw [va_up_s, bx_uu, hO2]
      refine ev_aload_n 59 dX1_bringOut_58 rfl rfl ?_
      refine ev_getI 62 mm_cl1 (j := 11) (Nat.le_of_ble_eq_true rfl) dX1_bringOut_59 lk489 (fun _ _ _ => rfl) (hC.1 17 _ rfl) rfl ?_
      refine ev_eqI (y := (nI 1)) ((by rw [va_up_n _ _ (by omega)]; exact d1)) ?_
      refine ev_iconst 63 (v := -1) dX1_bringOut_62 (by decide +kernel) rfl ?_
      refine ev_icmp_ne 66 72 dX1_bringOut_63 (by decide) rfl (fun hbr => ?_) (fun hx => absurd hx ((by decide)))
      refine ev_iload_n 73 dX1_bringOut_72 rfl rfl ?_
      refine ev_istore 75 (lv' := [_, _, _, some (.int _), _]) dX1_bringOut_73 (Nat.le_of_ble_eq_true rfl) rfl rfl ?_
      refine ev_aload_n 76 dX1_bringOut_75 rfl rfl ?_
      refine ev_iload 78 dX1_bringOut_76 rfl rfl ?_
      refine ev_aload_n 79 dX1_bringOut_78 rfl rfl ?_
      refine ev_getP 82 mm_cl1 (j := 5) (Nat.le_of_ble_eq_true rfl) dX1_bringOut_79 lk479 (fun _ _ _ => rfl) (hC.1 17 _ rfl) (a := (o + 28)) (hC.2.2.1 16 _ _ _ rfl) rfl ?_
      refine ev_iload 84 dX1_bringOut_82 rfl rfl ?_
      refine ev_aload_n 85 dX1_bringOut_84 rfl rfl ?_
      refine ev_getI 88 mm_cl1 (j := 11) (Nat.le_of_ble_eq_true rfl) dX1_bringOut_85 lk489 (fun _ _ _ => rfl) (hC.1 17 _ rfl) rfl ?_
      refine ev_eqI (y := nI (1)) ((by rw [va_up_n _ _ (by omega)]; exact d1)) ?_
      refine ev_iaddN 89 dX1_bringOut_88 rfl ?_
      refine ev_iload_n 90 dX1_bringOut_89 rfl rfl ?_
      refine ev_iload 92 dX1_bringOut_90 rfl rfl ?_
      refine ev_isubN 93 dX1_bringOut_92 (by omega) rfl ?_
      refine ev_copyI 96 (N / 2) (N / 2 + 1) (N - N / 2) 0 dX1_bringOut_93 lk1168 lk650 lk649 lk88 (by decide) (hV.1 6 _ rfl) (hC.1 28 _ rfl) rfl rfl rfl (by have hNN := hV.2.1 6 _ rfl; have hNM := hC.2.1 28 _ rfl; omega) (by have hNN := hV.2.1 6 _ rfl; have hNM := hC.2.1 28 _ rfl; omega) (fun _ _ => rfl) (Nat.le_of_ble_eq_true rfl) (Nat.le_of_ble_eq_true rfl) (Nat.le_of_ble_eq_true rfl) rfl ?_
      rw [va_up_s, va_up_n _ _ (show x + 6 ≠ o + 28 by omega), a1 (x + 6) (by omega), bx_uu]
      refine ev_aload_n 97 dX1_bringOut_96 rfl rfl ?_
      refine ev_iconstN 98 0 dX1_bringOut_97 rfl ?_
      refine ev_putI 101 mm_cl1 (j := 11) (Nat.le_of_ble_eq_true rfl) dX1_bringOut_98 lk489 rfl (fun _ _ _ => rfl) rfl rfl (hC.1 17 _ rfl) rfl ?_
      rw [va_up_n _ _ (show o + 17 ≠ o + 28 by omega), e17, ← hI1, va_3 I (a := o + 17) (b := o + 28) _ _ _ (by omega), va_comm _ _ _ (show o + 17 ≠ o + 28 by omega)]
      exact ev_vret dX1_bringOut_101 rfl (rfl)
    · unfold oN at hk
      rw [if_pos rfl] at hk
      unfold oY
      by_cases c : k < N / 2
      · rw [if_pos c, cpy_out (by omega), ← hO2, va_up_n _ _ (by omega)]; exact cin k c
      · rw [if_neg c, if_pos rfl]
        by_cases c2 : k = N / 2
        · subst c2; rw [if_pos rfl, cpy_out (by omega), ← hO2, va_up_s]
        · rw [if_neg c2]
          obtain ⟨j, rfl⟩ : ∃ j, k = N / 2 + 1 + j := ⟨k - (N / 2 + 1), by omega⟩
          rw [cpy_in (by omega), show N / 2 + 1 + j - 1 = N / 2 + j by omega]; exact hY _ (by omega)
  · refine ⟨va_cpy (I (x + 6)) O1 (N / 2 + 1) (N / 2) (N - (N / 2 + 1)), ?_, fun k hk => ?_⟩
    · refine ct_of (lv := [some (.ref (o + 17)), some (.int (nI N)), none, none, none]) (by decide +kernel) (Nat.le_of_ble_eq_true rfl) rfl ?_
      refine ev_aload_n 1 dX1_bringOut_0 rfl rfl ?_
      refine ev_getP 4 mm_cl1 (j := 1) (Nat.le_of_ble_eq_true rfl) dX1_bringOut_1 lk473 (fun _ _ _ => rfl) (hC.1 17 _ rfl) (a := (x + 4)) (hC.2.2.2 6 _ _ _ rfl) rfl ?_
      refine ev_getP 7 mm_cl8 (j := 1) (Nat.le_of_ble_eq_true rfl) dX1_bringOut_4 lk137 (fun _ _ _ => rfl) (hV.1 4 _ rfl) (a := (x + 6)) (hV.2.2 9 _ _ _ rfl) rfl ?_
      refine ev_astore_n 8 (lv' := [_, some (.int _), _, _, _]) dX1_bringOut_7 (Nat.le_of_ble_eq_true rfl) rfl rfl ?_
      refine ev_iload_n 9 dX1_bringOut_8 rfl rfl ?_
      refine ev_iconstN 10 2 dX1_bringOut_9 rfl ?_
      refine ev_idivN 11 dX1_bringOut_10 (by omega) (by omega) (by omega) rfl ?_
      refine ev_istore_n 12 (lv' := [_, _, some (.ref _), _, _]) dX1_bringOut_11 (Nat.le_of_ble_eq_true rfl) rfl rfl ?_
      refine ev_aload_n 13 dX1_bringOut_12 rfl rfl ?_
      refine ev_iload_n 14 dX1_bringOut_13 rfl rfl ?_
      refine ev_aload_n 15 dX1_bringOut_14 rfl rfl ?_
      refine ev_getI 18 mm_cl1 (j := 11) (Nat.le_of_ble_eq_true rfl) dX1_bringOut_15 lk489 (fun _ _ _ => rfl) (hC.1 17 _ rfl) rfl ?_
      refine ev_eqI (y := (-1)) (r11) ?_
      refine ev_iadd 19 dX1_bringOut_18 rfl ?_
      refine ev_eqI (y := nI ((N-1))) ((nI_mn1 N (by omega))) ?_
      refine ev_putI 22 mm_cl1 (j := 6) (Nat.le_of_ble_eq_true rfl) dX1_bringOut_19 lk481 rfl (fun _ _ _ => rfl) rfl rfl (hC.1 17 _ rfl) rfl ?_
      rw [show N - 1 = oN 2 N from rfl, hI1]
      refine ev_aload_n 23 dX1_bringOut_22 rfl rfl ?_
      refine ev_iconstN 24 0 dX1_bringOut_23 rfl ?_
      refine ev_aload_n 25 dX1_bringOut_24 rfl rfl ?_
      refine ev_getP 28 mm_cl1 (j := 5) (Nat.le_of_ble_eq_true rfl) dX1_bringOut_25 lk479 (fun _ _ _ => rfl) (hC.1 17 _ rfl) (a := (o + 28)) (hC.2.2.1 16 _ _ _ rfl) rfl ?_
      refine ev_iconstN 29 0 dX1_bringOut_28 rfl ?_
      refine ev_iload_n 30 dX1_bringOut_29 rfl rfl ?_
      refine ev_copyI 33 (0) (0) (N / 2) 0 dX1_bringOut_30 lk1168 lk650 lk649 lk88 (by decide) (hV.1 6 _ rfl) (hC.1 28 _ rfl) rfl rfl rfl (by have hNN := hV.2.1 6 _ rfl; have hNM := hC.2.1 28 _ rfl; omega) (by have hNN := hV.2.1 6 _ rfl; have hNM := hC.2.1 28 _ rfl; omega) (fun _ _ => rfl) (Nat.le_of_ble_eq_true rfl) (Nat.le_of_ble_eq_true rfl) (Nat.le_of_ble_eq_true rfl) rfl ?_
      rw [a1 (x + 6) (by omega), a1 (o + 28) (by omega), hO1]
      refine ev_aload_n 34 dX1_bringOut_33 rfl rfl ?_
      refine ev_getI 37 mm_cl1 (j := 11) (Nat.le_of_ble_eq_true rfl) dX1_bringOut_34 lk489 (fun _ _ _ => rfl) (hC.1 17 _ rfl) rfl ?_
      refine ev_eqI (y := (-1)) ((by rw [va_up_n _ _ (by omega)]; exact d1)) ?_
      refine ev_iconstN 38 1 dX1_bringOut_37 rfl ?_
      refine ev_icmp_ne 41 58 dX1_bringOut_38 (by decide) rfl (fun hbr => ?_) (fun hx => absurd hx ((by decide)))
      refine ev_aload_n 59 dX1_bringOut_58 rfl rfl ?_
      refine ev_getI 62 mm_cl1 (j := 11) (Nat.le_of_ble_eq_true rfl) dX1_bringOut_59 lk489 (fun _ _ _ => rfl) (hC.1 17 _ rfl) rfl ?_
      refine ev_eqI (y := (-1)) ((by rw [va_up_n _ _ (by omega)]; exact d1)) ?_
      refine ev_iconst 63 (v := -1) dX1_bringOut_62 (by decide +kernel) rfl ?_
      refine ev_icmp_ne 66 72 dX1_bringOut_63 (by decide) rfl (fun hx => absurd (rfl) hx) (fun hbr => ?_)
      refine ev_iload_n 67 dX1_bringOut_66 rfl rfl ?_
      refine ev_iconstN 68 1 dX1_bringOut_67 rfl ?_
      refine ev_iaddN 69 dX1_bringOut_68 rfl ?_
      refine ev_goto 73 dX1_bringOut_69 (by decide) ?_
      refine ev_istore 75 (lv' := [_, _, _, some (.int _), _]) dX1_bringOut_73 (Nat.le_of_ble_eq_true rfl) rfl rfl ?_
      refine ev_aload_n 76 dX1_bringOut_75 rfl rfl ?_
      refine ev_iload 78 dX1_bringOut_76 rfl rfl ?_
      refine ev_aload_n 79 dX1_bringOut_78 rfl rfl ?_
      refine ev_getP 82 mm_cl1 (j := 5) (Nat.le_of_ble_eq_true rfl) dX1_bringOut_79 lk479 (fun _ _ _ => rfl) (hC.1 17 _ rfl) (a := (o + 28)) (hC.2.2.1 16 _ _ _ rfl) rfl ?_
      refine ev_iload 84 dX1_bringOut_82 rfl rfl ?_
      refine ev_aload_n 85 dX1_bringOut_84 rfl rfl ?_
      refine ev_getI 88 mm_cl1 (j := 11) (Nat.le_of_ble_eq_true rfl) dX1_bringOut_85 lk489 (fun _ _ _ => rfl) (hC.1 17 _ rfl) rfl ?_
      refine ev_eqI (y := (-1)) ((by rw [va_up_n _ _ (by omega)]; exact d1)) ?_
      refine ev_iadd 89 dX1_bringOut_88 rfl ?_
      refine ev_eqI (y := nI ((N/2+1-1))) ((nI_mn1 _ (by omega))) ?_
      refine ev_iload_n 90 dX1_bringOut_89 rfl rfl ?_
      refine ev_iload 92 dX1_bringOut_90 rfl rfl ?_
      refine ev_isubN 93 dX1_bringOut_92 (by omega) rfl ?_
      refine ev_copyI 96 (N / 2 + 1) (N / 2 + 1 - 1) (N - (N / 2 + 1)) 0 dX1_bringOut_93 lk1168 lk650 lk649 lk88 (by decide) (hV.1 6 _ rfl) (hC.1 28 _ rfl) rfl rfl rfl (by have hNN := hV.2.1 6 _ rfl; have hNM := hC.2.1 28 _ rfl; omega) (by have hNN := hV.2.1 6 _ rfl; have hNM := hC.2.1 28 _ rfl; omega) (fun _ _ => rfl) (Nat.le_of_ble_eq_true rfl) (Nat.le_of_ble_eq_true rfl) (Nat.le_of_ble_eq_true rfl) rfl ?_
      rw [va_up_s, va_up_n _ _ (show x + 6 ≠ o + 28 by omega), a1 (x + 6) (by omega), show N / 2 + 1 - 1 = N / 2 from rfl]
      refine ev_aload_n 97 dX1_bringOut_96 rfl rfl ?_
      refine ev_iconstN 98 0 dX1_bringOut_97 rfl ?_
      refine ev_putI 101 mm_cl1 (j := 11) (Nat.le_of_ble_eq_true rfl) dX1_bringOut_98 lk489 rfl (fun _ _ _ => rfl) rfl rfl (hC.1 17 _ rfl) rfl ?_
      rw [key]
      exact ev_vret dX1_bringOut_101 rfl (rfl)
    · unfold oN at hk
      rw [if_neg (by omega), if_pos rfl] at hk
      unfold oY
      by_cases c : k < N / 2
      · rw [if_pos c, cpy_out (by omega)]; exact cin k c
      · rw [if_neg c, if_neg (by omega), if_pos rfl]
        obtain ⟨j, rfl⟩ : ∃ j, k = N / 2 + j := ⟨k - N / 2, by omega⟩
        rw [cpy_in (by omega), show N / 2 + 1 + j = N / 2 + j + 1 by omega]; exact hY _ (by omega)
theorem lp_X12_dr1 {c N : Nat} {F : Nat → Int32} {Z : mm_Z} (hM : lyM B P m) (hN : N ≤ 320) (hN2 : N % 2 = 0)
    (K : Ev g mX12_drift0 52 [some (.ref m), some (.int (nI c)), some (.int (nI N)), some (.int (nI 1)), none] [] B (va_up I (m + 54) (fun k => if N / 2 < k ∧ k ≤ N then F (k - 1) else F k)) J P Z) : ∀ (d i : Nat), N / 2 + d = i → i ≤ N →
    Ev g mX12_drift0 22 [some (.ref m), some (.int (nI c)), some (.int (nI N)), some (.int (nI 1)), some (.int (nI i))] [] B (va_up I (m + 54) (fun k => if i < k ∧ k ≤ N then F (k - 1) else F k)) J P Z := by
  intro d
  induction d with
  | zero =>
    intro i hi hiN
    obtain rfl : i = N / 2 := by omega
    refine ev_iload 24 dX12_drift0_22 rfl rfl ?_
    refine ev_iload_n 25 dX12_drift0_24 rfl rfl ?_
    refine ev_iconstN 26 2 dX12_drift0_25 rfl ?_
    refine ev_idivN 27 dX12_drift0_26 (by omega) (by omega) (by omega) rfl ?_
    refine ev_icmp_leN 30 52 dX12_drift0_27 (by decide) (by omega) (by omega) rfl (fun hbr => ?_) (fun hx => absurd ((by omega)) hx)
    refine ev_le (mle_s (mle_s (mle_s (mle_s (mle_n (mle_0)))))) ?_
    exact K
  | succ d ih =>
    intro i hi hiN
    have e := ih (i - 1) (by omega) (by omega)
    have hf : va_up (fun k => if i < k ∧ k ≤ N then F (k - 1) else F k) i (F (i - 1)) = (fun k => if i - 1 < k ∧ k ≤ N then F (k - 1) else F k) := by
      funext k
      by_cases c1 : k = i
      · subst c1; rw [va_up_s, if_pos (by omega)]
      · rw [va_up_n _ _ c1]
        by_cases c2 : i < k ∧ k ≤ N
        · rw [if_pos c2, if_pos (by omega)]
        · rw [if_neg c2, if_neg (by omega)]
    refine ev_iload 24 dX12_drift0_22 rfl rfl ?_
    refine ev_iload_n 25 dX12_drift0_24 rfl rfl ?_
    refine ev_iconstN 26 2 dX12_drift0_25 rfl ?_
    refine ev_idivN 27 dX12_drift0_26 (by omega) (by omega) (by omega) rfl ?_
    refine ev_icmp_leN 30 52 dX12_drift0_27 (by decide) (by omega) (by omega) rfl (fun hx => absurd hx ((by omega))) (fun hbr => ?_)
    refine ev_aload_n 31 dX12_drift0_30 rfl rfl ?_
    refine ev_getP 34 mm_cl12 (j := 60) (Nat.le_of_ble_eq_true rfl) dX12_drift0_31 lk1345 (fun _ _ _ => rfl) (hM.1 0 _ rfl) (a := (m + 54)) (hM.2.2 53 _ _ _ rfl) rfl ?_
    refine ev_iload 36 dX12_drift0_34 rfl rfl ?_
    refine ev_aload_n 37 dX12_drift0_36 rfl rfl ?_
    refine ev_getP 40 mm_cl12 (j := 60) (Nat.le_of_ble_eq_true rfl) dX12_drift0_37 lk1345 (fun _ _ _ => rfl) (hM.1 0 _ rfl) (a := (m + 54)) (hM.2.2 53 _ _ _ rfl) rfl ?_
    refine ev_iload 42 dX12_drift0_40 rfl rfl ?_
    refine ev_iconstN 43 1 dX12_drift0_42 rfl ?_
    refine ev_isubN 44 dX12_drift0_43 (by omega) rfl ?_
    refine ev_iald 45 _ dX12_drift0_44 (hM.1 54 _ rfl) rfl (by have hNN := hM.2.1 54 _ rfl; omega) rfl ?_
    refine ev_eqI (y := (F (i - 1))) ((by rw [va_up_s, if_neg (by omega)])) ?_
    refine ev_iast 46 _ dX12_drift0_45 (hM.1 54 _ rfl) rfl (by have hNN := hM.2.1 54 _ rfl; omega) rfl ?_
    refine ev_iincM 49 (lv' := [_, _, _, some (.int _), _]) 1 dX12_drift0_46 rfl (by omega) (Nat.le_of_ble_eq_true rfl) rfl rfl ?_
    refine ev_goto 22 dX12_drift0_49 (by decide) ?_
    rw [va_up_s, bx_uu, hf]
    exact e
theorem lp_X12_dr2 {c N : Nat} {F : Nat → Int32} {Z : mm_Z} (hM : lyM B P m) (hN : N ≤ 320)
    (K : Ev g mX12_drift0 126 [some (.ref m), some (.int (nI c)), some (.int (nI N)), some (.int (-1)), none] [] B (va_up I (m + 54) (sgp F (N / 2) (N - 1 - N / 2) (fun k => F (N / 2 + k + 1)))) J P Z) : ∀ (d i : Nat), N / 2 + i + d = N - 1 →
    Ev g mX12_drift0 96 [some (.ref m), some (.int (nI c)), some (.int (nI N)), some (.int (-1)), some (.int (nI (N / 2 + i)))] [] B (va_up I (m + 54) (sgp F (N / 2) i (fun k => F (N / 2 + k + 1)))) J P Z := by
  intro d
  induction d with
  | zero =>
    intro i hi
    obtain rfl : i = N - 1 - N / 2 := by omega
    refine ev_iload 98 dX12_drift0_96 rfl rfl ?_
    refine ev_iconstN 99 1 dX12_drift0_98 rfl ?_
    refine ev_iaddN 100 dX12_drift0_99 rfl ?_
    refine ev_iload_n 101 dX12_drift0_100 rfl rfl ?_
    refine ev_icmp_geN 104 126 dX12_drift0_101 (by decide) (by omega) (by omega) rfl (fun hbr => ?_) (fun hx => absurd ((by omega)) hx)
    refine ev_le (mle_s (mle_s (mle_s (mle_s (mle_n (mle_0)))))) ?_
    exact K
  | succ d ih =>
    intro i hi
    have e := ih (i + 1) (by omega)
    rw [← sgp_grow (f := F) (off := N / 2) (n := i) (v := fun k => F (N / 2 + k + 1)) (x := F (N / 2 + i + 1)) rfl] at e
    refine ev_iload 98 dX12_drift0_96 rfl rfl ?_
    refine ev_iconstN 99 1 dX12_drift0_98 rfl ?_
    refine ev_iaddN 100 dX12_drift0_99 rfl ?_
    refine ev_iload_n 101 dX12_drift0_100 rfl rfl ?_
    refine ev_icmp_geN 104 126 dX12_drift0_101 (by decide) (by omega) (by omega) rfl (fun hx => absurd hx ((by omega))) (fun hbr => ?_)
    refine ev_aload_n 105 dX12_drift0_104 rfl rfl ?_
    refine ev_getP 108 mm_cl12 (j := 60) (Nat.le_of_ble_eq_true rfl) dX12_drift0_105 lk1345 (fun _ _ _ => rfl) (hM.1 0 _ rfl) (a := (m + 54)) (hM.2.2 53 _ _ _ rfl) rfl ?_
    refine ev_iload 110 dX12_drift0_108 rfl rfl ?_
    refine ev_aload_n 111 dX12_drift0_110 rfl rfl ?_
    refine ev_getP 114 mm_cl12 (j := 60) (Nat.le_of_ble_eq_true rfl) dX12_drift0_111 lk1345 (fun _ _ _ => rfl) (hM.1 0 _ rfl) (a := (m + 54)) (hM.2.2 53 _ _ _ rfl) rfl ?_
    refine ev_iload 116 dX12_drift0_114 rfl rfl ?_
    refine ev_iconstN 117 1 dX12_drift0_116 rfl ?_
    refine ev_iaddN 118 dX12_drift0_117 rfl ?_
    refine ev_iald 119 _ dX12_drift0_118 (hM.1 54 _ rfl) rfl (by have hNN := hM.2.1 54 _ rfl; omega) rfl ?_
    refine ev_eqI (y := (F (N / 2 + i + 1))) ((by rw [va_up_s, sgp_out (by omega)])) ?_
    refine ev_iast 120 _ dX12_drift0_119 (hM.1 54 _ rfl) rfl (by have hNN := hM.2.1 54 _ rfl; omega) rfl ?_
    refine ev_iincN 123 (lv' := [_, _, _, some (.int _), _]) 1 dX12_drift0_120 rfl (Nat.le_of_ble_eq_true rfl) rfl rfl ?_
    refine ev_goto 96 dX12_drift0_123 (by decide) ?_
    rw [va_up_s, bx_uu]
    exact e
theorem cx_X12_drift {c N dr : Nat} {Y : Nat → Int32} (hM : lyM B P m) (hc8 : c < 8) (hN : N = 160 ∨ N = 320) (hdr : dr ≤ 2) (r11 : I (m + 47) c = oD dr) (hY : ∀ n, n < N → I (m + 54) n = Y n) :
    ∃ O' : Nat → Int32, Ct g mX12_drift0 [.ref m, .int (nI c), .int (nI N)] B I J P (some (.int (nI (oN dr N))), B, va_up (va_up I (m + 47) (va_up (I (m + 47)) c (nI 0))) (m + 54) O', J, P) ∧ (∀ k, k < oN dr N → O' k = oY dr Y N k) := by
  generalize hI1 : va_up I (m + 47) (va_up (I (m + 47)) c (nI 0)) = I1
  have a1 : ∀ q, q ≠ m + 47 → I1 q = I q := fun q h => by rw [← hI1, va_up_n _ _ h]
  have e54 : I1 (m + 54) = I (m + 54) := a1 _ (by omega)
  rcases (show dr = 0 ∨ dr = 1 ∨ dr = 2 by omega) with rfl | rfl | rfl
  · refine ⟨I (m + 54), ?_, fun k hk => ?_⟩
    · rw [← e54, va_up_id]
      refine ct_of (lv := [some (.ref m), some (.int (nI c)), some (.int (nI N)), none, none]) (by decide +kernel) (Nat.le_of_ble_eq_true rfl) rfl ?_
      refine ev_aload_n 1 dX12_drift0_0 rfl rfl ?_
      refine ev_getP 4 mm_cl12 (j := 53) (Nat.le_of_ble_eq_true rfl) dX12_drift0_1 lk1338 (fun _ _ _ => rfl) (hM.1 0 _ rfl) (a := (m + 47)) (hM.2.2 46 _ _ _ rfl) rfl ?_
      refine ev_iload_n 5 dX12_drift0_4 rfl rfl ?_
      refine ev_iald 6 _ dX12_drift0_5 (hM.1 47 _ rfl) rfl (by have hNN := hM.2.1 47 _ rfl; omega) rfl ?_
      refine ev_eqI (y := nI (0)) (r11) ?_
      refine ev_istore_n 7 (lv' := [_, _, some (.int _), _, _]) dX12_drift0_6 (Nat.le_of_ble_eq_true rfl) rfl rfl ?_
      refine ev_aload_n 8 dX12_drift0_7 rfl rfl ?_
      refine ev_getP 11 mm_cl12 (j := 53) (Nat.le_of_ble_eq_true rfl) dX12_drift0_8 lk1338 (fun _ _ _ => rfl) (hM.1 0 _ rfl) (a := (m + 47)) (hM.2.2 46 _ _ _ rfl) rfl ?_
      refine ev_iload_n 12 dX12_drift0_11 rfl rfl ?_
      refine ev_iconstN 13 0 dX12_drift0_12 rfl ?_
      refine ev_iast 14 _ dX12_drift0_13 (hM.1 47 _ rfl) rfl (by have hNN := hM.2.1 47 _ rfl; omega) rfl ?_
      rw [hI1]
      refine ev_iload_n 15 dX12_drift0_14 rfl rfl ?_
      refine ev_iconstN 16 1 dX12_drift0_15 rfl ?_
      refine ev_icmp_neN 19 86 dX12_drift0_16 (by decide) (by omega) (by omega) rfl (fun hbr => ?_) (fun hx => absurd hx ((by omega)))
      refine ev_iload_n 87 dX12_drift0_86 rfl rfl ?_
      refine ev_iconst 88 (v := -1) dX12_drift0_87 (by decide +kernel) rfl ?_
      refine ev_icmp_ne 91 126 dX12_drift0_88 (by decide) rfl (fun hbr => ?_) (fun hx => absurd hx ((by decide)))
      refine ev_iload_n 127 dX12_drift0_126 rfl rfl ?_
      refine ev_iload_n 128 dX12_drift0_127 rfl rfl ?_
      refine ev_iaddN 129 dX12_drift0_128 rfl ?_
      exact ev_iret dX12_drift0_129 rfl (rfl)
    · unfold oN at hk
      rw [if_neg (by omega), if_neg (by omega)] at hk
      unfold oY
      rw [hY k hk]
      by_cases c2 : k < N / 2
      · rw [if_pos c2]
      · rw [if_neg c2, if_neg (by omega), if_neg (by omega)]
  · generalize hF : I (m + 54) = F at hY e54
    refine ⟨va_up (fun k => if N / 2 < k ∧ k ≤ N then F (k - 1) else F k) (N / 2) ((F (N / 2 - 1) + F (N / 2)) >>> (nI 1 &&& 31)), ?_, fun k hk => ?_⟩
    · have e := lp_X12_dr1 (g := g) (B := B) (I := I1) (J := J) (P := P) (m := m) (c := c) (N := N) (F := F) (Z := (some (.int (nI (oN 1 N))), B, va_up I1 (m + 54) (va_up (fun k => if N / 2 < k ∧ k ≤ N then F (k - 1) else F k) (N / 2) ((F (N / 2 - 1) + F (N / 2)) >>> (nI 1 &&& 31))), J, P)) hM (by omega) (by omega) (by
        refine ev_aload_n 53 dX12_drift0_52 rfl rfl ?_
        refine ev_getP 56 mm_cl12 (j := 60) (Nat.le_of_ble_eq_true rfl) dX12_drift0_53 lk1345 (fun _ _ _ => rfl) (hM.1 0 _ rfl) (a := (m + 54)) (hM.2.2 53 _ _ _ rfl) rfl ?_
        refine ev_iload_n 57 dX12_drift0_56 rfl rfl ?_
        refine ev_iconstN 58 2 dX12_drift0_57 rfl ?_
        refine ev_idivN 59 dX12_drift0_58 (by omega) (by omega) (by omega) rfl ?_
        refine ev_aload_n 60 dX12_drift0_59 rfl rfl ?_
        refine ev_getP 63 mm_cl12 (j := 60) (Nat.le_of_ble_eq_true rfl) dX12_drift0_60 lk1345 (fun _ _ _ => rfl) (hM.1 0 _ rfl) (a := (m + 54)) (hM.2.2 53 _ _ _ rfl) rfl ?_
        refine ev_iload_n 64 dX12_drift0_63 rfl rfl ?_
        refine ev_iconstN 65 2 dX12_drift0_64 rfl ?_
        refine ev_idivN 66 dX12_drift0_65 (by omega) (by omega) (by omega) rfl ?_
        refine ev_iconstN 67 1 dX12_drift0_66 rfl ?_
        refine ev_isubN 68 dX12_drift0_67 (by omega) rfl ?_
        refine ev_iald 69 _ dX12_drift0_68 (hM.1 54 _ rfl) rfl (by have hNN := hM.2.1 54 _ rfl; omega) rfl ?_
        refine ev_eqI (y := (F (N / 2 - 1))) ((by rw [va_up_s, if_neg (by omega)])) ?_
        refine ev_aload_n 70 dX12_drift0_69 rfl rfl ?_
        refine ev_getP 73 mm_cl12 (j := 60) (Nat.le_of_ble_eq_true rfl) dX12_drift0_70 lk1345 (fun _ _ _ => rfl) (hM.1 0 _ rfl) (a := (m + 54)) (hM.2.2 53 _ _ _ rfl) rfl ?_
        refine ev_iload_n 74 dX12_drift0_73 rfl rfl ?_
        refine ev_iconstN 75 2 dX12_drift0_74 rfl ?_
        refine ev_idivN 76 dX12_drift0_75 (by omega) (by omega) (by omega) rfl ?_
        refine ev_iconstN 77 1 dX12_drift0_76 rfl ?_
        refine ev_iaddN 78 dX12_drift0_77 rfl ?_
        refine ev_iald 79 _ dX12_drift0_78 (hM.1 54 _ rfl) rfl (by have hNN := hM.2.1 54 _ rfl; omega) rfl ?_
        refine ev_eqI (y := (F (N / 2))) ((by rw [va_up_s, if_pos (by omega)]; rfl)) ?_
        refine ev_iadd 80 dX12_drift0_79 rfl ?_
        refine ev_iconstN 81 1 dX12_drift0_80 rfl ?_
        refine ev_ishr 82 dX12_drift0_81 rfl ?_
        refine ev_iast 83 _ dX12_drift0_82 (hM.1 54 _ rfl) rfl (by have hNN := hM.2.1 54 _ rfl; omega) rfl ?_
        rw [va_up_s, bx_uu]
        refine ev_goto 126 dX12_drift0_83 (by decide) ?_
        refine ev_iload_n 127 dX12_drift0_126 rfl rfl ?_
        refine ev_iload_n 128 dX12_drift0_127 rfl rfl ?_
        refine ev_iaddN 129 dX12_drift0_128 rfl ?_
        exact ev_iret dX12_drift0_129 rfl (rfl)
        ) (N - N / 2) N (by omega) (Nat.le_refl _)
      rw [show (fun k => if N < k ∧ k ≤ N then F (k - 1) else F k) = F by funext k; rw [if_neg (by omega)], show va_up I1 (m + 54) F = I1 by rw [← e54, va_up_id]] at e
      refine ct_of (lv := [some (.ref m), some (.int (nI c)), some (.int (nI N)), none, none]) (by decide +kernel) (Nat.le_of_ble_eq_true rfl) rfl ?_
      refine ev_aload_n 1 dX12_drift0_0 rfl rfl ?_
      refine ev_getP 4 mm_cl12 (j := 53) (Nat.le_of_ble_eq_true rfl) dX12_drift0_1 lk1338 (fun _ _ _ => rfl) (hM.1 0 _ rfl) (a := (m + 47)) (hM.2.2 46 _ _ _ rfl) rfl ?_
      refine ev_iload_n 5 dX12_drift0_4 rfl rfl ?_
      refine ev_iald 6 _ dX12_drift0_5 (hM.1 47 _ rfl) rfl (by have hNN := hM.2.1 47 _ rfl; omega) rfl ?_
      refine ev_eqI (y := nI (1)) (r11) ?_
      refine ev_istore_n 7 (lv' := [_, _, some (.int _), _, _]) dX12_drift0_6 (Nat.le_of_ble_eq_true rfl) rfl rfl ?_
      refine ev_aload_n 8 dX12_drift0_7 rfl rfl ?_
      refine ev_getP 11 mm_cl12 (j := 53) (Nat.le_of_ble_eq_true rfl) dX12_drift0_8 lk1338 (fun _ _ _ => rfl) (hM.1 0 _ rfl) (a := (m + 47)) (hM.2.2 46 _ _ _ rfl) rfl ?_
      refine ev_iload_n 12 dX12_drift0_11 rfl rfl ?_
      refine ev_iconstN 13 0 dX12_drift0_12 rfl ?_
      refine ev_iast 14 _ dX12_drift0_13 (hM.1 47 _ rfl) rfl (by have hNN := hM.2.1 47 _ rfl; omega) rfl ?_
      rw [hI1]
      refine ev_iload_n 15 dX12_drift0_14 rfl rfl ?_
      refine ev_iconstN 16 1 dX12_drift0_15 rfl ?_
      refine ev_icmp_neN 19 86 dX12_drift0_16 (by decide) (by omega) (by omega) rfl (fun hx => absurd ((by omega)) hx) (fun hbr => ?_)
      refine ev_iload_n 20 dX12_drift0_19 rfl rfl ?_
      refine ev_istore 22 (lv' := [_, _, _, some (.int _), _]) dX12_drift0_20 (Nat.le_of_ble_eq_true rfl) rfl rfl ?_
      exact e
    · unfold oN at hk
      rw [if_pos rfl] at hk
      unfold oY
      by_cases c2 : k < N / 2
      · rw [if_pos c2, va_up_n _ _ (by omega), if_neg (by omega)]; exact hY k (by omega)
      · rw [if_neg c2, if_pos rfl]
        by_cases c3 : k = N / 2
        · subst c3; rw [va_up_s, if_pos rfl, hY _ (by omega), hY _ (by omega)]
        · rw [if_neg c3, va_up_n _ _ c3, if_pos (by omega)]; exact hY _ (by omega)
  · generalize hF : I (m + 54) = F at hY e54
    refine ⟨sgp F (N / 2) (N - 1 - N / 2) (fun k => F (N / 2 + k + 1)), ?_, fun k hk => ?_⟩
    · have e := lp_X12_dr2 (g := g) (B := B) (I := I1) (J := J) (P := P) (m := m) (c := c) (N := N) (F := F) (Z := (some (.int (nI (oN 2 N))), B, va_up I1 (m + 54) (sgp F (N / 2) (N - 1 - N / 2) (fun k => F (N / 2 + k + 1))), J, P)) hM (by omega) (by
        refine ev_iload_n 127 dX12_drift0_126 rfl rfl ?_
        refine ev_iload_n 128 dX12_drift0_127 rfl rfl ?_
        refine ev_iadd 129 dX12_drift0_128 rfl ?_
        refine ev_eqI (y := nI ((N-1))) ((nI_mn1 N (by omega))) ?_
        exact ev_iret dX12_drift0_129 rfl (rfl)
        ) (N - 1 - N / 2) 0 (by omega)
      rw [sgp_0, Nat.add_zero, show va_up I1 (m + 54) F = I1 by rw [← e54, va_up_id]] at e
      refine ct_of (lv := [some (.ref m), some (.int (nI c)), some (.int (nI N)), none, none]) (by decide +kernel) (Nat.le_of_ble_eq_true rfl) rfl ?_
      refine ev_aload_n 1 dX12_drift0_0 rfl rfl ?_
      refine ev_getP 4 mm_cl12 (j := 53) (Nat.le_of_ble_eq_true rfl) dX12_drift0_1 lk1338 (fun _ _ _ => rfl) (hM.1 0 _ rfl) (a := (m + 47)) (hM.2.2 46 _ _ _ rfl) rfl ?_
      refine ev_iload_n 5 dX12_drift0_4 rfl rfl ?_
      refine ev_iald 6 _ dX12_drift0_5 (hM.1 47 _ rfl) rfl (by have hNN := hM.2.1 47 _ rfl; omega) rfl ?_
      refine ev_eqI (y := (-1)) (r11) ?_
      refine ev_istore_n 7 (lv' := [_, _, some (.int _), _, _]) dX12_drift0_6 (Nat.le_of_ble_eq_true rfl) rfl rfl ?_
      refine ev_aload_n 8 dX12_drift0_7 rfl rfl ?_
      refine ev_getP 11 mm_cl12 (j := 53) (Nat.le_of_ble_eq_true rfl) dX12_drift0_8 lk1338 (fun _ _ _ => rfl) (hM.1 0 _ rfl) (a := (m + 47)) (hM.2.2 46 _ _ _ rfl) rfl ?_
      refine ev_iload_n 12 dX12_drift0_11 rfl rfl ?_
      refine ev_iconstN 13 0 dX12_drift0_12 rfl ?_
      refine ev_iast 14 _ dX12_drift0_13 (hM.1 47 _ rfl) rfl (by have hNN := hM.2.1 47 _ rfl; omega) rfl ?_
      rw [hI1]
      refine ev_iload_n 15 dX12_drift0_14 rfl rfl ?_
      refine ev_iconstN 16 1 dX12_drift0_15 rfl ?_
      refine ev_icmp_ne 19 86 dX12_drift0_16 (by decide) rfl (fun hbr => ?_) (fun hx => absurd hx ((by decide)))
      refine ev_iload_n 87 dX12_drift0_86 rfl rfl ?_
      refine ev_iconst 88 (v := -1) dX12_drift0_87 (by decide +kernel) rfl ?_
      refine ev_icmp_ne 91 126 dX12_drift0_88 (by decide) rfl (fun hx => absurd (rfl) hx) (fun hbr => ?_)
      refine ev_iload_n 92 dX12_drift0_91 rfl rfl ?_
      refine ev_iconstN 93 2 dX12_drift0_92 rfl ?_
      refine ev_idivN 94 dX12_drift0_93 (by omega) (by omega) (by omega) rfl ?_
      refine ev_istore 96 (lv' := [_, _, _, some (.int _), _]) dX12_drift0_94 (Nat.le_of_ble_eq_true rfl) rfl rfl ?_
      exact e
    · unfold oN at hk
      rw [if_neg (by omega), if_pos rfl] at hk
      unfold oY
      by_cases c2 : k < N / 2
      · rw [if_pos c2, sgp_out (by omega)]; exact hY k (by omega)
      · rw [if_neg c2, if_neg (by omega), if_pos rfl]
        obtain ⟨j, rfl⟩ : ∃ j, k = N / 2 + j := ⟨k - N / 2, by omega⟩
        rw [sgp_in (by omega)]; exact hY _ (by omega)
end VOU
