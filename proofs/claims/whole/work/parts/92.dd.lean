/-! the decoder's frames, class side -/
section VDD
variable {g : mm_G} {B : mm_B} {I : mm_TI} {J : mm_TJ} {P : mm_TP} {x o f q : Nat}
theorem sp_vo_l {F : Nat → Int32} : sp_vo F ≤ 1 := by unfold sp_vo; split <;> omega
/-- its head: rate, way, the mark -/
theorem lx_X1_df0 {n t vo rt : Nat} {F : Nat → Int32} {bt : Nat → Nat} (hV : lyV B P x) (hC : lyC B P x o) (hxo : x + 22 ≤ o) (tf : mm_T B f = 104) (tq : mm_T B q = 201) (nq : mm_N B q = n) (hn : n ≤ 64) (hn6 : 6 ≤ n) (hp : P f 1 = some q) (hF : ∀ k, k < n → I q k = F k) (hbt : ∀ k, k < n → ub (I q k) = bt k) (hqo : x + 22 ≤ q ∧ (q < o ∨ o + 33 ≤ q)) (hvo : sp_vo F = vo) (hrt : rt = bt 1 % 2) (ht : I (x + 1) 2 = nI t) (h32 : t < 32) :
    ∃ I1 : mm_TI, I1 (o + 17) = va_up (va_up (I (o + 17)) 7 (nI rt)) 13 (nI (1 - vo)) ∧ I1 (x + 3) = va_up (I (x + 3)) t (nI (40 + (1 - vo))) ∧ I1 (x + 1) = va_up (I (x + 1)) 2 (nI (t + 1)) ∧ (∀ q, q ≠ o + 17 → q ≠ x + 1 → q ≠ x + 3 → I1 q = I q) ∧
      ∀ Z : mm_Z, Ev g mX1_decodeFrame 54 [some (.ref (o + 17)), some (.ref f), some (.int (nI (40 * (rt + 1)))), none] [.int (nI 1), .int (nI (1 - vo))] B I1 J P Z → Ct g mX1_decodeFrame [.ref (o + 17), .ref f] B I J P Z := by
  have hvl : vo ≤ 1 := by rw [← hvo]; exact sp_vo_l
  generalize hIa : va_up I (o + 17) (va_up (I (o + 17)) 7 (nI rt)) = Ia
  have aa : ∀ q, q ≠ o + 17 → Ia q = I q := fun q h => by rw [← hIa, va_up_n _ _ h]
  generalize hIb : va_up Ia (o + 17) (va_up (va_up (I (o + 17)) 7 (nI rt)) 13 (nI (1 - vo))) = Ib
  have ab : ∀ q, q ≠ o + 17 → Ib q = I q := fun q h => by rw [← hIb, va_up_n _ _ h, aa q h]
  have eb : Ib (o + 17) = va_up (va_up (I (o + 17)) 7 (nI rt)) 13 (nI (1 - vo)) := by rw [← hIb, va_up_s]
  have mk := ct_X10_mark (g := g) (B := B) (I := Ib) (J := J) (P := P) (x := x) (a := nI (40 + (1 - vo))) (t := t) hV (by rw [ab _ (by omega)]; exact ht) h32
  generalize hI1 : va_up (va_up Ib (x + 3) (va_up (Ib (x + 3)) t (nI (40 + (1 - vo))))) (x + 1) (va_up (Ib (x + 1)) 2 (nI (t + 1))) = I1 at mk
  have a1 : ∀ q, q ≠ x + 3 → q ≠ x + 1 → I1 q = Ib q := fun q h h' => by rw [← hI1, va_up_n _ _ h', va_up_n _ _ h]
  have e1 : I1 (o + 17) = va_up (va_up (I (o + 17)) 7 (nI rt)) 13 (nI (1 - vo)) := by rw [a1 _ (by omega) (by omega), eb]
  refine ⟨I1, e1, by rw [← hI1, va_up_n _ _ (by omega), va_up_s, ab _ (by omega)], by rw [← hI1, va_up_s, ab _ (by omega)], fun q h1 h2 h3 => by rw [a1 q h3 h2, ab q h1], fun Z e => ?_⟩
  have at1 := ct_X4_atN (g := g) (B := B) (I := I) (J := J) (P := P) (k := 1) (bt := bt) tf tq nq hn hp (by omega) hbt
  have iv := ct_X4_isVoice (g := g) (B := B) (I := Ia) (J := J) (P := P) (F := F) tf tq nq hn hp (by omega) (fun k hk => by rw [aa q (by omega)]; exact hF k hk)
  rw [hvo] at iv
  have k24 : Ev g mX1_decodeFrame 24 [some (.ref (o + 17)), some (.ref f), none, none] [.int (nI (1 - vo)), .ref (o + 17)] B Ia J P Z := by
    refine ev_putI 27 mm_cl1 (j := 13) (Nat.le_of_ble_eq_true rfl) dX1_decodeFrame_24 lk493 rfl (fun _ _ _ => rfl) rfl rfl (hC.1 17 _ rfl) rfl ?_
    rw [show Ia (o + 17) = va_up (I (o + 17)) 7 (nI rt) by rw [← hIa, va_up_s], hIb]
    refine ev_aload_n 28 dX1_decodeFrame_27 rfl rfl ?_
    refine ev_getP 31 mm_cl1 (j := 0) (Nat.le_of_ble_eq_true rfl) dX1_decodeFrame_28 lk472 (fun _ _ _ => rfl) (hC.1 17 _ rfl) (a := (x + 1)) (hC.2.2.2 5 _ _ _ rfl) rfl ?_
    refine ev_bipushN 33 40 dX1_decodeFrame_31 (by decide +kernel) rfl ?_
    refine ev_aload_n 34 dX1_decodeFrame_33 rfl rfl ?_
    refine ev_getI 37 mm_cl1 (j := 13) (Nat.le_of_ble_eq_true rfl) dX1_decodeFrame_34 lk493 (fun _ _ _ => rfl) (hC.1 17 _ rfl) rfl ?_
    refine ev_eqI (y := nI ((1-vo))) ((by rw [eb, va_up_s])) ?_
    refine ev_iaddN 38 dX1_decodeFrame_37 rfl ?_
    refine ev_invVv 41 (Mc := mX10_mark) ⟨lk665, lk76, hdX10_mark, (Nat.le_of_ble_eq_true rfl), (Nat.le_of_ble_eq_true rfl)⟩ lk1060 lk663 lk664 mm_cl10 rfl dX1_decodeFrame_38 (mk) rfl (hV.1 1 _ rfl) (Nat.le_of_ble_eq_true rfl) rfl rfl ?_
    refine ev_aload_n 42 dX1_decodeFrame_41 rfl rfl ?_
    refine ev_getI 45 mm_cl1 (j := 7) (Nat.le_of_ble_eq_true rfl) dX1_decodeFrame_42 lk483 (fun _ _ _ => rfl) (hC.1 17 _ rfl) rfl ?_
    refine ev_eqI (y := nI (rt)) ((by rw [e1, va_up_n _ _ (by omega), va_up_s])) ?_
    refine ev_invSN 48 (Mc := mX11_partOf) ⟨lk910, lk75, hdX11_partOf, (Nat.le_of_ble_eq_true rfl), (Nat.le_of_ble_eq_true rfl)⟩ lk1080 lk909 dX1_decodeFrame_45 (ct_X11_partOf (show rt < 2 by omega)) rfl (Nat.le_of_ble_eq_true rfl) rfl rfl ?_
    refine ev_istore_n 49 (lv' := [_, some (.ref _), _, _]) dX1_decodeFrame_48 (Nat.le_of_ble_eq_true rfl) rfl rfl ?_
    refine ev_aload_n 50 dX1_decodeFrame_49 rfl rfl ?_
    refine ev_getI 53 mm_cl1 (j := 13) (Nat.le_of_ble_eq_true rfl) dX1_decodeFrame_50 lk493 (fun _ _ _ => rfl) (hC.1 17 _ rfl) rfl ?_
    refine ev_eqI (y := nI ((1-vo))) ((by rw [e1, va_up_s])) ?_
    refine ev_iconstN 54 1 dX1_decodeFrame_53 rfl ?_
    exact e
  refine ct_of (lv := [some (.ref (o + 17)), some (.ref f), none, none]) (by decide +kernel) (Nat.le_of_ble_eq_true rfl) rfl ?_
  refine ev_aload_n 1 dX1_decodeFrame_0 rfl rfl ?_
  refine ev_aload_n 2 dX1_decodeFrame_1 rfl rfl ?_
  refine ev_iconstN 3 1 dX1_decodeFrame_2 rfl ?_
  refine ev_invV 6 (Mc := mX4_at) ⟨lk1073, lk89, hdX4_at, (Nat.le_of_ble_eq_true rfl), (Nat.le_of_ble_eq_true rfl)⟩ lk1078 lk1071 lk1072 mm_cl4 rfl dX1_decodeFrame_3 (at1) rfl tf (Nat.le_of_ble_eq_true rfl) rfl rfl ?_
  refine ev_iconstN 7 1 dX1_decodeFrame_6 rfl ?_
  refine ev_iand 8 dX1_decodeFrame_7 rfl ?_
  refine ev_eqI (y := nI (rt)) ((by rw [nI_m1', ← hrt])) ?_
  refine ev_putI 11 mm_cl1 (j := 7) (Nat.le_of_ble_eq_true rfl) dX1_decodeFrame_8 lk483 rfl (fun _ _ _ => rfl) rfl rfl (hC.1 17 _ rfl) rfl ?_
  rw [hIa]
  refine ev_aload_n 12 dX1_decodeFrame_11 rfl rfl ?_
  refine ev_aload_n 13 dX1_decodeFrame_12 rfl rfl ?_
  refine ev_invV 16 (Mc := mX4_isVoice) ⟨lk1069, lk89, hdX4_isVoice, (Nat.le_of_ble_eq_true rfl), (Nat.le_of_ble_eq_true rfl)⟩ lk1079 lk1067 lk1068 mm_cl4 rfl dX1_decodeFrame_13 (iv) rfl tf (Nat.le_of_ble_eq_true rfl) rfl rfl ?_
  refine ev_if_eqN 19 23 dX1_decodeFrame_16 (by decide) (by omega) rfl (fun hz => ?_) (fun hz => ?_)
  · rw [show 1 - vo = 1 by omega] at k24
    refine ev_iconstN 24 1 dX1_decodeFrame_23 rfl ?_
    exact k24
  · rw [show 1 - vo = 0 by omega] at k24
    refine ev_iconstN 20 0 dX1_decodeFrame_19 rfl ?_
    refine ev_goto 24 dX1_decodeFrame_20 (by decide) ?_
    exact k24
theorem cx_X1_dfS {n t rt nx : Nat} {F : Nat → Int32} {bt : Nat → Nat} (hV : lyV B P x) (hC : lyC B P x o) (hxo : x + 22 ≤ o) (tf : mm_T B f = 104) (tq : mm_T B q = 201) (nq : mm_N B q = n) (hn : n ≤ 64) (hn6 : 8 ≤ n) (hp : P f 1 = some q) (hF : ∀ k, k < n → I q k = F k) (hbt : ∀ k, k < n → ub (I q k) = bt k) (hqo : x + 22 ≤ q ∧ (q < o ∨ o + 33 ≤ q)) (hvo : sp_vo F = 0) (hrt : rt = bt 1 % 2) (ht : I (x + 1) 2 = nI t) (h32 : t < 32) (hnx : I (o + 17) 9 = nI nx) (hnx2 : nx < 65536)
    (hz1 : ∀ j, 160 ≤ j → I (o + 30) j = 0) (hz2 : ∀ j, 8 ≤ j → I (o + 31) j = 0) (hz3 : ∀ j, 8 ≤ j → I (o + 32) j = 0) :
    ∃ (I' : mm_TI) (J' : mm_TJ), Ct g mX1_decodeFrame [.ref (o + 17), .ref f] B I J P (none, B, I', J', P) ∧
      I' (o + 30) = (sp_hu (fun _ => 0) (nI (256 * bt 6 + bt 7)) nx (40 * (rt + 1)) (I (o + 30), I (o + 31), I (x + 6), 0) 4).1 ∧ I' (o + 31) = (sp_hu (fun _ => 0) (nI (256 * bt 6 + bt 7)) nx (40 * (rt + 1)) (I (o + 30), I (o + 31), I (x + 6), 0) 4).2.1 ∧ I' (o + 32) = (fun _ => 0) ∧ I' (x + 6) = (sp_hu (fun _ => 0) (nI (256 * bt 6 + bt 7)) nx (40 * (rt + 1)) (I (o + 30), I (o + 31), I (x + 6), 0) 4).2.2.1 ∧
      J' = sp_up J (x + 1) 3 (sp_hu (fun _ => 0) (nI (256 * bt 6 + bt 7)) nx (40 * (rt + 1)) (I (o + 30), I (o + 31), I (x + 6), 0) 4).2.2.2 ∧
      I' (o + 17) = va_up (va_up (va_up (I (o + 17)) 7 (nI rt)) 13 (nI 1)) 8 (nI 0) ∧ I' (x + 3) = va_up (I (x + 3)) t (nI 41) ∧ I' (x + 1) = va_up (I (x + 1)) 2 (nI (t + 1)) ∧
      (∀ q, q ≠ o + 30 → q ≠ o + 31 → q ≠ o + 32 → q ≠ o + 17 → q ≠ x + 1 → q ≠ x + 3 → q ≠ x + 6 → q ≠ x + 9 → I' q = I q) := by
  obtain ⟨I1, e1, e3, ex1, a1, K⟩ := lx_X1_df0 (g := g) (B := B) (I := I) (J := J) (P := P) (x := x) (o := o) hV hC hxo tf tq nq hn (by omega) hp hF hbt hqo hvo hrt ht h32
  have bt1 : ∀ k, k < n → ub (I1 q k) = bt k := fun k hk => by rw [a1 q (by omega) (by omega) (by omega)]; exact hbt k hk
  have at6 := ct_X4_atN (g := g) (B := B) (I := I1) (J := J) (P := P) (k := 6) (bt := bt) tf tq nq hn hp (by omega) bt1
  have at7 := ct_X4_atN (g := g) (B := B) (I := I1) (J := J) (P := P) (k := 7) (bt := bt) tf tq nq hn hp (by omega) bt1
  obtain ⟨I2, c2, u1, u2, u3, u4, u5⟩ := cx_X6_hush (g := g) (B := B) (I := I1) (J := J) (P := P) (x := x) (b := o + 29) (z := nx) (sb := 40 * (rt + 1)) (pk := nI (256 * bt 6 + bt 7)) hV (lyK_of29 hC) (by omega) (by omega) (by omega)
    (by rw [show o + 29 + 1 = o + 30 from rfl, a1 _ (by omega) (by omega) (by omega)]; exact hz1) (by rw [show o + 29 + 2 = o + 31 from rfl, a1 _ (by omega) (by omega) (by omega)]; exact hz2) (by rw [show o + 29 + 3 = o + 32 from rfl, a1 _ (by omega) (by omega) (by omega)]; exact hz3)
  simp only [show o + 29 + 1 = o + 30 from rfl, show o + 29 + 2 = o + 31 from rfl, show o + 29 + 3 = o + 32 from rfl, a1 (o + 30) (by omega) (by omega) (by omega), a1 (o + 31) (by omega) (by omega) (by omega), a1 (x + 6) (by omega) (by omega) (by omega)] at c2 u1 u2 u3 u4 u5
  have e2 : I2 (o + 17) = va_up (va_up (I (o + 17)) 7 (nI rt)) 13 (nI 1) := by rw [u5 _ (by omega) (by omega) (by omega) (by omega) (by omega), e1]
  refine ⟨va_up I2 (o + 17) (va_up (va_up (va_up (I (o + 17)) 7 (nI rt)) 13 (nI 1)) 8 (nI 0)), _, K _ ?_, by rw [va_up_n _ _ (by omega)]; exact u1, by rw [va_up_n _ _ (by omega)]; exact u2, by rw [va_up_n _ _ (by omega)]; exact u3, by rw [va_up_n _ _ (by omega)]; exact u4, rfl, by rw [va_up_s], ?_, ?_, fun q h1 h2 h3 h4 h5 h6 h7 h8 => ?_⟩
  · refine ev_icmp_neN 57 92 dX1_decodeFrame_54 (by decide) (by omega) (by omega) rfl (fun hx => absurd ((by omega)) hx) (fun hbr => ?_)
    refine ev_aload_n 58 dX1_decodeFrame_57 rfl rfl ?_
    refine ev_getP 61 mm_cl1 (j := 2) (Nat.le_of_ble_eq_true rfl) dX1_decodeFrame_58 lk474 (fun _ _ _ => rfl) (hC.1 17 _ rfl) (a := (o + 29)) (hC.2.2.1 13 _ _ _ rfl) rfl ?_
    refine ev_aload_n 62 dX1_decodeFrame_61 rfl rfl ?_
    refine ev_getI 65 mm_cl1 (j := 9) (Nat.le_of_ble_eq_true rfl) dX1_decodeFrame_62 lk485 (fun _ _ _ => rfl) (hC.1 17 _ rfl) rfl ?_
    refine ev_eqI (y := nI (nx)) ((by rw [e1, va_up_n _ _ (by omega), va_up_n _ _ (by omega)]; exact hnx)) ?_
    refine ev_sipushN 68 256 dX1_decodeFrame_65 (by decide +kernel) rfl ?_
    refine ev_aload_n 69 dX1_decodeFrame_68 rfl rfl ?_
    refine ev_bipushN 71 6 dX1_decodeFrame_69 (by decide +kernel) rfl ?_
    refine ev_invV 74 (Mc := mX4_at) ⟨lk1073, lk89, hdX4_at, (Nat.le_of_ble_eq_true rfl), (Nat.le_of_ble_eq_true rfl)⟩ lk1078 lk1071 lk1072 mm_cl4 rfl dX1_decodeFrame_71 (at6) rfl tf (Nat.le_of_ble_eq_true rfl) rfl rfl ?_
    refine ev_imulN 75 dX1_decodeFrame_74 rfl ?_
    refine ev_aload_n 76 dX1_decodeFrame_75 rfl rfl ?_
    refine ev_bipushN 78 7 dX1_decodeFrame_76 (by decide +kernel) rfl ?_
    refine ev_invV 81 (Mc := mX4_at) ⟨lk1073, lk89, hdX4_at, (Nat.le_of_ble_eq_true rfl), (Nat.le_of_ble_eq_true rfl)⟩ lk1078 lk1071 lk1072 mm_cl4 rfl dX1_decodeFrame_78 (at7) rfl tf (Nat.le_of_ble_eq_true rfl) rfl rfl ?_
    refine ev_iaddN 82 dX1_decodeFrame_81 rfl ?_
    refine ev_iload_n 83 dX1_decodeFrame_82 rfl rfl ?_
    refine ev_invVv 86 (Mc := mX6_hush) ⟨lk828, lk84, hdX6_hush, (Nat.le_of_ble_eq_true rfl), (Nat.le_of_ble_eq_true rfl)⟩ lk1081 lk826 lk827 mm_cl6 rfl dX1_decodeFrame_83 (c2) rfl (hC.1 29 _ rfl) (Nat.le_of_ble_eq_true rfl) rfl rfl ?_
    refine ev_aload_n 87 dX1_decodeFrame_86 rfl rfl ?_
    refine ev_iconstN 88 0 dX1_decodeFrame_87 rfl ?_
    refine ev_putI 91 mm_cl1 (j := 8) (Nat.le_of_ble_eq_true rfl) dX1_decodeFrame_88 lk484 rfl (fun _ _ _ => rfl) rfl rfl (hC.1 17 _ rfl) rfl ?_
    rw [e2]
    exact ev_vret dX1_decodeFrame_91 rfl (rfl)
  · rw [va_up_n _ _ (by omega), u5 _ (by omega) (by omega) (by omega) (by omega) (by omega), e3]
  · rw [va_up_n _ _ (by omega), u5 _ (by omega) (by omega) (by omega) (by omega) (by omega), ex1]
  · rw [va_up_n _ _ h4, u5 q h1 h2 h3 h7 h8, a1 q h4 h5 h6]
theorem cx_X1_dfV {n t rt : Nat} {F : Nat → Int32} {bt : Nat → Nat} (hV : lyV B P x) (hC : lyC B P x o) (hG : ly_G g B) (hc : st_c g I) (hgx : ∀ i, i < 3 → g.2.2 i < x) (hxo : x + 22 ≤ o) (tf : mm_T B f = 104) (tq : mm_T B q = 201) (nq : mm_N B q = n) (hn : n ≤ 64) (hn6 : 34 ≤ n) (hp : P f 1 = some q) (hF : ∀ k, k < n → I q k = F k) (hbt : ∀ k, k < n → ub (I q k) = bt k) (hqo : x + 22 ≤ q ∧ (q < o ∨ o + 33 ≤ q)) (hvo : sp_vo F = 1) (hrt : rt = bt 1 % 2) (ht : I (x + 1) 2 = nI t) (h32 : t < 32)
    (hz1 : ∀ j, 160 ≤ j → I (o + 30) j = 0) (hz3 : ∀ j, 8 ≤ j → I (o + 32) j = 0) :
    ∃ (I' : mm_TI) (J' : mm_TJ), Ct g mX1_decodeFrame [.ref (o + 17), .ref f] B I J P (none, B, I', J', P) ∧
      I' (o + 30) = gH (dcEs bt (40 * (rt + 1))) (40 * (rt + 1)) (I (o + 30)) 4 ∧ I' (o + 31) = (gV (dcX bt) (dcEs bt (40 * (rt + 1))) (dcTs bt (40 * (rt + 1))) (40 * (rt + 1)) (I (o + 30)) (I (o + 31), I (x + 6), 0) 4).1 ∧ I' (o + 32) = dcX bt ∧ I' (x + 6) = (gV (dcX bt) (dcEs bt (40 * (rt + 1))) (dcTs bt (40 * (rt + 1))) (40 * (rt + 1)) (I (o + 30)) (I (o + 31), I (x + 6), 0) 4).2.1 ∧
      J' = sp_up J (x + 1) 3 (gV (dcX bt) (dcEs bt (40 * (rt + 1))) (dcTs bt (40 * (rt + 1))) (40 * (rt + 1)) (I (o + 30)) (I (o + 31), I (x + 6), 0) 4).2.2 ∧
      I' (o + 17) = va_up (va_up (va_up (I (o + 17)) 7 (nI rt)) 13 (nI 0)) 8 (nI (sp_gn (pcJ bt 29))) ∧ I' (o + 29) = va_up (I (o + 29)) 3 (nI (pcL bt 29)) ∧ I' (x + 3) = va_up (I (x + 3)) t (nI 40) ∧ I' (x + 1) = va_up (I (x + 1)) 2 (nI (t + 1)) ∧
      (∀ q, q ≠ o + 30 → q ≠ o + 31 → q ≠ o + 32 → q ≠ o + 17 → q ≠ o + 18 → q ≠ o + 29 → q ≠ x + 1 → q ≠ x + 3 → q < x + 6 ∨ x + 9 < q → I' q = I q) := by
  obtain ⟨I1, e1, e3, ex1, a1, K⟩ := lx_X1_df0 (g := g) (B := B) (I := I) (J := J) (P := P) (x := x) (o := o) hV hC hxo tf tq nq hn (by omega) hp hF hbt hqo hvo hrt ht h32
  have hix0 : sgp (I1 (o + 32)) 0 8 (dcI bt) = dcX bt := by
    unfold dcX
    funext j
    unfold sgp
    by_cases c : 0 ≤ j ∧ j < 0 + 8
    · rw [if_pos c, if_pos c]
    · rw [if_neg c, if_neg c, a1 _ (by omega) (by omega) (by omega)]; exact hz3 j (by omega)
  generalize hI2 : va_up I1 (o + 32) (dcX bt) = I2
  have a2 : ∀ q, q ≠ o + 32 → I2 q = I1 q := fun q h => by rw [← hI2, va_up_n _ _ h]
  have A2 : ∀ q, q ≠ o + 32 → q ≠ o + 17 → q ≠ x + 1 → q ≠ x + 3 → I2 q = I q := fun q h1 h2 h3 h4 => by rw [a2 q h1, a1 q h2 h3 h4]
  have bt1 : ∀ k, k < n → ub (I1 q k) = bt k := fun k hk => by rw [a1 q (by omega) (by omega) (by omega)]; exact hbt k hk
  obtain ⟨I3, r1, r2, r3, r4, r5, r6, r7⟩ := lx_X1_dfp (g := g) (B := B) (P := P) (x := x) (o := o) (f := f) (q := q) (n := n) (sb := 40 * (rt + 1)) (bt := bt) (I0 := I2) (J0 := J) (ix := dcX bt) (H0 := I (o + 30)) (V0 := I (o + 31)) (Y0 := I (x + 6)) hV hC hG (st_c_of hc (fun i hi => by have := hgx i hi; exact A2 _ (by omega) (by omega) (by omega) (by omega))) hgx hxo tf tq nq hn hp hn6 (by omega) (fun k hk => by rw [A2 q (by omega) (by omega) (by omega) (by omega)]; exact hbt k hk) hqo (by rw [← hI2, va_up_s]) hz1 4 0 (by omega) I2 (A2 _ (by omega) (by omega) (by omega) (by omega)) (A2 _ (by omega) (by omega) (by omega) (by omega)) (A2 _ (by omega) (by omega) (by omega) (by omega)) (fun q _ _ _ _ => rfl) (fun h => by omega)
  have e17 : I3 (o + 17) = va_up (va_up (I (o + 17)) 7 (nI rt)) 13 (nI 0) := by rw [r4 _ (by omega) (by omega) (by omega) (by omega), a2 _ (by omega), e1]
  have e29 : I3 (o + 29) = I (o + 29) := by rw [r4 _ (by omega) (by omega) (by omega) (by omega), A2 _ (by omega) (by omega) (by omega) (by omega)]
  have hj := (pc_b (bt := bt) (at_ := 29) (sb := 40 * (rt + 1)) (by omega)).2.2.2.2.2.2
  have sc : st_c g I3 := st_c_of hc (fun i hi => by have := hgx i hi; rw [r4 _ (by omega) (by omega) (by omega) (by omega)]; exact A2 _ (by omega) (by omega) (by omega) (by omega))
  refine ⟨va_up (va_up I3 (o + 29) (va_up (I (o + 29)) 3 (nI (pcL bt 29)))) (o + 17) (va_up (va_up (va_up (I (o + 17)) 7 (nI rt)) 13 (nI 0)) 8 (nI (sp_gn (pcJ bt 29)))), _, K _ ?_, ?_, ?_, ?_, ?_, rfl, by rw [va_up_s], by rw [va_up_n _ _ (by omega), va_up_s], ?_, ?_, fun q h1 h2 h3 h4 h5 h6 h7 h8 h9 => ?_⟩
  · have e0 := r7 (none, B, va_up (va_up I3 (o + 29) (va_up (I (o + 29)) 3 (nI (pcL bt 29)))) (o + 17) (va_up (va_up (va_up (I (o + 17)) 7 (nI rt)) 13 (nI 0)) 8 (nI (sp_gn (pcJ bt 29)))), sp_up J (x + 1) 3 (gV (dcX bt) (dcEs bt (40 * (rt + 1))) (dcTs bt (40 * (rt + 1))) (40 * (rt + 1)) (I (o + 30)) (I (o + 31), I (x + 6), 0) 4).2.2, P) (by
      refine ev_aload_n 178 dX1_decodeFrame_177 rfl rfl ?_
      refine ev_getP 181 mm_cl1 (j := 2) (Nat.le_of_ble_eq_true rfl) dX1_decodeFrame_178 lk474 (fun _ _ _ => rfl) (hC.1 17 _ rfl) (a := (o + 29)) (hC.2.2.1 13 _ _ _ rfl) rfl ?_
      refine ev_aload_n 182 dX1_decodeFrame_181 rfl rfl ?_
      refine ev_getP 185 mm_cl1 (j := 3) (Nat.le_of_ble_eq_true rfl) dX1_decodeFrame_182 lk476 (fun _ _ _ => rfl) (hC.1 17 _ rfl) (a := (o + 18)) (hC.2.2.1 14 _ _ _ rfl) rfl ?_
      refine ev_getI 188 mm_cl7 (j := 0) (Nat.le_of_ble_eq_true rfl) dX1_decodeFrame_185 lk202 (fun _ _ _ => rfl) (hC.1 18 _ rfl) rfl ?_
      refine ev_eqI (y := nI ((pcL bt 29))) (r5) ?_
      refine ev_putI 191 mm_cl6 (j := 3) (Nat.le_of_ble_eq_true rfl) dX1_decodeFrame_188 lk351 rfl (fun _ _ _ => rfl) rfl rfl (hC.1 29 _ rfl) rfl ?_
      rw [e29]
      refine ev_aload_n 192 dX1_decodeFrame_191 rfl rfl ?_
      refine ev_getsN 195 (i := 1) rfl dX1_decodeFrame_192 lk1096 rfl ?_
      refine ev_aload_n 196 dX1_decodeFrame_195 rfl rfl ?_
      refine ev_getP 199 mm_cl1 (j := 3) (Nat.le_of_ble_eq_true rfl) dX1_decodeFrame_196 lk476 (fun _ _ _ => rfl) (hC.1 17 _ rfl) (a := (o + 18)) (hC.2.2.1 14 _ _ _ rfl) rfl ?_
      refine ev_getI 202 mm_cl7 (j := 6) (Nat.le_of_ble_eq_true rfl) dX1_decodeFrame_199 lk217 (fun _ _ _ => rfl) (hC.1 18 _ rfl) rfl ?_
      refine ev_eqI (y := nI ((pcJ bt 29))) ((by rw [va_up_n _ _ (by omega)]; exact r6)) ?_
      refine ev_ialdR 203 _ dX1_decodeFrame_202 (hG 1 _ rfl).1 rfl (by have hNN := (hG 1 _ rfl).2; omega) rfl ?_
      refine ev_eqI (y := nI ((sp_gn (pcJ bt 29)))) ((by have := hgx 1 (by decide); rw [va_up_n _ _ (by omega)]; exact sc.2.1 _ hj)) ?_
      refine ev_putI 206 mm_cl1 (j := 8) (Nat.le_of_ble_eq_true rfl) dX1_decodeFrame_203 lk484 rfl (fun _ _ _ => rfl) rfl rfl (hC.1 17 _ rfl) rfl ?_
      rw [va_up_n _ _ (show o + 17 ≠ o + 29 by omega), e17]
      exact ev_vret dX1_decodeFrame_206 rfl (rfl)
      )
    have s0 : sp_up J (x + 1) 3 (gV (dcX bt) (dcEs bt (40 * (rt + 1))) (dcTs bt (40 * (rt + 1))) (40 * (rt + 1)) (I (o + 30)) (I (o + 31), I (x + 6), 0) 0).2.2 = J := by show sp_up J (x + 1) 3 0 = J; rw [sp_up_0]
    rw [s0] at e0
    have ei := lp_X1_dfi (g := g) (B := B) (I := I1) (J := J) (P := P) (x := x) (o := o) (f := f) (q := q) (n := n) (sb := 40 * (rt + 1)) (bt := bt) (Z := (none, B, va_up (va_up I3 (o + 29) (va_up (I (o + 29)) 3 (nI (pcL bt 29)))) (o + 17) (va_up (va_up (va_up (I (o + 17)) 7 (nI rt)) 13 (nI 0)) 8 (nI (sp_gn (pcJ bt 29)))), sp_up J (x + 1) 3 (gV (dcX bt) (dcEs bt (40 * (rt + 1))) (dcTs bt (40 * (rt + 1))) (40 * (rt + 1)) (I (o + 30)) (I (o + 31), I (x + 6), 0) 4).2.2, P)) hV hC tf tq nq hn hp hn6 bt1 (by omega) (by
      rw [hix0, hI2]
      refine ev_iconstN 135 0 dX1_decodeFrame_134 rfl ?_
      refine ev_istore_n 136 (lv' := [_, _, some (.int _), _]) dX1_decodeFrame_135 (Nat.le_of_ble_eq_true rfl) rfl rfl ?_
      exact e0) 8 0 (by omega)
    rw [sgp_0, va_up_id] at ei
    refine ev_icmp_neN 57 92 dX1_decodeFrame_54 (by decide) (by omega) (by omega) rfl (fun hbr => ?_) (fun hx => absurd hx ((by omega)))
    refine ev_iconstN 93 0 dX1_decodeFrame_92 rfl ?_
    refine ev_istore_n 94 (lv' := [_, _, some (.int _), _]) dX1_decodeFrame_93 (Nat.le_of_ble_eq_true rfl) rfl rfl ?_
    exact ei
  · rw [va_up_n _ _ (by omega), va_up_n _ _ (by omega)]; exact r1
  · rw [va_up_n _ _ (by omega), va_up_n _ _ (by omega)]; exact r2
  · rw [va_up_n _ _ (by omega), va_up_n _ _ (by omega), r4 _ (by omega) (by omega) (by omega) (by omega), ← hI2, va_up_s]
  · rw [va_up_n _ _ (by omega), va_up_n _ _ (by omega)]; exact r3
  · rw [va_up_n _ _ (by omega), va_up_n _ _ (by omega), r4 _ (by omega) (by omega) (by omega) (by omega), a2 _ (by omega), e3]
  · rw [va_up_n _ _ (by omega), va_up_n _ _ (by omega), r4 _ (by omega) (by omega) (by omega) (by omega), a2 _ (by omega), ex1]
  · rw [va_up_n _ _ h4, va_up_n _ _ h6, r4 q h1 h2 h5 h9, A2 q h3 h4 h7 h8]
end VDD
