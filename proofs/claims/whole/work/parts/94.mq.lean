/-! play of a voice; opening with marks; repairs, both sides -/
section MQP
variable {g : mm_G} {B : mm_B} {I : mm_TI} {J : mm_TJ} {P : mm_TP} {m x o f q : Nat}
theorem cx_X12_plV {c lb n R rt t : Nat} {F : Nat → Int32} {bt : Nat → Nat} (hM : lyM B P m) (hc8 : c < 8) (hR : I m 78 = nI R) (h43 : R < 4300) (hn : n ≤ 64) (hn6 : 34 ≤ n) (hF : ∀ k, k < n → I (m + 33) (64 * R + k) = F k) (hB : ∀ k, k < n → ub (I (m + 33) (64 * R + k)) = bt k) (hvo : sp_vo F = 1) (hrt : rt = bt 1 % 2) (ht : I m 5 = nI t) (h64 : t < 64) :
    ∃ (I' : mm_TI) (J' : mm_TJ), Ct g mX12_play [.ref m, .int (nI c), .int (nI lb)] B I J P (none, B, I', J', P) ∧
      (sg (I' (m + 15)) (160 * (2 * c + 1)) 160 = gH (dcEs bt (40 * (rt + 1))) (40 * (rt + 1)) (sg (I (m + 15)) (160 * (2 * c + 1)) 160) 4 ∧ ∀ j, j < 160 * (2 * c + 1) ∨ 160 * (2 * c + 1) + 160 ≤ j → I' (m + 15) j = I (m + 15) j) ∧
      (sg (I' (m + 16)) (8 * (2 * c + 1)) 8 = (gV (dcX bt) (dcEs bt (40 * (rt + 1))) (dcTs bt (40 * (rt + 1))) (40 * (rt + 1)) (sg (I (m + 15)) (160 * (2 * c + 1)) 160) (sg (I (m + 16)) (8 * (2 * c + 1)) 8, I (m + 54), 0) 4).1 ∧ ∀ j, j < 8 * (2 * c + 1) ∨ 8 * (2 * c + 1) + 8 ≤ j → I' (m + 16) j = I (m + 16) j) ∧
      I' (m + 17) = sgp (I (m + 17)) (8 * (2 * c + 1)) 8 (dcX bt) ∧ I' (m + 54) = (gV (dcX bt) (dcEs bt (40 * (rt + 1))) (dcTs bt (40 * (rt + 1))) (40 * (rt + 1)) (sg (I (m + 15)) (160 * (2 * c + 1)) 160) (sg (I (m + 16)) (8 * (2 * c + 1)) 8, I (m + 54), 0) 4).2.1 ∧
      J' = sp_up J m 2 (gV (dcX bt) (dcEs bt (40 * (rt + 1))) (dcTs bt (40 * (rt + 1))) (40 * (rt + 1)) (sg (I (m + 15)) (160 * (2 * c + 1)) 160) (sg (I (m + 16)) (8 * (2 * c + 1)) 8, I (m + 54), 0) 4).2.2 ∧
      I' (m + 34) = va_up (I (m + 34)) c (nI rt) ∧ I' (m + 43) = va_up (I (m + 43)) c (nI 0) ∧ (I' (m + 35) c = nI (sp_gn (pcJ bt 29)) ∧ ∀ j, j ≠ c → I' (m + 35) j = I (m + 35) j) ∧ (I' (m + 18) (2 * c + 1) = nI (pcL bt 29) ∧ ∀ j, j ≠ 2 * c + 1 → I' (m + 18) j = I (m + 18) j) ∧ I' (m + 2) = va_up (I (m + 2)) t (nI 40) ∧ I' m = va_up (I m) 5 (nI (t + 1)) ∧
      (∀ q, q ≠ m + 15 → q ≠ m + 16 → q ≠ m + 17 → q ≠ m + 18 → q < m + 54 ∨ m + 58 < q → q ≠ m + 34 → q ≠ m + 43 → q ≠ m + 35 → q ≠ m + 2 → q ≠ m → I' q = I q) := by
  generalize hI1 : va_up I (m + 34) (va_up (I (m + 34)) c (nI rt)) = I1
  have a1 : ∀ q, q ≠ m + 34 → I1 q = I q := fun q h => by rw [← hI1, va_up_n _ _ h]
  generalize hI2 : va_up I1 (m + 43) (va_up (I (m + 43)) c (nI 0)) = I2
  have a2 : ∀ q, q ≠ m + 43 → I2 q = I1 q := fun q h => by rw [← hI2, va_up_n _ _ h]
  have mk := ct_X12_tell (g := g) (B := B) (I := I2) (J := J) (P := P) (m := m) (a := nI 40) (t := t) hM (by rw [a2 _ (by omega), a1 _ (by omega)]; exact ht) h64
  generalize hI3 : va_up (va_up I2 (m + 2) (va_up (I2 (m + 2)) t (nI 40))) m (va_up (I2 m) 5 (nI (t + 1))) = I3 at mk
  have a3 : ∀ q, q ≠ m → q ≠ m + 2 → I3 q = I2 q := fun q h h' => by rw [← hI3, va_up_n _ _ h, va_up_n _ _ h']
  have A3 : ∀ q, q ≠ m + 34 → q ≠ m + 43 → q ≠ m → q ≠ m + 2 → I3 q = I q := fun q h1 h2 h3 h4 => by rw [a3 q h3 h4, a2 q h2, a1 q h1]
  have e78 : I3 m 78 = nI R := by rw [← hI3, va_up_s, va_up_n _ _ (by omega), a2 _ (by omega), a1 _ (by omega)]; exact hR
  have hB3 : ∀ k, k < n → ub (I3 (m + 33) (64 * R + k)) = bt k := fun k hk => by rw [A3 _ (by omega) (by omega) (by omega) (by omega)]; exact hB k hk
  have hdx : ∀ f : Nat → Int32, sgp f (8 * (2 * c + 1)) 8 (dcI bt) = sgp f (8 * (2 * c + 1)) 8 (dcX bt) := fun f => by
    funext j
    unfold sgp
    by_cases cc : 8 * (2 * c + 1) ≤ j ∧ j < 8 * (2 * c + 1) + 8
    · rw [if_pos cc, if_pos cc]; unfold dcX; rw [sg0_in (by omega)]
    · rw [if_neg cc, if_neg cc]
  have hdz : ∀ j, 8 ≤ j → dcX bt j = 0 := fun j hj => by unfold dcX; rw [sgp_out (by omega)]
  generalize hI4 : va_up I3 (m + 17) (sgp (I (m + 17)) (8 * (2 * c + 1)) 8 (dcX bt)) = I4
  have a4 : ∀ q, q ≠ m + 17 → I4 q = I3 q := fun q h => by rw [← hI4, va_up_n _ _ h]
  have A4 : ∀ q, q ≠ m + 34 → q ≠ m + 43 → q ≠ m → q ≠ m + 2 → q ≠ m + 17 → I4 q = I q := fun q h1 h2 h3 h4 h5 => by rw [a4 q h5, A3 q h1 h2 h3 h4]
  obtain ⟨I5, p1, p2, p3, p4, p5, p6, p7, p8, p9⟩ := lx_X12_plp (g := g) (B := B) (P := P) (m := m) (c := c) (lb := lb) (n := n) (R := R) (sb := 40 * (rt + 1)) (bt := bt) (I0 := I4) (J0 := J) (ix := dcX bt) (H0 := sg (I (m + 15)) (160 * (2 * c + 1)) 160) (V0 := sg (I (m + 16)) (8 * (2 * c + 1)) 8) (Y0 := I (m + 54)) hM hc8 (by rw [a4 _ (by omega)]; exact e78) h43 hn hn6 (by omega) (fun k hk => by rw [a4 _ (by omega)]; exact hB3 k hk) (by rw [← hI4, va_up_s, sg_sgp hdz]) sg_z sg_z 4 0 (by omega) I4
    (by rw [A4 _ (by omega) (by omega) (by omega) (by omega) (by omega)]; rfl) (fun _ _ => rfl) (by rw [A4 _ (by omega) (by omega) (by omega) (by omega) (by omega)]; rfl) (fun _ _ => rfl) (A4 _ (by omega) (by omega) (by omega) (by omega) (by omega)) (fun _ _ _ _ _ _ => rfl) (fun _ _ => rfl) (fun _ _ => rfl) (fun h => by omega)
  rw [show sp_up J m 2 (gV (dcX bt) (dcEs bt (40 * (rt + 1))) (dcTs bt (40 * (rt + 1))) (40 * (rt + 1)) (sg (I (m + 15)) (160 * (2 * c + 1)) 160) (sg (I (m + 16)) (8 * (2 * c + 1)) 8, I (m + 54), 0) 0).2.2 = J by show sp_up J m 2 0 = J; rw [sp_up_0]] at p9
  refine ⟨I5, _, lx_X12_pl0 (n := n) (F := F) (bt := bt) hM hc8 hR h43 hn (by omega) hF hB hvo hrt _ ?_, ⟨p1.1, fun j hj => ?_⟩, ⟨p2.1, fun j hj => ?_⟩, ?_, p3, rfl, ?_, ?_, ⟨p8, fun j hj => ?_⟩, ⟨p7, fun j hj => ?_⟩, ?_, ?_, fun q h1 h2 h3 h4 h5 h6 h7 h8 h9 h10 => ?_⟩
  · rw [hI1]
    have ei := lp_X12_pli (g := g) (B := B) (I := I3) (J := J) (P := P) (m := m) (c := c) (lb := lb) (n := n) (R := R) (sb := 40 * (rt + 1)) (bt := bt) (Z := (none, B, I5, sp_up J m 2 (gV (dcX bt) (dcEs bt (40 * (rt + 1))) (dcTs bt (40 * (rt + 1))) (40 * (rt + 1)) (sg (I (m + 15)) (160 * (2 * c + 1)) 160) (sg (I (m + 16)) (8 * (2 * c + 1)) 8, I (m + 54), 0) 4).2.2, P)) hM hc8 e78 h43 hn hn6 hB3 (by
      rw [hdx, A3 (m + 17) (by omega) (by omega) (by omega) (by omega), hI4]
      refine ev_iconstN 167 0 dX12_play_166 rfl ?_
      refine ev_istore 169 (lv' := [_, _, _, _, some (.int _), _, _, _, _, _, _]) dX12_play_167 (Nat.le_of_ble_eq_true rfl) rfl rfl ?_
      exact p9) 8 0 (by omega)
    rw [sgp_0, va_up_id] at ei
    refine ev_if_neN 53 97 dX12_play_50 (by decide) (by omega) rfl (fun hbr => ?_) (fun hx => absurd hx ((by omega)))
    refine ev_aload_n 98 dX12_play_97 rfl rfl ?_
    refine ev_getP 101 mm_cl12 (j := 49) (Nat.le_of_ble_eq_true rfl) dX12_play_98 lk1334 (fun _ _ _ => rfl) (hM.1 0 _ rfl) (a := (m + 43)) (hM.2.2 42 _ _ _ rfl) rfl ?_
    refine ev_iload_n 102 dX12_play_101 rfl rfl ?_
    refine ev_iconstN 103 0 dX12_play_102 rfl ?_
    refine ev_iast 104 _ dX12_play_103 (hM.1 43 _ rfl) rfl (by have hNN := hM.2.1 43 _ rfl; omega) rfl ?_
    rw [a1 (m + 43) (by omega), hI2]
    refine ev_aload_n 105 dX12_play_104 rfl rfl ?_
    refine ev_bipushN 107 40 dX12_play_105 (by decide +kernel) rfl ?_
    refine ev_invVv 110 (Mc := mX12_tell) ⟨lk1599, lk80, hdX12_tell, (Nat.le_of_ble_eq_true rfl), (Nat.le_of_ble_eq_true rfl)⟩ lk1596 lk1598 lk41 mm_cl12 rfl dX12_play_107 (mk) rfl (hM.1 0 _ rfl) (Nat.le_of_ble_eq_true rfl) rfl rfl ?_
    refine ev_iconstN 111 0 dX12_play_110 rfl ?_
    refine ev_istore 113 (lv' := [_, _, _, _, some (.int _), _, _, _, _, _, _]) dX12_play_111 (Nat.le_of_ble_eq_true rfl) rfl rfl ?_
    exact ei
  · rw [p1.2 j hj, A4 _ (by omega) (by omega) (by omega) (by omega) (by omega)]
  · rw [p2.2 j hj, A4 _ (by omega) (by omega) (by omega) (by omega) (by omega)]
  · rw [p4 _ (by omega) (by omega) (by omega) (by omega) (by omega), ← hI4, va_up_s]
  · rw [p4 _ (by omega) (by omega) (by omega) (by omega) (by omega), a4 _ (by omega), a3 _ (by omega) (by omega), a2 _ (by omega), ← hI1, va_up_s]
  · rw [p4 _ (by omega) (by omega) (by omega) (by omega) (by omega), a4 _ (by omega), a3 _ (by omega) (by omega), ← hI2, va_up_s]
  · rw [p6 j hj, A4 _ (by omega) (by omega) (by omega) (by omega) (by omega)]
  · rw [p5 j hj, A4 _ (by omega) (by omega) (by omega) (by omega) (by omega)]
  · rw [p4 _ (by omega) (by omega) (by omega) (by omega) (by omega), a4 _ (by omega), ← hI3, va_up_n _ _ (by omega), va_up_s, a2 _ (by omega), a1 _ (by omega)]
  · rw [p4 _ (by omega) (by omega) (by omega) (by omega) (by omega), a4 _ (by omega), ← hI3, va_up_s, a2 _ (by omega), a1 _ (by omega)]
  · rw [p4 q h1 h2 h4 h8 h5, A4 q h6 h7 h10 h9 h3]
/-- the model opens: w is its finding -/
theorem cx_X12_open {w t : Nat} {v : Int32} {M' : Nat → Int32} (hM : lyM B P m) (ht : I m 5 = nI t) (h64 : t + 1 < 64) (hw : w ≤ 6) (hM5 : M' 5 = nI (t + 1)) (hop : ∀ I0 : mm_TI, I0 m = va_up (I m) 5 (nI (t + 1)) → (∀ q, q ≠ m → q ≠ m + 2 → I0 q = I q) → Ct g mX12_opened [.ref m, .int v] B I0 J P (some (.int (nI w)), B, va_up I0 m M', J, P)) :
    Ct g mX12_open [.ref m, .int v] B I J P (some (.int (nI w)), B, va_up (va_up (va_up I (m + 2) (va_up (va_up (I (m + 2)) t (nI 20)) (t + 1) (nI 21))) m (va_up M' 5 (nI (t + 2)))) (m + 1) (if w = 0 then I (m + 1) else va_up (I (m + 1)) w (I (m + 1) w + nI 1)), J, P) := by
  have m1 := ct_X12_tell (g := g) (B := B) (I := I) (J := J) (P := P) (m := m) (a := nI 20) (t := t) hM ht (by omega)
  generalize hI1 : va_up (va_up I (m + 2) (va_up (I (m + 2)) t (nI 20))) m (va_up (I m) 5 (nI (t + 1))) = I1 at m1
  have e1 : I1 m = va_up (I m) 5 (nI (t + 1)) := by rw [← hI1, va_up_s]
  have c1 := hop I1 e1 (fun q h h' => by rw [← hI1, va_up_n _ _ h, va_up_n _ _ h'])
  have m2 := ct_X12_tell (g := g) (B := B) (I := va_up I1 m M') (J := J) (P := P) (m := m) (a := nI 21) (t := t + 1) hM (by rw [va_up_s]; exact hM5) (by omega)
  rw [va_up_n _ _ (show m + 2 ≠ m by omega), va_up_s, va_3 I1 (a := m) (b := m + 2) _ _ _ (by omega)] at m2
  have eq1 : va_up (va_up I1 m (va_up M' 5 (nI (t + 1 + 1)))) (m + 2) (va_up (I1 (m + 2)) (t + 1) (nI 21)) = va_up (va_up I (m + 2) (va_up (va_up (I (m + 2)) t (nI 20)) (t + 1) (nI 21))) m (va_up M' 5 (nI (t + 2))) := by
    rw [← hI1, bx_uu, va_up_n _ _ (show m + 2 ≠ m by omega), va_up_s, va_3 I (a := m + 2) (b := m) _ _ _ (by omega)]
  rw [eq1] at m2
  generalize hI2 : va_up (va_up I (m + 2) (va_up (va_up (I (m + 2)) t (nI 20)) (t + 1) (nI 21))) m (va_up M' 5 (nI (t + 2))) = I2 at m2 ⊢
  have a2 : I2 (m + 1) = I (m + 1) := by rw [← hI2, va_up_n _ _ (by omega), va_up_n _ _ (by omega)]
  have n1 := hM.2.1 1 _ rfl
  refine ct_of (lv := [some (.ref m), some (.int v), none]) (by decide +kernel) (Nat.le_of_ble_eq_true rfl) rfl ?_
  refine ev_aload_n 1 dX12_open_0 rfl rfl ?_
  refine ev_bipushN 3 20 dX12_open_1 (by decide +kernel) rfl ?_
  refine ev_invVv 6 (Mc := mX12_tell) ⟨lk1599, lk80, hdX12_tell, (Nat.le_of_ble_eq_true rfl), (Nat.le_of_ble_eq_true rfl)⟩ lk1596 lk1598 lk41 mm_cl12 rfl dX12_open_3 (m1) rfl (hM.1 0 _ rfl) (Nat.le_of_ble_eq_true rfl) rfl rfl ?_
  refine ev_aload_n 7 dX12_open_6 rfl rfl ?_
  refine ev_iload_n 8 dX12_open_7 rfl rfl ?_
  refine ev_invV 11 (Mc := mX12_opened) ⟨lk1797, lk80, hdX12_opened, (Nat.le_of_ble_eq_true rfl), (Nat.le_of_ble_eq_true rfl)⟩ lk1794 lk1796 lk66 mm_cl12 rfl dX12_open_8 (c1) rfl (hM.1 0 _ rfl) (Nat.le_of_ble_eq_true rfl) rfl rfl ?_
  refine ev_istore_n 12 (lv' := [_, some (.int _), _]) dX12_open_11 (Nat.le_of_ble_eq_true rfl) rfl rfl ?_
  refine ev_aload_n 13 dX12_open_12 rfl rfl ?_
  refine ev_bipushN 15 21 dX12_open_13 (by decide +kernel) rfl ?_
  refine ev_invVv 18 (Mc := mX12_tell) ⟨lk1599, lk80, hdX12_tell, (Nat.le_of_ble_eq_true rfl), (Nat.le_of_ble_eq_true rfl)⟩ lk1596 lk1598 lk41 mm_cl12 rfl dX12_open_15 (m2) rfl (hM.1 0 _ rfl) (Nat.le_of_ble_eq_true rfl) rfl rfl ?_
  refine ev_iload_n 19 dX12_open_18 rfl rfl ?_
  by_cases cz : w = 0
  · rw [if_pos cz, ← a2, va_up_id]
    refine ev_if_leN 22 32 dX12_open_19 (by decide) (by omega) rfl (fun hbr => ?_) (fun hx => absurd ((by omega)) hx)
    refine ev_iload_n 33 dX12_open_32 rfl rfl ?_
    exact ev_iret dX12_open_33 rfl (rfl)
  · rw [if_neg cz]
    refine ev_if_leN 22 32 dX12_open_19 (by decide) (by omega) rfl (fun hx => absurd hx ((by omega))) (fun hbr => ?_)
    refine ev_aload_n 23 dX12_open_22 rfl rfl ?_
    refine ev_getP 26 mm_cl12 (j := 3) (Nat.le_of_ble_eq_true rfl) dX12_open_23 lk1288 (fun _ _ _ => rfl) (hM.1 0 _ rfl) (a := (m + 1)) (hM.2.2 0 _ _ _ rfl) rfl ?_
    refine ev_iload_n 27 dX12_open_26 rfl rfl ?_
    refine ev_dup2_11 28 dX12_open_27 rfl rfl rfl ?_
    refine ev_iald 29 _ dX12_open_28 (hM.1 1 _ rfl) rfl (by have hNN := hM.2.1 1 _ rfl; omega) rfl ?_
    refine ev_iconstN 30 1 dX12_open_29 rfl ?_
    refine ev_iadd 31 dX12_open_30 rfl ?_
    refine ev_iast 32 _ dX12_open_31 (hM.1 1 _ rfl) rfl (by have hNN := hM.2.1 1 _ rfl; omega) rfl ?_
    refine ev_iload_n 33 dX12_open_32 rfl rfl ?_
    rw [a2]
    exact ev_iret dX12_open_33 rfl (rfl)
theorem ct_X1_openedWith {w t : Nat} (hV : lyV B P x) (hC : lyC B P x o) (hxo : x + 22 ≤ o) (tf : mm_T B f = 104) (hw : w ≤ 6) (ht : I (x + 1) 2 = nI t) (h32 : t + 1 < 32) (hop : ∀ I0 : mm_TI, (∀ q, q ≠ x + 1 → q ≠ x + 3 → I0 q = I q) → Ct g mX4_openingFinding [.ref f] B I0 J P (some (.int (nI w)), B, I0, J, P)) :
    Ct g mX1_openedWith [.ref (o + 17), .ref f] B I J P (some (.int (nI w)), B, va_up (va_up (va_up I (x + 2) (if w = 0 then I (x + 2) else va_up (I (x + 2)) w (I (x + 2) w + nI 1))) (x + 3) (va_up (va_up (I (x + 3)) t (nI 20)) (t + 1) (nI 21))) (x + 1) (va_up (I (x + 1)) 2 (nI (t + 2))), J, P) := by
  have m1 := ct_X10_mark (g := g) (B := B) (I := I) (J := J) (P := P) (x := x) (a := nI 20) (t := t) hV ht (by omega)
  generalize hI1 : va_up (va_up I (x + 3) (va_up (I (x + 3)) t (nI 20))) (x + 1) (va_up (I (x + 1)) 2 (nI (t + 1))) = I1 at m1
  have c1 := hop I1 (fun q h h' => by rw [← hI1, va_up_n _ _ h, va_up_n _ _ h'])
  have a2 : I1 (x + 2) = I (x + 2) := by rw [← hI1, va_up_n _ _ (by omega), va_up_n _ _ (by omega)]
  generalize hG : (if w = 0 then I (x + 2) else va_up (I (x + 2)) w (I (x + 2) w + nI 1)) = G
  have m2 := ct_X10_mark (g := g) (B := B) (I := va_up I1 (x + 2) G) (J := J) (P := P) (x := x) (a := nI 21) (t := t + 1) hV (by rw [va_up_n _ _ (by omega), ← hI1, va_up_s, va_up_s]) (by omega)
  rw [va_up_n _ _ (show x + 3 ≠ x + 2 by omega), va_up_n _ _ (show x + 1 ≠ x + 2 by omega)] at m2
  have eq1 : va_up (va_up (va_up I1 (x + 2) G) (x + 3) (va_up (I1 (x + 3)) (t + 1) (nI 21))) (x + 1) (va_up (I1 (x + 1)) 2 (nI (t + 1 + 1))) = va_up (va_up (va_up I (x + 2) G) (x + 3) (va_up (va_up (I (x + 3)) t (nI 20)) (t + 1) (nI 21))) (x + 1) (va_up (I (x + 1)) 2 (nI (t + 2))) := by
    rw [← hI1, va_up_s, bx_uu, va_up_n _ _ (show x + 3 ≠ x + 1 by omega), va_up_s]
    funext k
    by_cases k1 : k = x + 1
    · subst k1; rw [va_up_s, va_up_s]
    · rw [va_up_n _ _ k1, va_up_n _ _ k1]
      by_cases k3 : k = x + 3
      · subst k3; rw [va_up_s, va_up_s]
      · rw [va_up_n _ _ k3, va_up_n _ _ k3]
        by_cases k2 : k = x + 2
        · subst k2; rw [va_up_s, va_up_s]
        · rw [va_up_n _ _ k2, va_up_n _ _ k2, va_up_n _ _ k1, va_up_n _ _ k3]
  rw [eq1] at m2
  have k31 : Ev g mX1_openedWith 31 [some (.ref (o + 17)), some (.ref f), some (.int (nI w))] [] B (va_up I1 (x + 2) G) J P (some (.int (nI w)), B, va_up (va_up (va_up I (x + 2) G) (x + 3) (va_up (va_up (I (x + 3)) t (nI 20)) (t + 1) (nI 21))) (x + 1) (va_up (I (x + 1)) 2 (nI (t + 2))), J, P) := by
    refine ev_aload_n 32 dX1_openedWith_31 rfl rfl ?_
    refine ev_getP 35 mm_cl1 (j := 0) (Nat.le_of_ble_eq_true rfl) dX1_openedWith_32 lk472 (fun _ _ _ => rfl) (hC.1 17 _ rfl) (a := (x + 1)) (hC.2.2.2 5 _ _ _ rfl) rfl ?_
    refine ev_bipushN 37 21 dX1_openedWith_35 (by decide +kernel) rfl ?_
    refine ev_invVv 40 (Mc := mX10_mark) ⟨lk665, lk76, hdX10_mark, (Nat.le_of_ble_eq_true rfl), (Nat.le_of_ble_eq_true rfl)⟩ lk1060 lk663 lk664 mm_cl10 rfl dX1_openedWith_37 (m2) rfl (hV.1 1 _ rfl) (Nat.le_of_ble_eq_true rfl) rfl rfl ?_
    refine ev_iload_n 41 dX1_openedWith_40 rfl rfl ?_
    exact ev_iret dX1_openedWith_41 rfl (rfl)
  refine ct_of (lv := [some (.ref (o + 17)), some (.ref f), none]) (by decide +kernel) (Nat.le_of_ble_eq_true rfl) rfl ?_
  refine ev_aload_n 1 dX1_openedWith_0 rfl rfl ?_
  refine ev_getP 4 mm_cl1 (j := 0) (Nat.le_of_ble_eq_true rfl) dX1_openedWith_1 lk472 (fun _ _ _ => rfl) (hC.1 17 _ rfl) (a := (x + 1)) (hC.2.2.2 5 _ _ _ rfl) rfl ?_
  refine ev_bipushN 6 20 dX1_openedWith_4 (by decide +kernel) rfl ?_
  refine ev_invVv 9 (Mc := mX10_mark) ⟨lk665, lk76, hdX10_mark, (Nat.le_of_ble_eq_true rfl), (Nat.le_of_ble_eq_true rfl)⟩ lk1060 lk663 lk664 mm_cl10 rfl dX1_openedWith_6 (m1) rfl (hV.1 1 _ rfl) (Nat.le_of_ble_eq_true rfl) rfl rfl ?_
  refine ev_aload_n 10 dX1_openedWith_9 rfl rfl ?_
  refine ev_invV 13 (Mc := mX4_openingFinding) ⟨lk1064, lk89, hdX4_openingFinding, (Nat.le_of_ble_eq_true rfl), (Nat.le_of_ble_eq_true rfl)⟩ lk1061 lk1062 lk1063 mm_cl4 rfl dX1_openedWith_10 (c1) rfl tf (Nat.le_of_ble_eq_true rfl) rfl rfl ?_
  refine ev_istore_n 14 (lv' := [_, some (.ref _), _]) dX1_openedWith_13 (Nat.le_of_ble_eq_true rfl) rfl rfl ?_
  refine ev_iload_n 15 dX1_openedWith_14 rfl rfl ?_
  by_cases cz : w = 0
  · rw [if_pos cz] at hG
    rw [← hG, ← a2, va_up_id] at k31
    rw [← hG, ← a2]
    refine ev_if_eqN 18 31 dX1_openedWith_15 (by decide) (by omega) rfl (fun hbr => ?_) (fun hx => absurd ((by omega)) hx)
    exact k31
  · rw [if_neg cz] at hG
    refine ev_if_eqN 18 31 dX1_openedWith_15 (by decide) (by omega) rfl (fun hx => absurd hx ((by omega))) (fun hbr => ?_)
    refine ev_aload_n 19 dX1_openedWith_18 rfl rfl ?_
    refine ev_getP 22 mm_cl1 (j := 0) (Nat.le_of_ble_eq_true rfl) dX1_openedWith_19 lk472 (fun _ _ _ => rfl) (hC.1 17 _ rfl) (a := (x + 1)) (hC.2.2.2 5 _ _ _ rfl) rfl ?_
    refine ev_getP 25 mm_cl10 (j := 0) (Nat.le_of_ble_eq_true rfl) dX1_openedWith_22 lk106 (fun _ _ _ => rfl) (hV.1 1 _ rfl) (a := (x + 2)) (hV.2.2 6 _ _ _ rfl) rfl ?_
    refine ev_iload_n 26 dX1_openedWith_25 rfl rfl ?_
    refine ev_dup2_11 27 dX1_openedWith_26 rfl rfl rfl ?_
    refine ev_iald 28 _ dX1_openedWith_27 (hV.1 2 _ rfl) rfl (by have hNN := hV.2.1 2 _ rfl; omega) rfl ?_
    refine ev_iconstN 29 1 dX1_openedWith_28 rfl ?_
    refine ev_iadd 30 dX1_openedWith_29 rfl ?_
    refine ev_iast 31 _ dX1_openedWith_30 (hV.1 2 _ rfl) rfl (by have hNN := hV.2.1 2 _ rfl; omega) rfl ?_
    rw [a2, hG]
    exact k31
end MQP
