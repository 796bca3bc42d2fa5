/-! the decoder's heads -/
section VHD
variable {g : mm_G} {B : mm_B} {I I1 : mm_TI} {J J1 : mm_TJ} {P P1 : mm_TP} {m x o f : Nat}
theorem ct_X1_missed (hV : lyV B P x) (hC : lyC B P x o) : Ct g mX1_missed [.ref (o + 17)] B I J P (some (.int (nI 7)), B, va_up I (x + 2) (va_up (I (x + 2)) 7 (I (x + 2) 7 + nI 1)), J, P) := by
  refine ct_of (lv := [some (.ref (o + 17))]) (by decide +kernel) (Nat.le_of_ble_eq_true rfl) rfl ?_
  refine ev_aload_n 1 dX1_missed_0 rfl rfl ?_
  refine ev_getP 4 mm_cl1 (j := 0) (Nat.le_of_ble_eq_true rfl) dX1_missed_1 lk472 (fun _ _ _ => rfl) (hC.1 17 _ rfl) (a := (x + 1)) (hC.2.2.2 5 _ _ _ rfl) rfl ?_
  refine ev_getP 7 mm_cl10 (j := 0) (Nat.le_of_ble_eq_true rfl) dX1_missed_4 lk106 (fun _ _ _ => rfl) (hV.1 1 _ rfl) (a := (x + 2)) (hV.2.2 6 _ _ _ rfl) rfl ?_
  refine ev_bipushN 9 7 dX1_missed_7 (by decide +kernel) rfl ?_
  refine ev_dup2_11 10 dX1_missed_9 rfl rfl rfl ?_
  refine ev_iald 11 _ dX1_missed_10 (hV.1 2 _ rfl) rfl (by have hNN := hV.2.1 2 _ rfl; omega) rfl ?_
  refine ev_iconstN 12 1 dX1_missed_11 rfl ?_
  refine ev_iadd 13 dX1_missed_12 rfl ?_
  refine ev_iast 14 _ dX1_missed_13 (hV.1 2 _ rfl) rfl (by have hNN := hV.2.1 2 _ rfl; omega) rfl ?_
  refine ev_bipushN 16 7 dX1_missed_14 (by decide +kernel) rfl ?_
  exact ev_iret dX1_missed_16 rfl (rfl)
/-- the late ones are taken out -/
theorem lx_X1_h0 {L nx : Nat} {lt : Int32} {φ : Nat → Nat} {lab : Nat → Int32} (hV : lyV B P x) (hC : lyC B P x o) (hxo : x + 22 ≤ o) (hL : L ≤ 250) (hs : I (o + 2) 1 = nI L) (hφ : ∀ k, k < L → P (o + 3) k = some (φ k)) (hT : ∀ k, k < L → mm_T B (φ k) = 104 ∧ o + 33 ≤ φ k) (hl : ∀ k, k < L → I (φ k) 0 = lab k) (r9 : I (o + 17) 9 = nI nx) (r16' : I (o + 17) 16 = lt) :
    ∃ F1 : Nat → Option Nat, (∀ k, k < (sp_rl lab (nI nx) L (L, fun k => k)).1 → F1 k = some (φ ((sp_rl lab (nI nx) L (L, fun k => k)).2 k))) ∧
      ∀ Z : mm_Z, Ev g mX1_decodeNext 25 [some (.ref (o + 17)), some (.ref (o + 2)), none, none, none] [] B (va_up (va_up (va_up I (x + 1) (va_up (I (x + 1)) 2 (nI 0))) (o + 2) (va_up (I (o + 2)) 1 (nI (sp_rl lab (nI nx) L (L, fun k => k)).1))) (o + 17) (va_up (I (o + 17)) 16 (lt + nI (L - (sp_rl lab (nI nx) L (L, fun k => k)).1)))) J (va_up P (o + 3) F1) Z → Ct g mX1_decodeNext [.ref (o + 17), .ref (o + 2)] B I J P Z := by
  generalize hIa : va_up I (x + 1) (va_up (I (x + 1)) 2 (nI 0)) = Ia
  have aa : ∀ q, q ≠ x + 1 → Ia q = I q := fun q h => by rw [← hIa, va_up_n _ _ h]
  obtain ⟨F1, hF, c1⟩ := cx_X5_removeLate (g := g) (B := B) (I := Ia) (J := J) (P := P) (x := x) (o := o) (L := L) (nx := nI nx) (φ := φ) (lab := lab) hC hL (by rw [aa _ (by omega)]; exact hs) hφ hT (fun k hk => by have := (hT k hk).2; rw [aa _ (by omega)]; exact hl k hk)
  generalize sp_rl lab (nI nx) L (L, fun k => k) = q at *
  rw [aa (o + 2) (by omega)] at c1
  refine ⟨F1, hF, fun Z e => ?_⟩
  have hC3 := lyC_P3 (F := F1) hC
  refine ct_of (lv := [some (.ref (o + 17)), some (.ref (o + 2)), none, none, none]) (by decide +kernel) (Nat.le_of_ble_eq_true rfl) rfl ?_
  refine ev_aload_n 1 dX1_decodeNext_0 rfl rfl ?_
  refine ev_getP 4 mm_cl1 (j := 0) (Nat.le_of_ble_eq_true rfl) dX1_decodeNext_1 lk472 (fun _ _ _ => rfl) (hC.1 17 _ rfl) (a := (x + 1)) (hC.2.2.2 5 _ _ _ rfl) rfl ?_
  refine ev_iconstN 5 0 dX1_decodeNext_4 rfl ?_
  refine ev_putI 8 mm_cl10 (j := 2) (Nat.le_of_ble_eq_true rfl) dX1_decodeNext_5 lk112 rfl (fun _ _ _ => rfl) rfl rfl (hV.1 1 _ rfl) rfl ?_
  rw [hIa]
  refine ev_aload_n 9 dX1_decodeNext_8 rfl rfl ?_
  refine ev_dup 10 dX1_decodeNext_9 rfl rfl ?_
  refine ev_getI 13 mm_cl1 (j := 16) (Nat.le_of_ble_eq_true rfl) dX1_decodeNext_10 lk498 (fun _ _ _ => rfl) (hC.1 17 _ rfl) rfl ?_
  refine ev_eqI (y := (lt)) ((by rw [aa _ (by omega)]; exact r16')) ?_
  refine ev_aload_n 14 dX1_decodeNext_13 rfl rfl ?_
  refine ev_aload_n 15 dX1_decodeNext_14 rfl rfl ?_
  refine ev_getI 18 mm_cl1 (j := 9) (Nat.le_of_ble_eq_true rfl) dX1_decodeNext_15 lk485 (fun _ _ _ => rfl) (hC.1 17 _ rfl) rfl ?_
  refine ev_eqI (y := nI (nx)) ((by rw [aa _ (by omega)]; exact r9)) ?_
  refine ev_invV 21 (Mc := mX5_removeLate) ⟨lk1040, lk82, hdX5_removeLate, (Nat.le_of_ble_eq_true rfl), (Nat.le_of_ble_eq_true rfl)⟩ lk1037 lk1038 lk1039 mm_cl5 rfl dX1_decodeNext_18 (c1) rfl (hC.1 2 _ rfl) (Nat.le_of_ble_eq_true rfl) rfl rfl ?_
  have hC := hC3
  refine ev_iadd 22 dX1_decodeNext_21 rfl ?_
  refine ev_putI 25 mm_cl1 (j := 16) (Nat.le_of_ble_eq_true rfl) dX1_decodeNext_22 lk498 rfl (fun _ _ _ => rfl) rfl rfl (hC.1 17 _ rfl) rfl ?_
  rw [va_up_n _ _ (show o + 17 ≠ o + 2 by omega), aa (o + 17) (by omega)]
  exact e
/-- none of this label -/
theorem lx_X1_h1 {n nx : Nat} {φ : Nat → Nat} {lab : Nat → Int32} {Z : mm_Z} (hV : lyV B P x) (hC : lyC B P x o) (hxo : x + 22 ≤ o) (hn : n ≤ 250) (hs : I (o + 2) 1 = nI n) (hφ : ∀ k, k < n → P (o + 3) k = some (φ k) ∧ mm_T B (φ k) = 104) (hl : ∀ k, k < n → I (φ k) 0 = lab k) (hr : ∀ k, k < n → lab k ≠ nI nx) (r9 : I (o + 17) 9 = nI nx)
    (K : Ev g mX1_decodeNext 54 [some (.ref (o + 17)), some (.ref (o + 2)), some .null, none, none] [] B (va_up (va_up I (x + 2) (va_up (I (x + 2)) 7 (I (x + 2) 7 + nI 1))) (o + 17) (va_up (I (o + 17)) 12 (nI 7))) J P Z) : Ev g mX1_decodeNext 25 [some (.ref (o + 17)), some (.ref (o + 2)), none, none, none] [] B I J P Z := by
  have c1 := ct_X5_take0 (g := g) (B := B) (I := I) (J := J) (P := P) (x := x) (o := o) (v := nI nx) hC hn hs hφ hl hr
  have c2 := ct_X1_missed (g := g) (B := B) (I := I) (J := J) (P := P) (x := x) (o := o) hV hC
  refine ev_aload_n 26 dX1_decodeNext_25 rfl rfl ?_
  refine ev_aload_n 27 dX1_decodeNext_26 rfl rfl ?_
  refine ev_getI 30 mm_cl1 (j := 9) (Nat.le_of_ble_eq_true rfl) dX1_decodeNext_27 lk485 (fun _ _ _ => rfl) (hC.1 17 _ rfl) rfl ?_
  refine ev_eqI (y := nI (nx)) (r9) ?_
  refine ev_invV 33 (Mc := mX5_takeFirst) ⟨lk1047, lk82, hdX5_takeFirst, (Nat.le_of_ble_eq_true rfl), (Nat.le_of_ble_eq_true rfl)⟩ lk1044 lk1045 lk1046 mm_cl5 rfl dX1_decodeNext_30 (c1) rfl (hC.1 2 _ rfl) (Nat.le_of_ble_eq_true rfl) rfl rfl ?_
  refine ev_astore_nN 34 (lv' := [_, some (.ref _), _, _, _]) dX1_decodeNext_33 (Nat.le_of_ble_eq_true rfl) rfl rfl ?_
  refine ev_aload_n 35 dX1_decodeNext_34 rfl rfl ?_
  refine ev_aload_nN 36 dX1_decodeNext_35 rfl rfl ?_
  refine ev_ifnonnull_n 39 dX1_decodeNext_36 rfl ?_
  refine ev_aload_n 40 dX1_decodeNext_39 rfl rfl ?_
  refine ev_invV 43 (Mc := mX1_missed) ⟨lk1055, lk85, hdX1_missed, (Nat.le_of_ble_eq_true rfl), (Nat.le_of_ble_eq_true rfl)⟩ lk1052 lk1054 lk24 mm_cl1 rfl dX1_decodeNext_40 (c2) rfl (hC.1 17 _ rfl) (Nat.le_of_ble_eq_true rfl) rfl rfl ?_
  refine ev_goto 51 dX1_decodeNext_43 (by decide) ?_
  refine ev_putI 54 mm_cl1 (j := 12) (Nat.le_of_ble_eq_true rfl) dX1_decodeNext_51 lk491 rfl (fun _ _ _ => rfl) rfl rfl (hC.1 17 _ rfl) rfl ?_
  rw [va_up_n _ _ (show o + 17 ≠ x + 2 by omega)]
  exact K
/-- one is taken, and opened -/
theorem lx_X1_h2 {n nx i w : Nat} {φ : Nat → Nat} {lab : Nat → Int32} (hV : lyV B P x) (hC : lyC B P x o) (hxo : x + 22 ≤ o) (hn : n ≤ 250) (hs : I (o + 2) 1 = nI n) (hφ : ∀ k, k < n → P (o + 3) k = some (φ k) ∧ mm_T B (φ k) = 104) (hl : ∀ k, k < n → I (φ k) 0 = lab k) (hi : i < n) (h1 : lab i = nI nx) (h2 : ∀ k, k < i → lab k ≠ nI nx) (r9 : I (o + 17) 9 = nI nx) (ht : I (x + 1) 2 = nI 0) (hw : w ≤ 6)
    (hop : ∀ (I0 : mm_TI) (F : Nat → Option Nat), (∀ q, q ≠ x + 1 → q ≠ x + 3 → q ≠ o + 2 → I0 q = I q) → Ct g mX4_openingFinding [.ref (φ i)] B I0 J (va_up P (o + 3) F) (some (.int (nI w)), B, I0, J, va_up P (o + 3) F)) :
    ∃ F2 : Nat → Option Nat, (∀ k, k + 1 < n → F2 k = some (φ (sk i k))) ∧ ∀ Z : mm_Z, Ev g mX1_decodeNext 54 [some (.ref (o + 17)), some (.ref (o + 2)), some (.ref (φ i)), none, none] [] B (va_up (OPc x 0 w (va_up I (o + 2) (va_up (I (o + 2)) 1 (nI (n - 1))))) (o + 17) (va_up (I (o + 17)) 12 (nI w))) J (va_up P (o + 3) F2) Z → Ev g mX1_decodeNext 25 [some (.ref (o + 17)), some (.ref (o + 2)), none, none, none] [] B I J P Z := by
  obtain ⟨F2, c1, hF⟩ := cx_X5_take1 (g := g) (B := B) (I := I) (J := J) (P := P) (x := x) (o := o) (v := nI nx) hC hn hs hφ hl hi h1 h2
  refine ⟨F2, hF, fun Z e => ?_⟩
  have tp := (hφ i hi).2
  have hV3 : lyV B (va_up P (o + 3) F2) x := ⟨hV.1, hV.2.1, ly_P_up (W := 22) hV.2.2 (by decide) (by omega)⟩
  have hC3 := lyC_P3 (F := F2) hC
  generalize hI2 : va_up I (o + 2) (va_up (I (o + 2)) 1 (nI (n - 1))) = I2 at c1 e
  have a2 : ∀ q, q ≠ o + 2 → I2 q = I q := fun q h => by rw [← hI2, va_up_n _ _ h]
  have ow := ct_X1_openedWith (g := g) (B := B) (I := I2) (J := J) (P := va_up P (o + 3) F2) (x := x) (o := o) (f := φ i) (w := w) (t := 0) hV3 hC3 hxo tp hw (by rw [a2 _ (by omega)]; exact ht) (by omega) (fun I0 h => hop I0 F2 (fun q q1 q2 q3 => by rw [h q q1 q2, a2 q q3]))
  rw [show va_up (va_up (va_up I2 (x + 2) (if w = 0 then I2 (x + 2) else va_up (I2 (x + 2)) w (I2 (x + 2) w + nI 1))) (x + 3) (va_up (va_up (I2 (x + 3)) 0 (nI 20)) (0 + 1) (nI 21))) (x + 1) (va_up (I2 (x + 1)) 2 (nI (0 + 2))) = OPc x 0 w I2 from rfl] at ow
  refine ev_aload_n 26 dX1_decodeNext_25 rfl rfl ?_
  refine ev_aload_n 27 dX1_decodeNext_26 rfl rfl ?_
  refine ev_getI 30 mm_cl1 (j := 9) (Nat.le_of_ble_eq_true rfl) dX1_decodeNext_27 lk485 (fun _ _ _ => rfl) (hC.1 17 _ rfl) rfl ?_
  refine ev_eqI (y := nI (nx)) (r9) ?_
  refine ev_invV 33 (Mc := mX5_takeFirst) ⟨lk1047, lk82, hdX5_takeFirst, (Nat.le_of_ble_eq_true rfl), (Nat.le_of_ble_eq_true rfl)⟩ lk1044 lk1045 lk1046 mm_cl5 rfl dX1_decodeNext_30 (c1) rfl (hC.1 2 _ rfl) (Nat.le_of_ble_eq_true rfl) rfl rfl ?_
  have hC := hC3
  refine ev_astore_n 34 (lv' := [_, some (.ref _), _, _, _]) dX1_decodeNext_33 (Nat.le_of_ble_eq_true rfl) rfl rfl ?_
  refine ev_aload_n 35 dX1_decodeNext_34 rfl rfl ?_
  refine ev_aload_n 36 dX1_decodeNext_35 rfl rfl ?_
  refine ev_ifnonnull_r 46 dX1_decodeNext_36 (by decide) ?_
  refine ev_aload_n 47 dX1_decodeNext_46 rfl rfl ?_
  refine ev_aload_n 48 dX1_decodeNext_47 rfl rfl ?_
  refine ev_invV 51 (Mc := mX1_openedWith) ⟨lk1059, lk85, hdX1_openedWith, (Nat.le_of_ble_eq_true rfl), (Nat.le_of_ble_eq_true rfl)⟩ lk1056 lk1058 lk25 mm_cl1 rfl dX1_decodeNext_48 (ow) rfl (hC.1 17 _ rfl) (Nat.le_of_ble_eq_true rfl) rfl rfl ?_
  refine ev_putI 54 mm_cl1 (j := 12) (Nat.le_of_ble_eq_true rfl) dX1_decodeNext_51 lk491 rfl (fun _ _ _ => rfl) rfl rfl (hC.1 17 _ rfl) rfl ?_
  rw [OPc_o (by omega) (by omega) (by omega), a2 (o + 17) (by omega)]
  exact e
/-- it is decoded -/
theorem lx_X1_b1 {r jo : Nat} {Z : mm_Z} (hC : lyC B P x o) (tf : mm_T B f = 104) (r12 : I (o + 17) 12 = nI 0) (hr : r < 2 ^ 31) (r14 : I (o + 17) 14 = nI r) (hjo : jo = if 0 < r then 1 else 0) (hd : Ct g mX1_decodeFrame [.ref (o + 17), .ref f] B I J P (none, B, I1, J1, P))
    (K : Ev g mX1_decodeNext 139 [some (.ref (o + 17)), none, none, some (.int (nI jo)), none] [] B (va_up I1 (o + 17) (va_up (I1 (o + 17)) 14 (nI 0))) J1 P Z) : Ev g mX1_decodeNext 54 [some (.ref (o + 17)), some (.ref (o + 2)), some (.ref f), none, none] [] B I J P Z := by
  have k73 : Ev g mX1_decodeNext 73 [some (.ref (o + 17)), some (.ref (o + 2)), some (.ref f), none, none] [.int (nI jo)] B I J P Z := by
    refine ev_istore_n 74 (lv' := [_, _, some (.ref _), _, _]) dX1_decodeNext_73 (Nat.le_of_ble_eq_true rfl) rfl rfl ?_
    refine ev_aload_n 75 dX1_decodeNext_74 rfl rfl ?_
    refine ev_getI 78 mm_cl1 (j := 12) (Nat.le_of_ble_eq_true rfl) dX1_decodeNext_75 lk491 (fun _ _ _ => rfl) (hC.1 17 _ rfl) rfl ?_
    refine ev_eqI (y := nI (0)) (r12) ?_
    refine ev_if_neN 81 98 dX1_decodeNext_78 (by decide) (by omega) rfl (fun hx => absurd ((by omega)) hx) (fun hbr => ?_)
    refine ev_aload_n 82 dX1_decodeNext_81 rfl rfl ?_
    refine ev_ifnull_r 85 dX1_decodeNext_82 rfl ?_
    refine ev_aload_n 86 dX1_decodeNext_85 rfl rfl ?_
    refine ev_aload_n 87 dX1_decodeNext_86 rfl rfl ?_
    refine ev_invVv 90 (Mc := mX1_decodeFrame) ⟨lk1077, lk85, hdX1_decodeFrame, (Nat.le_of_ble_eq_true rfl), (Nat.le_of_ble_eq_true rfl)⟩ lk1074 lk1076 lk26 mm_cl1 rfl dX1_decodeNext_87 (hd) rfl (hC.1 17 _ rfl) (Nat.le_of_ble_eq_true rfl) rfl rfl ?_
    refine ev_aload_n 91 dX1_decodeNext_90 rfl rfl ?_
    refine ev_iconstN 92 0 dX1_decodeNext_91 rfl ?_
    refine ev_putI 95 mm_cl1 (j := 14) (Nat.le_of_ble_eq_true rfl) dX1_decodeNext_92 lk495 rfl (fun _ _ _ => rfl) rfl rfl (hC.1 17 _ rfl) rfl ?_
    refine ev_goto 139 dX1_decodeNext_95 (by decide) ?_
    refine ev_le (mle_s (mle_n (mle_n (mle_s (mle_n (mle_0)))))) ?_
    exact K
  refine ev_aload_n 55 dX1_decodeNext_54 rfl rfl ?_
  refine ev_getI 58 mm_cl1 (j := 12) (Nat.le_of_ble_eq_true rfl) dX1_decodeNext_55 lk491 (fun _ _ _ => rfl) (hC.1 17 _ rfl) rfl ?_
  refine ev_eqI (y := nI (0)) (r12) ?_
  refine ev_if_neN 61 68 dX1_decodeNext_58 (by decide) (by omega) rfl (fun hx => absurd ((by omega)) hx) (fun hbr => ?_)
  refine ev_aload_n 62 dX1_decodeNext_61 rfl rfl ?_
  refine ev_getI 65 mm_cl1 (j := 14) (Nat.le_of_ble_eq_true rfl) dX1_decodeNext_62 lk495 (fun _ _ _ => rfl) (hC.1 17 _ rfl) rfl ?_
  refine ev_eqI (y := nI (r)) (r14) ?_
  by_cases cz : r = 0
  · rw [if_neg (by omega)] at hjo
    subst hjo
    refine ev_if_leN 68 72 dX1_decodeNext_65 (by decide) (by omega) rfl (fun hbr => ?_) (fun hx => absurd ((by omega)) hx)
    refine ev_iconstN 73 0 dX1_decodeNext_72 rfl ?_
    exact k73
  · rw [if_pos (by omega)] at hjo
    subst hjo
    refine ev_if_leN 68 72 dX1_decodeNext_65 (by decide) (by omega) rfl (fun hx => absurd hx ((by omega))) (fun hbr => ?_)
    refine ev_iconstN 69 1 dX1_decodeNext_68 rfl ?_
    refine ev_goto 73 dX1_decodeNext_69 (by decide) ?_
    exact k73
end VHD
section VHR
variable {g : mm_G} {B : mm_B} {I I1 : mm_TI} {J J1 : mm_TJ} {P : mm_TP} {m x o f ah : Nat}
/-- it is repaired, with nothing ahead -/
theorem lx_X1_b2n {w nx t : Nat} {rr : Int32} {Z : mm_Z} (hV : lyV B P x) (hC : lyC B P x o) (hxo : x + 22 ≤ o) (r12 : I (o + 17) 12 = nI w) (hw : 1 ≤ w ∧ w ≤ 7) (r9 : I (o + 17) 9 = nI nx) (hnx : nx < 65536) (ht : I (x + 1) 2 = nI t) (h32 : t < 32)
    (hfi : Ct g mX5_first [.ref (o + 2), .int (nI ((nx + 1) % 65536))] B (va_up (va_up I (x + 3) (va_up (I (x + 3)) t (nI (30 + w)))) (x + 1) (va_up (I (x + 1)) 2 (nI (t + 1)))) J P (some .null, B, va_up (va_up I (x + 3) (va_up (I (x + 3)) t (nI (30 + w)))) (x + 1) (va_up (I (x + 1)) 2 (nI (t + 1))), J, P))
    (hd : Ct g mX1_repairFrom [.ref (o + 17), .null] B (va_up (va_up I (x + 3) (va_up (I (x + 3)) t (nI (30 + w)))) (x + 1) (va_up (I (x + 1)) 2 (nI (t + 1)))) J P (none, B, I1, J1, P)) (r14 : I1 (o + 17) 14 = rr)
    (K : Ev g mX1_decodeNext 139 [some (.ref (o + 17)), none, none, some (.int (nI 1)), none] [] B (va_up I1 (o + 17) (va_up (I1 (o + 17)) 14 (rr + nI 1))) J1 P Z) (fv : Value) (hfv : fv = .null ∨ fv = .ref f) (tf : mm_T B f = 104) : Ev g mX1_decodeNext 54 [some (.ref (o + 17)), some (.ref (o + 2)), some fv, none, none] [] B I J P Z := by
  have mk := ct_X10_mark (g := g) (B := B) (I := I) (J := J) (P := P) (x := x) (a := nI (30 + w)) (t := t) hV ht h32
  generalize hIm : va_up (va_up I (x + 3) (va_up (I (x + 3)) t (nI (30 + w)))) (x + 1) (va_up (I (x + 1)) 2 (nI (t + 1))) = Im at *
  have am : Im (o + 17) = I (o + 17) := by rw [← hIm, va_up_n _ _ (by omega), va_up_n _ _ (by omega)]
  rcases hfv with rfl | rfl
  · refine ev_aload_n 55 dX1_decodeNext_54 rfl rfl ?_
    refine ev_getI 58 mm_cl1 (j := 12) (Nat.le_of_ble_eq_true rfl) dX1_decodeNext_55 lk491 (fun _ _ _ => rfl) (hC.1 17 _ rfl) rfl ?_
    refine ev_eqI (y := nI (w)) (r12) ?_
    refine ev_if_neN 61 68 dX1_decodeNext_58 (by decide) (by omega) rfl (fun hbr => ?_) (fun hx => absurd hx ((by omega)))
    refine ev_iconstN 69 1 dX1_decodeNext_68 rfl ?_
    refine ev_goto 73 dX1_decodeNext_69 (by decide) ?_
    refine ev_istore_n 74 (lv' := [_, _, some .null, _, _]) dX1_decodeNext_73 (Nat.le_of_ble_eq_true rfl) rfl rfl ?_
    refine ev_aload_n 75 dX1_decodeNext_74 rfl rfl ?_
    refine ev_getI 78 mm_cl1 (j := 12) (Nat.le_of_ble_eq_true rfl) dX1_decodeNext_75 lk491 (fun _ _ _ => rfl) (hC.1 17 _ rfl) rfl ?_
    refine ev_eqI (y := nI (w)) (r12) ?_
    refine ev_if_neN 81 98 dX1_decodeNext_78 (by decide) (by omega) rfl (fun hbr => ?_) (fun hx => absurd hx ((by omega)))
    refine ev_aload_n 99 dX1_decodeNext_98 rfl rfl ?_
    refine ev_getP 102 mm_cl1 (j := 0) (Nat.le_of_ble_eq_true rfl) dX1_decodeNext_99 lk472 (fun _ _ _ => rfl) (hC.1 17 _ rfl) (a := (x + 1)) (hC.2.2.2 5 _ _ _ rfl) rfl ?_
    refine ev_bipushN 104 30 dX1_decodeNext_102 (by decide +kernel) rfl ?_
    refine ev_aload_n 105 dX1_decodeNext_104 rfl rfl ?_
    refine ev_getI 108 mm_cl1 (j := 12) (Nat.le_of_ble_eq_true rfl) dX1_decodeNext_105 lk491 (fun _ _ _ => rfl) (hC.1 17 _ rfl) rfl ?_
    refine ev_eqI (y := nI (w)) (r12) ?_
    refine ev_iaddN 109 dX1_decodeNext_108 rfl ?_
    refine ev_invVv 112 (Mc := mX10_mark) ⟨lk665, lk76, hdX10_mark, (Nat.le_of_ble_eq_true rfl), (Nat.le_of_ble_eq_true rfl)⟩ lk1060 lk663 lk664 mm_cl10 rfl dX1_decodeNext_109 (mk) rfl (hV.1 1 _ rfl) (Nat.le_of_ble_eq_true rfl) rfl rfl ?_
    refine ev_aload_n 113 dX1_decodeNext_112 rfl rfl ?_
    refine ev_aload_n 114 dX1_decodeNext_113 rfl rfl ?_
    refine ev_aload_n 115 dX1_decodeNext_114 rfl rfl ?_
    refine ev_getI 118 mm_cl1 (j := 9) (Nat.le_of_ble_eq_true rfl) dX1_decodeNext_115 lk485 (fun _ _ _ => rfl) (hC.1 17 _ rfl) rfl ?_
    refine ev_eqI (y := nI (nx)) ((by rw [am]; exact r9)) ?_
    refine ev_iconstN 119 1 dX1_decodeNext_118 rfl ?_
    refine ev_iaddN 120 dX1_decodeNext_119 rfl ?_
    refine ev_ldc 122 dX1_decodeNext_120 lk1097 rfl ?_
    refine ev_eqI (y := nI 65536) (by decide +kernel) ?_
    refine ev_iremN 123 dX1_decodeNext_122 (by omega) (by omega) (by omega) rfl ?_
    refine ev_invV 126 (Mc := mX5_first) ⟨lk1101, lk82, hdX5_first, (Nat.le_of_ble_eq_true rfl), (Nat.le_of_ble_eq_true rfl)⟩ lk1098 lk1099 lk1100 mm_cl5 rfl dX1_decodeNext_123 (hfi) rfl (hC.1 2 _ rfl) (Nat.le_of_ble_eq_true rfl) rfl rfl ?_
    refine ev_invVv 129 (Mc := mX1_repairFrom) ⟨lk1105, lk85, hdX1_repairFrom, (Nat.le_of_ble_eq_true rfl), (Nat.le_of_ble_eq_true rfl)⟩ lk1102 lk1104 lk27 mm_cl1 rfl dX1_decodeNext_126 (hd) rfl (hC.1 17 _ rfl) (Nat.le_of_ble_eq_true rfl) rfl rfl ?_
    refine ev_aload_n 130 dX1_decodeNext_129 rfl rfl ?_
    refine ev_dup 131 dX1_decodeNext_130 rfl rfl ?_
    refine ev_getI 134 mm_cl1 (j := 14) (Nat.le_of_ble_eq_true rfl) dX1_decodeNext_131 lk495 (fun _ _ _ => rfl) (hC.1 17 _ rfl) rfl ?_
    refine ev_eqI (y := (rr)) (r14) ?_
    refine ev_iconstN 135 1 dX1_decodeNext_134 rfl ?_
    refine ev_iadd 136 dX1_decodeNext_135 rfl ?_
    refine ev_putI 139 mm_cl1 (j := 14) (Nat.le_of_ble_eq_true rfl) dX1_decodeNext_136 lk495 rfl (fun _ _ _ => rfl) rfl rfl (hC.1 17 _ rfl) rfl ?_
    refine ev_le (mle_s (mle_n (mle_n (mle_s (mle_n (mle_0)))))) ?_
    exact K
  · refine ev_aload_n 55 dX1_decodeNext_54 rfl rfl ?_
    refine ev_getI 58 mm_cl1 (j := 12) (Nat.le_of_ble_eq_true rfl) dX1_decodeNext_55 lk491 (fun _ _ _ => rfl) (hC.1 17 _ rfl) rfl ?_
    refine ev_eqI (y := nI (w)) (r12) ?_
    refine ev_if_neN 61 68 dX1_decodeNext_58 (by decide) (by omega) rfl (fun hbr => ?_) (fun hx => absurd hx ((by omega)))
    refine ev_iconstN 69 1 dX1_decodeNext_68 rfl ?_
    refine ev_goto 73 dX1_decodeNext_69 (by decide) ?_
    refine ev_istore_n 74 (lv' := [_, _, some (.ref _), _, _]) dX1_decodeNext_73 (Nat.le_of_ble_eq_true rfl) rfl rfl ?_
    refine ev_aload_n 75 dX1_decodeNext_74 rfl rfl ?_
    refine ev_getI 78 mm_cl1 (j := 12) (Nat.le_of_ble_eq_true rfl) dX1_decodeNext_75 lk491 (fun _ _ _ => rfl) (hC.1 17 _ rfl) rfl ?_
    refine ev_eqI (y := nI (w)) (r12) ?_
    refine ev_if_neN 81 98 dX1_decodeNext_78 (by decide) (by omega) rfl (fun hbr => ?_) (fun hx => absurd hx ((by omega)))
    refine ev_aload_n 99 dX1_decodeNext_98 rfl rfl ?_
    refine ev_getP 102 mm_cl1 (j := 0) (Nat.le_of_ble_eq_true rfl) dX1_decodeNext_99 lk472 (fun _ _ _ => rfl) (hC.1 17 _ rfl) (a := (x + 1)) (hC.2.2.2 5 _ _ _ rfl) rfl ?_
    refine ev_bipushN 104 30 dX1_decodeNext_102 (by decide +kernel) rfl ?_
    refine ev_aload_n 105 dX1_decodeNext_104 rfl rfl ?_
    refine ev_getI 108 mm_cl1 (j := 12) (Nat.le_of_ble_eq_true rfl) dX1_decodeNext_105 lk491 (fun _ _ _ => rfl) (hC.1 17 _ rfl) rfl ?_
    refine ev_eqI (y := nI (w)) (r12) ?_
    refine ev_iaddN 109 dX1_decodeNext_108 rfl ?_
    refine ev_invVv 112 (Mc := mX10_mark) ⟨lk665, lk76, hdX10_mark, (Nat.le_of_ble_eq_true rfl), (Nat.le_of_ble_eq_true rfl)⟩ lk1060 lk663 lk664 mm_cl10 rfl dX1_decodeNext_109 (mk) rfl (hV.1 1 _ rfl) (Nat.le_of_ble_eq_true rfl) rfl rfl ?_
    refine ev_aload_n 113 dX1_decodeNext_112 rfl rfl ?_
    refine ev_aload_n 114 dX1_decodeNext_113 rfl rfl ?_
    refine ev_aload_n 115 dX1_decodeNext_114 rfl rfl ?_
    refine ev_getI 118 mm_cl1 (j := 9) (Nat.le_of_ble_eq_true rfl) dX1_decodeNext_115 lk485 (fun _ _ _ => rfl) (hC.1 17 _ rfl) rfl ?_
    refine ev_eqI (y := nI (nx)) ((by rw [am]; exact r9)) ?_
    refine ev_iconstN 119 1 dX1_decodeNext_118 rfl ?_
    refine ev_iaddN 120 dX1_decodeNext_119 rfl ?_
    refine ev_ldc 122 dX1_decodeNext_120 lk1097 rfl ?_
    refine ev_eqI (y := nI 65536) (by decide +kernel) ?_
    refine ev_iremN 123 dX1_decodeNext_122 (by omega) (by omega) (by omega) rfl ?_
    refine ev_invV 126 (Mc := mX5_first) ⟨lk1101, lk82, hdX5_first, (Nat.le_of_ble_eq_true rfl), (Nat.le_of_ble_eq_true rfl)⟩ lk1098 lk1099 lk1100 mm_cl5 rfl dX1_decodeNext_123 (hfi) rfl (hC.1 2 _ rfl) (Nat.le_of_ble_eq_true rfl) rfl rfl ?_
    refine ev_invVv 129 (Mc := mX1_repairFrom) ⟨lk1105, lk85, hdX1_repairFrom, (Nat.le_of_ble_eq_true rfl), (Nat.le_of_ble_eq_true rfl)⟩ lk1102 lk1104 lk27 mm_cl1 rfl dX1_decodeNext_126 (hd) rfl (hC.1 17 _ rfl) (Nat.le_of_ble_eq_true rfl) rfl rfl ?_
    refine ev_aload_n 130 dX1_decodeNext_129 rfl rfl ?_
    refine ev_dup 131 dX1_decodeNext_130 rfl rfl ?_
    refine ev_getI 134 mm_cl1 (j := 14) (Nat.le_of_ble_eq_true rfl) dX1_decodeNext_131 lk495 (fun _ _ _ => rfl) (hC.1 17 _ rfl) rfl ?_
    refine ev_eqI (y := (rr)) (r14) ?_
    refine ev_iconstN 135 1 dX1_decodeNext_134 rfl ?_
    refine ev_iadd 136 dX1_decodeNext_135 rfl ?_
    refine ev_putI 139 mm_cl1 (j := 14) (Nat.le_of_ble_eq_true rfl) dX1_decodeNext_136 lk495 rfl (fun _ _ _ => rfl) rfl rfl (hC.1 17 _ rfl) rfl ?_
    refine ev_le (mle_s (mle_n (mle_n (mle_s (mle_n (mle_0)))))) ?_
    exact K
/-- and with a frame ahead -/
theorem lx_X1_b2f {w nx t : Nat} {rr : Int32} {Z : mm_Z} (hV : lyV B P x) (hC : lyC B P x o) (hxo : x + 22 ≤ o) (r12 : I (o + 17) 12 = nI w) (hw : 1 ≤ w ∧ w ≤ 7) (r9 : I (o + 17) 9 = nI nx) (hnx : nx < 65536) (ht : I (x + 1) 2 = nI t) (h32 : t < 32) (ta : mm_T B ah = 104)
    (hfi : Ct g mX5_first [.ref (o + 2), .int (nI ((nx + 1) % 65536))] B (va_up (va_up I (x + 3) (va_up (I (x + 3)) t (nI (30 + w)))) (x + 1) (va_up (I (x + 1)) 2 (nI (t + 1)))) J P (some (.ref ah), B, va_up (va_up I (x + 3) (va_up (I (x + 3)) t (nI (30 + w)))) (x + 1) (va_up (I (x + 1)) 2 (nI (t + 1))), J, P))
    (hd : Ct g mX1_repairFrom [.ref (o + 17), .ref ah] B (va_up (va_up I (x + 3) (va_up (I (x + 3)) t (nI (30 + w)))) (x + 1) (va_up (I (x + 1)) 2 (nI (t + 1)))) J P (none, B, I1, J1, P)) (r14 : I1 (o + 17) 14 = rr)
    (K : Ev g mX1_decodeNext 139 [some (.ref (o + 17)), none, none, some (.int (nI 1)), none] [] B (va_up I1 (o + 17) (va_up (I1 (o + 17)) 14 (rr + nI 1))) J1 P Z) (fv : Value) (hfv : fv = .null ∨ fv = .ref f) (tf : mm_T B f = 104) : Ev g mX1_decodeNext 54 [some (.ref (o + 17)), some (.ref (o + 2)), some fv, none, none] [] B I J P Z := by
  have mk := ct_X10_mark (g := g) (B := B) (I := I) (J := J) (P := P) (x := x) (a := nI (30 + w)) (t := t) hV ht h32
  generalize hIm : va_up (va_up I (x + 3) (va_up (I (x + 3)) t (nI (30 + w)))) (x + 1) (va_up (I (x + 1)) 2 (nI (t + 1))) = Im at *
  have am : Im (o + 17) = I (o + 17) := by rw [← hIm, va_up_n _ _ (by omega), va_up_n _ _ (by omega)]
  rcases hfv with rfl | rfl
  · refine ev_aload_n 55 dX1_decodeNext_54 rfl rfl ?_
    refine ev_getI 58 mm_cl1 (j := 12) (Nat.le_of_ble_eq_true rfl) dX1_decodeNext_55 lk491 (fun _ _ _ => rfl) (hC.1 17 _ rfl) rfl ?_
    refine ev_eqI (y := nI (w)) (r12) ?_
    refine ev_if_neN 61 68 dX1_decodeNext_58 (by decide) (by omega) rfl (fun hbr => ?_) (fun hx => absurd hx ((by omega)))
    refine ev_iconstN 69 1 dX1_decodeNext_68 rfl ?_
    refine ev_goto 73 dX1_decodeNext_69 (by decide) ?_
    refine ev_istore_n 74 (lv' := [_, _, some .null, _, _]) dX1_decodeNext_73 (Nat.le_of_ble_eq_true rfl) rfl rfl ?_
    refine ev_aload_n 75 dX1_decodeNext_74 rfl rfl ?_
    refine ev_getI 78 mm_cl1 (j := 12) (Nat.le_of_ble_eq_true rfl) dX1_decodeNext_75 lk491 (fun _ _ _ => rfl) (hC.1 17 _ rfl) rfl ?_
    refine ev_eqI (y := nI (w)) (r12) ?_
    refine ev_if_neN 81 98 dX1_decodeNext_78 (by decide) (by omega) rfl (fun hbr => ?_) (fun hx => absurd hx ((by omega)))
    refine ev_aload_n 99 dX1_decodeNext_98 rfl rfl ?_
    refine ev_getP 102 mm_cl1 (j := 0) (Nat.le_of_ble_eq_true rfl) dX1_decodeNext_99 lk472 (fun _ _ _ => rfl) (hC.1 17 _ rfl) (a := (x + 1)) (hC.2.2.2 5 _ _ _ rfl) rfl ?_
    refine ev_bipushN 104 30 dX1_decodeNext_102 (by decide +kernel) rfl ?_
    refine ev_aload_n 105 dX1_decodeNext_104 rfl rfl ?_
    refine ev_getI 108 mm_cl1 (j := 12) (Nat.le_of_ble_eq_true rfl) dX1_decodeNext_105 lk491 (fun _ _ _ => rfl) (hC.1 17 _ rfl) rfl ?_
    refine ev_eqI (y := nI (w)) (r12) ?_
    refine ev_iaddN 109 dX1_decodeNext_108 rfl ?_
    refine ev_invVv 112 (Mc := mX10_mark) ⟨lk665, lk76, hdX10_mark, (Nat.le_of_ble_eq_true rfl), (Nat.le_of_ble_eq_true rfl)⟩ lk1060 lk663 lk664 mm_cl10 rfl dX1_decodeNext_109 (mk) rfl (hV.1 1 _ rfl) (Nat.le_of_ble_eq_true rfl) rfl rfl ?_
    refine ev_aload_n 113 dX1_decodeNext_112 rfl rfl ?_
    refine ev_aload_n 114 dX1_decodeNext_113 rfl rfl ?_
    refine ev_aload_n 115 dX1_decodeNext_114 rfl rfl ?_
    refine ev_getI 118 mm_cl1 (j := 9) (Nat.le_of_ble_eq_true rfl) dX1_decodeNext_115 lk485 (fun _ _ _ => rfl) (hC.1 17 _ rfl) rfl ?_
    refine ev_eqI (y := nI (nx)) ((by rw [am]; exact r9)) ?_
    refine ev_iconstN 119 1 dX1_decodeNext_118 rfl ?_
    refine ev_iaddN 120 dX1_decodeNext_119 rfl ?_
    refine ev_ldc 122 dX1_decodeNext_120 lk1097 rfl ?_
    refine ev_eqI (y := nI 65536) (by decide +kernel) ?_
    refine ev_iremN 123 dX1_decodeNext_122 (by omega) (by omega) (by omega) rfl ?_
    refine ev_invV 126 (Mc := mX5_first) ⟨lk1101, lk82, hdX5_first, (Nat.le_of_ble_eq_true rfl), (Nat.le_of_ble_eq_true rfl)⟩ lk1098 lk1099 lk1100 mm_cl5 rfl dX1_decodeNext_123 (hfi) rfl (hC.1 2 _ rfl) (Nat.le_of_ble_eq_true rfl) rfl rfl ?_
    refine ev_invVv 129 (Mc := mX1_repairFrom) ⟨lk1105, lk85, hdX1_repairFrom, (Nat.le_of_ble_eq_true rfl), (Nat.le_of_ble_eq_true rfl)⟩ lk1102 lk1104 lk27 mm_cl1 rfl dX1_decodeNext_126 (hd) rfl (hC.1 17 _ rfl) (Nat.le_of_ble_eq_true rfl) rfl rfl ?_
    refine ev_aload_n 130 dX1_decodeNext_129 rfl rfl ?_
    refine ev_dup 131 dX1_decodeNext_130 rfl rfl ?_
    refine ev_getI 134 mm_cl1 (j := 14) (Nat.le_of_ble_eq_true rfl) dX1_decodeNext_131 lk495 (fun _ _ _ => rfl) (hC.1 17 _ rfl) rfl ?_
    refine ev_eqI (y := (rr)) (r14) ?_
    refine ev_iconstN 135 1 dX1_decodeNext_134 rfl ?_
    refine ev_iadd 136 dX1_decodeNext_135 rfl ?_
    refine ev_putI 139 mm_cl1 (j := 14) (Nat.le_of_ble_eq_true rfl) dX1_decodeNext_136 lk495 rfl (fun _ _ _ => rfl) rfl rfl (hC.1 17 _ rfl) rfl ?_
    refine ev_le (mle_s (mle_n (mle_n (mle_s (mle_n (mle_0)))))) ?_
    exact K
  · refine ev_aload_n 55 dX1_decodeNext_54 rfl rfl ?_
    refine ev_getI 58 mm_cl1 (j := 12) (Nat.le_of_ble_eq_true rfl) dX1_decodeNext_55 lk491 (fun _ _ _ => rfl) (hC.1 17 _ rfl) rfl ?_
    refine ev_eqI (y := nI (w)) (r12) ?_
    refine ev_if_neN 61 68 dX1_decodeNext_58 (by decide) (by omega) rfl (fun hbr => ?_) (fun hx => absurd hx ((by omega)))
    refine ev_iconstN 69 1 dX1_decodeNext_68 rfl ?_
    refine ev_goto 73 dX1_decodeNext_69 (by decide) ?_
    refine ev_istore_n 74 (lv' := [_, _, some (.ref _), _, _]) dX1_decodeNext_73 (Nat.le_of_ble_eq_true rfl) rfl rfl ?_
    refine ev_aload_n 75 dX1_decodeNext_74 rfl rfl ?_
    refine ev_getI 78 mm_cl1 (j := 12) (Nat.le_of_ble_eq_true rfl) dX1_decodeNext_75 lk491 (fun _ _ _ => rfl) (hC.1 17 _ rfl) rfl ?_
    refine ev_eqI (y := nI (w)) (r12) ?_
    refine ev_if_neN 81 98 dX1_decodeNext_78 (by decide) (by omega) rfl (fun hbr => ?_) (fun hx => absurd hx ((by omega)))
    refine ev_aload_n 99 dX1_decodeNext_98 rfl rfl ?_
    refine ev_getP 102 mm_cl1 (j := 0) (Nat.le_of_ble_eq_true rfl) dX1_decodeNext_99 lk472 (fun _ _ _ => rfl) (hC.1 17 _ rfl) (a := (x + 1)) (hC.2.2.2 5 _ _ _ rfl) rfl ?_
    refine ev_bipushN 104 30 dX1_decodeNext_102 (by decide +kernel) rfl ?_
    refine ev_aload_n 105 dX1_decodeNext_104 rfl rfl ?_
    refine ev_getI 108 mm_cl1 (j := 12) (Nat.le_of_ble_eq_true rfl) dX1_decodeNext_105 lk491 (fun _ _ _ => rfl) (hC.1 17 _ rfl) rfl ?_
    refine ev_eqI (y := nI (w)) (r12) ?_
    refine ev_iaddN 109 dX1_decodeNext_108 rfl ?_
    refine ev_invVv 112 (Mc := mX10_mark) ⟨lk665, lk76, hdX10_mark, (Nat.le_of_ble_eq_true rfl), (Nat.le_of_ble_eq_true rfl)⟩ lk1060 lk663 lk664 mm_cl10 rfl dX1_decodeNext_109 (mk) rfl (hV.1 1 _ rfl) (Nat.le_of_ble_eq_true rfl) rfl rfl ?_
    refine ev_aload_n 113 dX1_decodeNext_112 rfl rfl ?_
    refine ev_aload_n 114 dX1_decodeNext_113 rfl rfl ?_
    refine ev_aload_n 115 dX1_decodeNext_114 rfl rfl ?_
    refine ev_getI 118 mm_cl1 (j := 9) (Nat.le_of_ble_eq_true rfl) dX1_decodeNext_115 lk485 (fun _ _ _ => rfl) (hC.1 17 _ rfl) rfl ?_
    refine ev_eqI (y := nI (nx)) ((by rw [am]; exact r9)) ?_
    refine ev_iconstN 119 1 dX1_decodeNext_118 rfl ?_
    refine ev_iaddN 120 dX1_decodeNext_119 rfl ?_
    refine ev_ldc 122 dX1_decodeNext_120 lk1097 rfl ?_
    refine ev_eqI (y := nI 65536) (by decide +kernel) ?_
    refine ev_iremN 123 dX1_decodeNext_122 (by omega) (by omega) (by omega) rfl ?_
    refine ev_invV 126 (Mc := mX5_first) ⟨lk1101, lk82, hdX5_first, (Nat.le_of_ble_eq_true rfl), (Nat.le_of_ble_eq_true rfl)⟩ lk1098 lk1099 lk1100 mm_cl5 rfl dX1_decodeNext_123 (hfi) rfl (hC.1 2 _ rfl) (Nat.le_of_ble_eq_true rfl) rfl rfl ?_
    refine ev_invVv 129 (Mc := mX1_repairFrom) ⟨lk1105, lk85, hdX1_repairFrom, (Nat.le_of_ble_eq_true rfl), (Nat.le_of_ble_eq_true rfl)⟩ lk1102 lk1104 lk27 mm_cl1 rfl dX1_decodeNext_126 (hd) rfl (hC.1 17 _ rfl) (Nat.le_of_ble_eq_true rfl) rfl rfl ?_
    refine ev_aload_n 130 dX1_decodeNext_129 rfl rfl ?_
    refine ev_dup 131 dX1_decodeNext_130 rfl rfl ?_
    refine ev_getI 134 mm_cl1 (j := 14) (Nat.le_of_ble_eq_true rfl) dX1_decodeNext_131 lk495 (fun _ _ _ => rfl) (hC.1 17 _ rfl) rfl ?_
    refine ev_eqI (y := (rr)) (r14) ?_
    refine ev_iconstN 135 1 dX1_decodeNext_134 rfl ?_
    refine ev_iadd 136 dX1_decodeNext_135 rfl ?_
    refine ev_putI 139 mm_cl1 (j := 14) (Nat.le_of_ble_eq_true rfl) dX1_decodeNext_136 lk495 rfl (fun _ _ _ => rfl) rfl rfl (hC.1 17 _ rfl) rfl ?_
    refine ev_le (mle_s (mle_n (mle_n (mle_s (mle_n (mle_0)))))) ?_
    exact K
end VHR
