/-! the model's voice: the PARTS -/
def VMt (I : mm_TI) (J : mm_TJ) (m c i : Nat) (H R : Nat → Int32) (sb w1 w2 : Nat) : Prop :=
  I (m + 22) (28 * c + 7 * i) = nI (vk_L H R sb w1) ∧ I (m + 22) (28 * c + 7 * i + 1) = nI (vk_p H R sb w1) ∧ I (m + 22) (28 * c + 7 * i + 2) = nI (vk_e H R sb w1 w2).1 ∧ I (m + 22) (28 * c + 7 * i + 3) = nI (vk_e H R sb w1 w2).2 ∧ I (m + 22) (28 * c + 7 * i + 4) = nI (vk_o H R sb w1 w2).1 ∧ I (m + 22) (28 * c + 7 * i + 5) = nI (vk_o H R sb w1 w2).2 ∧ I (m + 22) (28 * c + 7 * i + 6) = nI (vk_j H R sb w1 w2) ∧
  J (m + 23) (4 * c + i) = (vk_P H R sb w1).1 ∧ J (m + 24) (4 * c + i) = Int64.ofInt (vk_z H R sb w1 w2)
def VMf (m q : Nat) : Prop := q ≠ m ∧ q ≠ m + 2 ∧ q ≠ m + 15 ∧ q ≠ m + 16 ∧ q ≠ m + 22 ∧ q ≠ m + 27 ∧ (q < m + 54 ∨ m + 58 < q)
def VMs (m c sb w1 w2 t k : Nat) (ix R H0 V0 Y0 : Nat → Int32) (I0 : mm_TI) (J0 : mm_TJ) (I : mm_TI) (J : mm_TJ) : Prop :=
  (sg (I (m + 15)) (160 * (2 * c)) 160 = sp_vH R sb w1 w2 H0 k ∧ ∀ j, j < 320 * c ∨ 320 * c + 160 ≤ j → I (m + 15) j = I0 (m + 15) j) ∧
  ((∀ i, i < k → ∀ n, n < 160 → I (m + 27) (160 * (4 * c + i) + n) = sp_vH R sb w1 w2 H0 i n) ∧ ∀ j, j < 640 * c ∨ 640 * c + 640 ≤ j → I (m + 27) j = I0 (m + 27) j) ∧
  (sg (I (m + 16)) (8 * (2 * c)) 8 = (sp_vV ix R sb w1 w2 H0 (V0, Y0, 0) k).1 ∧ ∀ j, j < 16 * c ∨ 16 * c + 8 ≤ j → I (m + 16) j = I0 (m + 16) j) ∧
  I (m + 54) = (sp_vV ix R sb w1 w2 H0 (V0, Y0, 0) k).2.1 ∧ J m 2 = J0 m 2 + (sp_vV ix R sb w1 w2 H0 (V0, Y0, 0) k).2.2 ∧
  ((∀ i, i < k → VMt I J m c i (sp_vH R sb w1 w2 H0 i) (sg R (sb * i) sb) sb w1 w2) ∧ (∀ j, j < 28 * c ∨ 28 * c + 28 ≤ j → I (m + 22) j = I0 (m + 22) j) ∧ (∀ j, j < 4 * c ∨ 4 * c + 4 ≤ j → J (m + 23) j = J0 (m + 23) j) ∧ (∀ j, j < 4 * c ∨ 4 * c + 4 ≤ j → J (m + 24) j = J0 (m + 24) j)) ∧
  I (m + 2) = sp_tr (I0 (m + 2)) t w1 w2 k ∧ I m 5 = nI (t + 3 * k) ∧ (∀ j, j ≠ 5 → j < 71 ∨ 77 < j → I m j = I0 m j) ∧
  (∀ q, VMf m q → I q = I0 q) ∧ (∀ q, q ≠ m → q ≠ m + 23 → q ≠ m + 24 → q ≠ m + 59 → q ≠ m + 60 → J q = J0 q)
section MVP
variable {g : mm_G} {B : mm_B} {I I0 : mm_TI} {J J0 : mm_TJ} {P : mm_TP} {m : Nat}
theorem lp_X12_vo1 {c n sb k : Nat} {H : Nat → Int32} {Z : mm_Z} (hM : lyM B P m) (hc8 : c < 8) (hk : k < 4) (hH : ∀ n, n < 160 → I (m + 15) (320 * c + n) = H n)
    (K : Ev g mX12_voice 126 [some (.ref m), some (.int (nI c)), some (.int (nI n)), some (.int (nI sb)), some (.int (nI k)), none] [] B (va_up I (m + 27) (sgp (I (m + 27)) (160 * (4 * c + k)) 160 H)) J P Z) : ∀ (d i : Nat), i + d = 160 →
    Ev g mX12_voice 81 [some (.ref m), some (.int (nI c)), some (.int (nI n)), some (.int (nI sb)), some (.int (nI k)), some (.int (nI i))] [] B (va_up I (m + 27) (sgp (I (m + 27)) (160 * (4 * c + k)) i H)) J P Z := by
  intro d
  induction d with
  | zero =>
    intro i hi
    obtain rfl : i = 160 := by omega
    refine ev_iload 83 dX12_voice_81 rfl rfl ?_
    refine ev_sipushN 86 160 dX12_voice_83 (by decide +kernel) rfl ?_
    refine ev_icmp_geN 89 126 dX12_voice_86 (by decide) (by omega) (by omega) rfl (fun hbr => ?_) (fun hx => absurd ((by omega)) hx)
    refine ev_le (mle_s (mle_s (mle_s (mle_s (mle_s (mle_n (mle_0))))))) ?_
    exact K
  | succ d ih =>
    intro i hi
    have e := ih (i + 1) (by omega)
    rw [← sgp_grow (x := H i) rfl] at e
    refine ev_iload 83 dX12_voice_81 rfl rfl ?_
    refine ev_sipushN 86 160 dX12_voice_83 (by decide +kernel) rfl ?_
    refine ev_icmp_geN 89 126 dX12_voice_86 (by decide) (by omega) (by omega) rfl (fun hx => absurd hx ((by omega))) (fun hbr => ?_)
    refine ev_aload_n 90 dX12_voice_89 rfl rfl ?_
    refine ev_getP 93 mm_cl12 (j := 32) (Nat.le_of_ble_eq_true rfl) dX12_voice_90 lk1317 (fun _ _ _ => rfl) (hM.1 0 _ rfl) (a := (m + 27)) (hM.2.2 26 _ _ _ rfl) rfl ?_
    refine ev_sipushN 96 160 dX12_voice_93 (by decide +kernel) rfl ?_
    refine ev_iconstN 97 4 dX12_voice_96 rfl ?_
    refine ev_iload_n 98 dX12_voice_97 rfl rfl ?_
    refine ev_imulN 99 dX12_voice_98 rfl ?_
    refine ev_iload 101 dX12_voice_99 rfl rfl ?_
    refine ev_iaddN 102 dX12_voice_101 rfl ?_
    refine ev_imulN 103 dX12_voice_102 rfl ?_
    refine ev_iload 105 dX12_voice_103 rfl rfl ?_
    refine ev_iaddN 106 dX12_voice_105 rfl ?_
    refine ev_aload_n 107 dX12_voice_106 rfl rfl ?_
    refine ev_getP 110 mm_cl12 (j := 20) (Nat.le_of_ble_eq_true rfl) dX12_voice_107 lk1305 (fun _ _ _ => rfl) (hM.1 0 _ rfl) (a := (m + 15)) (hM.2.2 14 _ _ _ rfl) rfl ?_
    refine ev_sipushN 113 320 dX12_voice_110 (by decide +kernel) rfl ?_
    refine ev_iload_n 114 dX12_voice_113 rfl rfl ?_
    refine ev_imulN 115 dX12_voice_114 rfl ?_
    refine ev_iload 117 dX12_voice_115 rfl rfl ?_
    refine ev_iaddN 118 dX12_voice_117 rfl ?_
    refine ev_iald 119 _ dX12_voice_118 (hM.1 15 _ rfl) rfl (by have hNN := hM.2.1 15 _ rfl; omega) rfl ?_
    refine ev_eqI (y := (H i)) ((by rw [va_up_n _ _ (by omega)]; exact hH i (by omega))) ?_
    refine ev_iast 120 _ dX12_voice_119 (hM.1 27 _ rfl) rfl (by have hNN := hM.2.1 27 _ rfl; omega) rfl ?_
    refine ev_iincN 123 (lv' := [_, _, _, _, some (.int _), _]) 1 dX12_voice_120 rfl (Nat.le_of_ble_eq_true rfl) rfl rfl ?_
    refine ev_goto 81 dX12_voice_123 (by decide) ?_
    rw [va_up_s, bx_uu]
    exact e
theorem lx_X12_vo2 {c n sb w1 w2 t k : Nat} {ix R H0 V0 Y0 : Nat → Int32} (hM : lyM B P m) (hc8 : c < 8) (hb : sb = 40 ∨ sb = 80) (hw1 : w1 ≤ 1) (hw2 : w2 ≤ 1)
    (k1 : I0 (m + 7) (2 * c) = nI w1) (k2 : I0 (m + 7) (2 * c + 1) = nI w2) (hix : sg (I0 (m + 17)) (8 * (2 * c)) 8 = ix) (hR : ∀ n, n < 4 * sb → I0 (m + 26) (320 * c + n) = R n) (hRr : ∀ n, n < 4 * sb → r16 (R n)) (hHr : ∀ n, n < 160 → r16 (H0 n)) (hHz : ∀ n, 160 ≤ n → H0 n = 0) (hVz : ∀ n, 8 ≤ n → V0 n = 0)
    (ht : t + 12 ≤ 64) (hk : k < 4) (hS : VMs m c sb w1 w2 t k ix R H0 V0 Y0 I0 J0 I J) :
    ∃ (I' : mm_TI) (J' : mm_TJ), VMs m c sb w1 w2 t (k + 1) ix R H0 V0 Y0 I0 J0 I' J' ∧ ∀ Z : mm_Z, Ev g mX12_voice 72 [some (.ref m), some (.int (nI c)), some (.int (nI n)), some (.int (nI sb)), some (.int (nI (k + 1))), none] [] B I' J' P Z → Ev g mX12_voice 72 [some (.ref m), some (.int (nI c)), some (.int (nI n)), some (.int (nI sb)), some (.int (nI k)), none] [] B I J P Z := by
  have hsb : sb ≤ 80 := by omega
  have hsk : sb * k + sb ≤ 4 * sb := by
    have := Nat.mul_le_mul_left sb (show k + 1 ≤ 4 by omega)
    rw [Nat.mul_add] at this; omega
  obtain ⟨⟨s1, s1'⟩, ⟨s2, s2'⟩, ⟨s3, s3'⟩, s4, s5, ⟨s6, s6a, s6b, s6c⟩, s7, s8, s8', s9, s10⟩ := hS
  have hRk : ∀ n, r16 (sg R (sb * k) sb n) := fun n => by
    unfold sg
    by_cases c : n < sb
    · rw [if_pos c]; exact hRr _ (by omega)
    · rw [if_neg c]; exact r16_0
  have hHk := sp_vH_r (R := R) (w1 := w1) (w2 := w2) (show sb ≤ 160 by omega) hHr k
  have hHkz := sp_vH_z (R := R) (sb := sb) (w1 := w1) (w2 := w2) hHz (k + 1)
  have hVkz := sp_vV_z (ix := ix) (R := R) (H0 := H0) (V := V0) (Y := Y0) (sb := sb) (w1 := w1) (w2 := w2) (t := 0) hVz (k + 1)
  have dvH : sp_vH R sb w1 w2 H0 (k + 1) = sp_sh (sp_vH R sb w1 w2 H0 k) (vk_E (sp_vH R sb w1 w2 H0 k) (sg R (sb * k) sb) sb w1 w2) sb := rfl
  have dvV : sp_vV ix R sb w1 w2 H0 (V0, Y0, 0) (k + 1) = ((sp_sq ix (vk_E (sp_vH R sb w1 w2 H0 k) (sg R (sb * k) sb) sb w1 w2) (sb * k) ((sp_vV ix R sb w1 w2 H0 (V0, Y0, 0) k).1, (sp_vV ix R sb w1 w2 H0 (V0, Y0, 0) k).2.1, 0) sb).1,
      (sp_sq ix (vk_E (sp_vH R sb w1 w2 H0 k) (sg R (sb * k) sb) sb w1 w2) (sb * k) ((sp_vV ix R sb w1 w2 H0 (V0, Y0, 0) k).1, (sp_vV ix R sb w1 w2 H0 (V0, Y0, 0) k).2.1, 0) sb).2.1,
      (sp_vV ix R sb w1 w2 H0 (V0, Y0, 0) k).2.2 + (vk_T (sp_vH R sb w1 w2 H0 k) (sg R (sb * k) sb) sb w1 w2 + (sp_sq ix (vk_E (sp_vH R sb w1 w2 H0 k) (sg R (sb * k) sb) sb w1 w2) (sb * k) ((sp_vV ix R sb w1 w2 H0 (V0, Y0, 0) k).1, (sp_vV ix R sb w1 w2 H0 (V0, Y0, 0) k).2.1, 0) sb).2.2)) := rfl
  have dtr : sp_tr (I0 (m + 2)) t w1 w2 (k + 1) = va_up (va_up (va_up (sp_tr (I0 (m + 2)) t w1 w2 k) (t + 3 * k) (nI (10 + w1))) (t + 3 * k + 1) (nI (12 + w2))) (t + 3 * k + 2) (nI 14) := rfl
  rw [dvH] at hHkz
  rw [dvV] at hVkz
  generalize hHg : sp_vH R sb w1 w2 H0 k = H at *
  generalize hVg : sp_vV ix R sb w1 w2 H0 (V0, Y0, 0) k = VV at *
  generalize hRg : sg R (sb * k) sb = Rk at *
  obtain ⟨l1, l2, l3, l4, l5⟩ := vk_P_e H Rk sb w1
  obtain ⟨q1, q2, q3, q4, q5, q6⟩ := vk_Q_e (w1 := w1) (w2 := w2) (show 2 ≤ sb by omega) hHk hRk
  have hHi : ∀ n, n < 160 → I (m + 15) (320 * c + n) = H n := fun n hn => by
    rw [← s1, sg_in hn]; congr 1; omega
  -- its history
  generalize hI1 : va_up I (m + 27) (sgp (I (m + 27)) (160 * (4 * c + k)) 160 H) = I1
  have a1 : ∀ q, q ≠ m + 27 → I1 q = I q := fun q h => by rw [← hI1, va_up_n _ _ h]
  have b27 : ∀ n, n < 160 → I1 (m + 27) (160 * (4 * c + k) + n) = H n := fun n hn => by rw [← hI1, va_up_s, sgp_in hn]
  -- mark
  generalize hI2 : va_up (va_up I1 (m + 2) (va_up (I1 (m + 2)) (t + 3 * k) (nI (10 + w1)))) m (va_up (I1 m) 5 (nI (t + 3 * k + 1))) = I2
  have a2 : ∀ q, q ≠ m → q ≠ m + 2 → I2 q = I1 q := fun q h h' => by rw [← hI2, va_up_n _ _ h, va_up_n _ _ h']
  have bR : ∀ (q : Nat), q < sb → I (m + 26) (320 * c + sb * k + q) = Rk q := fun q hq => by
    rw [s9 _ (by unfold VMf; omega), show 320 * c + sb * k + q = 320 * c + (sb * k + q) by omega, hR _ (by omega), ← hRg, sg_in hq]
  -- pitch
  have c3 := ct_X12_pitch (g := g) (B := B) (I := I2) (J := J) (P := P) (m := m) (c := c) (pt := k) (sb := sb) (w := w1) (H := H) (R := Rk) hM hc8 hk hsb (by omega) (fun n hn => by rw [a2 _ (by omega) (by omega)]; exact b27 n hn) (fun n hn => by rw [a2 _ (by omega) (by omega), a1 _ (by omega)]; exact bR n hn) hw1
  rw [show sp_pit H Rk sb (w1 = 1) = vk_P H Rk sb w1 from rfl, l4, l5] at c3
  generalize hI3 : va_up I2 m (va_up (va_up (I2 m) 71 (nI (vk_L H Rk sb w1))) 72 (nI (vk_p H Rk sb w1))) = I3 at c3
  have a3 : ∀ q, q ≠ m → I3 q = I2 q := fun q h => by rw [← hI3, va_up_n _ _ h]
  have p3 : I3 m = va_up (va_up (va_up (I m) 5 (nI (t + 3 * k + 1))) 71 (nI (vk_L H Rk sb w1))) 72 (nI (vk_p H Rk sb w1)) := by rw [← hI3, va_up_s, ← hI2, va_up_s, a1 _ (by omega)]
  generalize hJ3 : va_up J m (va_up (J m) 70 (vk_P H Rk sb w1).1) = J3 at c3
  have j3 : ∀ q, q ≠ m → J3 q = J q := fun q h => by rw [← hJ3, va_up_n _ _ h]
  -- its picks
  generalize hI3b : va_up I3 (m + 22) (va_up (va_up (I3 (m + 22)) (28 * c + 7 * k) (nI (vk_L H Rk sb w1))) (28 * c + 7 * k + 1) (nI (vk_p H Rk sb w1))) = I3b
  have a3b : ∀ q, q ≠ m + 22 → I3b q = I3 q := fun q h => by rw [← hI3b, va_up_n _ _ h]
  generalize hJ3b : va_up J3 (m + 23) (va_up (J3 (m + 23)) (4 * c + k) (vk_P H Rk sb w1).1) = J3b
  have j3b : ∀ q, q ≠ m + 23 → J3b q = J3 q := fun q h => by rw [← hJ3b, va_up_n _ _ h]
  -- mark
  generalize hI4 : va_up (va_up I3b (m + 2) (va_up (I3b (m + 2)) (t + 3 * k + 1) (nI (12 + w2)))) m (va_up (I3b m) 5 (nI (t + 3 * k + 1 + 1))) = I4
  have a4 : ∀ q, q ≠ m → q ≠ m + 2 → I4 q = I3b q := fun q h h' => by rw [← hI4, va_up_n _ _ h, va_up_n _ _ h']
  have A4 : ∀ q, q ≠ m → q ≠ m + 2 → q ≠ m + 22 → q ≠ m + 27 → I4 q = I q := fun q h1 h2 h3 h4 => by
    rw [a4 q h1 h2, a3b q h3, a3 q h1, a2 q h1 h2, a1 q h4]
  -- pulses
  obtain ⟨I5, J5, c5, p5, pj5, a5, j5⟩ := cx_X12_pulses (g := g) (B := B) (I := I4) (J := J3b) (P := P) (m := m) (c := c) (pt := k) (sb := sb) (L := vk_L H Rk sb w1) (w := w2) (p := nI (vk_p H Rk sb w1)) (H := H) (R := Rk) hM hc8 hk hsb (by omega) (by omega) l1 l2 (by omega)
    (fun n hn => by rw [a4 _ (by omega) (by omega), a3b _ (by omega), a3 _ (by omega), a2 _ (by omega) (by omega)]; exact b27 n hn)
    (fun n hn => by rw [A4 _ (by omega) (by omega) (by omega) (by omega)]; exact bR n hn) hw2 (vk_zb hHk hRk) q1
  generalize hI5b : va_up I5 (m + 22) (va_up (va_up (va_up (va_up (va_up (I5 (m + 22)) (28 * c + 7 * k + 2) (nI (vk_e H Rk sb w1 w2).1)) (28 * c + 7 * k + 3) (nI (vk_e H Rk sb w1 w2).2)) (28 * c + 7 * k + 4) (nI (vk_o H Rk sb w1 w2).1)) (28 * c + 7 * k + 5) (nI (vk_o H Rk sb w1 w2).2)) (28 * c + 7 * k + 6) (nI (vk_j H Rk sb w1 w2))) = I5b
  have a5b : ∀ q, q ≠ m + 22 → I5b q = I5 q := fun q h => by rw [← hI5b, va_up_n _ _ h]
  generalize hJ5b : va_up J5 (m + 24) (va_up (J5 (m + 24)) (4 * c + k) (Int64.ofInt (vk_z H Rk sb w1 w2))) = J5b
  have j5b : ∀ q, q ≠ m + 24 → J5b q = J5 q := fun q h => by rw [← hJ5b, va_up_n _ _ h]
  -- mark
  generalize hI6 : va_up (va_up I5b (m + 2) (va_up (I5b (m + 2)) (t + 3 * k + 1 + 1) (nI 14))) m (va_up (I5b m) 5 (nI (t + 3 * k + 1 + 1 + 1))) = I6
  have a6 : ∀ q, q ≠ m → q ≠ m + 2 → I6 q = I5b q := fun q h h' => by rw [← hI6, va_up_n _ _ h, va_up_n _ _ h']
  have A6 : ∀ q, q ≠ m → q ≠ m + 2 → q ≠ m + 22 → q ≠ m + 27 → q ≠ m + 56 → I6 q = I q := fun q h1 h2 h3 h4 h5 => by
    rw [a6 q h1 h2, a5b q h3, a5 q h1 h5, A4 q h1 h2 h3 h4]
  have P22 : I6 (m + 22) = va_up (va_up (va_up (va_up (va_up (va_up (va_up (I (m + 22)) (28 * c + 7 * k) (nI (vk_L H Rk sb w1))) (28 * c + 7 * k + 1) (nI (vk_p H Rk sb w1))) (28 * c + 7 * k + 2) (nI (vk_e H Rk sb w1 w2).1)) (28 * c + 7 * k + 3) (nI (vk_e H Rk sb w1 w2).2)) (28 * c + 7 * k + 4) (nI (vk_o H Rk sb w1 w2).1)) (28 * c + 7 * k + 5) (nI (vk_o H Rk sb w1 w2).2)) (28 * c + 7 * k + 6) (nI (vk_j H Rk sb w1 w2)) := by
    rw [a6 _ (by omega) (by omega), ← hI5b, va_up_s, a5 _ (by omega) (by omega), a4 _ (by omega) (by omega), ← hI3b, va_up_s, a3 _ (by omega), a2 _ (by omega) (by omega), a1 _ (by omega)]
  have e15 : sg (I6 (m + 15)) (160 * (2 * c)) 160 = H := by rw [A6 _ (by omega) (by omega) (by omega) (by omega) (by omega)]; exact s1
  have e16 : sg (I6 (m + 16)) (8 * (2 * c)) 8 = VV.1 := by rw [A6 _ (by omega) (by omega) (by omega) (by omega) (by omega)]; exact s3
  have e17 : sg (I6 (m + 17)) (8 * (2 * c)) 8 = ix := by rw [A6 _ (by omega) (by omega) (by omega) (by omega) (by omega), s9 _ (by unfold VMf; omega)]; exact hix
  have e54 : I6 (m + 54) = VV.2.1 := by rw [A6 _ (by omega) (by omega) (by omega) (by omega) (by omega)]; exact s4
  -- excited
  obtain ⟨I7, c7, y1, y2, y3, a7⟩ := cx_X12_excited (g := g) (B := B) (I := I6) (J := J5b) (P := P) (m := m) (s := 2 * c) (fr := sb * k) (sb := sb) (L := vk_L H Rk sb w1) (ev := (vk_e H Rk sb w1 w2).1) (es := (vk_e H Rk sb w1 w2).2) (od := (vk_o H Rk sb w1 w2).1) (os := (vk_o H Rk sb w1 w2).2) (j := vk_j H Rk sb w1 w2) (p := nI (vk_p H Rk sb w1)) hM (by omega) hsb (by omega) l1 l2 q2 q5 q3 (by omega) (by omega)
  simp only [e15, e16, e17, e54] at c7 y1 y2 y3
  rw [show sp_eE (nI (vk_p H Rk sb w1)) (nI (sp_gn (vk_j H Rk sb w1 w2))) (sp_beh H (vk_L H Rk sb w1)) (sp_pv sb (vk_e H Rk sb w1 w2).1 (vk_e H Rk sb w1 w2).2 (vk_o H Rk sb w1 w2).1 (vk_o H Rk sb w1 w2).2) = vk_E H Rk sb w1 w2 from rfl] at c7 y1 y2 y3
  rw [show sp_eT (nI (vk_p H Rk sb w1)) (nI (sp_gn (vk_j H Rk sb w1 w2))) (sp_beh H (vk_L H Rk sb w1)) (sp_pv sb (vk_e H Rk sb w1 w2).1 (vk_e H Rk sb w1 w2).2 (vk_o H Rk sb w1 w2).1 (vk_o H Rk sb w1 w2).2) sb = vk_T H Rk sb w1 w2 from rfl] at c7
  have A7 : ∀ q, VMf m q → I7 q = I0 q := fun q h => by
    have h' := h
    unfold VMf at h'
    rw [a7 q (by omega) (by omega) (by omega) (by omega) (by omega) (by omega), A6 q (by omega) (by omega) (by omega) (by omega) (by omega)]
    exact s9 q h
  have J5o : ∀ q, q ≠ m → q ≠ m + 23 → q ≠ m + 24 → q ≠ m + 59 → q ≠ m + 60 → J5b q = J q := fun q h1 h2 h3 h4 h5 => by rw [j5b q h3, j5 q h1 h4 h5, j3b q h2, j3 q h1]
  have Jm : ∀ j, j ≠ 70 → J5b m j = J m j := fun j hj => by rw [j5b _ (by omega), pj5, va_up_n _ _ hj, j3b _ (by omega), ← hJ3, va_up_s, va_up_n _ _ hj]
  have J23 : J5b (m + 23) = va_up (J (m + 23)) (4 * c + k) (vk_P H Rk sb w1).1 := by rw [j5b _ (by omega), j5 _ (by omega) (by omega) (by omega), ← hJ3b, va_up_s, j3 _ (by omega)]
  have J24 : J5b (m + 24) = va_up (J (m + 24)) (4 * c + k) (Int64.ofInt (vk_z H Rk sb w1 w2)) := by rw [← hJ5b, va_up_s, j5 _ (by omega) (by omega) (by omega), j3b _ (by omega), j3 _ (by omega)]
  have T1 : I1 m 5 = nI (t + 3 * k) := by rw [a1 _ (by omega)]; exact s8
  have T2 : I1 (m + 2) = sp_tr (I0 (m + 2)) t w1 w2 k := by rw [a1 _ (by omega)]; exact s7
  have T2' : I3b (m + 2) = va_up (sp_tr (I0 (m + 2)) t w1 w2 k) (t + 3 * k) (nI (10 + w1)) := by rw [a3b _ (by omega), a3 _ (by omega), ← hI2, va_up_n _ _ (by omega), va_up_s, T2]
  have M3 : I3b m = va_up (va_up (va_up (I m) 5 (nI (t + 3 * k + 1))) 71 (nI (vk_L H Rk sb w1))) 72 (nI (vk_p H Rk sb w1)) := by rw [a3b _ (by omega), p3]
  have M4 : I4 m = va_up (I3b m) 5 (nI (t + 3 * k + 1 + 1)) := by rw [← hI4, va_up_s]
  have T2'' : I5b (m + 2) = va_up (va_up (sp_tr (I0 (m + 2)) t w1 w2 k) (t + 3 * k) (nI (10 + w1))) (t + 3 * k + 1) (nI (12 + w2)) := by rw [a5b _ (by omega), a5 _ (by omega) (by omega), ← hI4, va_up_n _ _ (by omega), va_up_s, T2']
  have M5 : I5b m = va_up (va_up (va_up (va_up (va_up (va_up (I3b m) 5 (nI (t + 3 * k + 1 + 1))) 73 (nI (vk_e H Rk sb w1 w2).1)) 74 (nI (vk_e H Rk sb w1 w2).2)) 75 (nI (vk_o H Rk sb w1 w2).1)) 76 (nI (vk_o H Rk sb w1 w2).2)) 77 (nI (vk_j H Rk sb w1 w2)) := by rw [a5b _ (by omega), p5, M4]
  have M6 : I6 m = va_up (I5b m) 5 (nI (t + 3 * k + 1 + 1 + 1)) := by rw [← hI6, va_up_s]
  have hk28 : ∀ i, i < 4 → i ≠ k → 7 * i + 7 ≤ 7 * k ∨ 7 * k + 7 ≤ 7 * i := fun i hi h => by omega
  refine ⟨I7, sp_up J5b m 2 (vk_T H Rk sb w1 w2 + (sp_sq ix (vk_E H Rk sb w1 w2) (sb * k) (VV.1, VV.2.1, 0) sb).2.2), ⟨⟨?_, ?_⟩, ⟨?_, ?_⟩, ⟨?_, ?_⟩, ?_, ?_, ⟨?_, ?_, ?_, ?_⟩, ?_, ?_, ?_, ?_, ?_⟩, fun Z e => ?_⟩
  · rw [y1, dvH, sg_sgp hHkz]
  · intro j hj
    rw [y1, sgp_out (by omega), A6 _ (by omega) (by omega) (by omega) (by omega) (by omega)]
    exact s1' j hj
  · intro i hi n hn
    rw [a7 _ (by omega) (by omega) (by omega) (by omega) (by omega) (by omega), a6 _ (by omega) (by omega), a5b _ (by omega), a5 _ (by omega) (by omega), a4 _ (by omega) (by omega), a3b _ (by omega), a3 _ (by omega), a2 _ (by omega) (by omega)]
    by_cases ck : i = k
    · subst ck; rw [b27 n hn, hHg]
    · rw [← hI1, va_up_s, sgp_out (by omega)]; exact s2 i (by omega) n hn
  · intro j hj
    rw [a7 _ (by omega) (by omega) (by omega) (by omega) (by omega) (by omega), a6 _ (by omega) (by omega), a5b _ (by omega), a5 _ (by omega) (by omega), a4 _ (by omega) (by omega), a3b _ (by omega), a3 _ (by omega), a2 _ (by omega) (by omega), ← hI1, va_up_s, sgp_out (by omega)]
    exact s2' j hj
  · rw [y2, dvV, sg_sgp hVkz]
  · intro j hj
    rw [y2, sgp_out (by omega), A6 _ (by omega) (by omega) (by omega) (by omega) (by omega)]
    exact s3' j hj
  · rw [y3, dvV]
  · show va_up J5b m (va_up (J5b m) 2 (J5b m 2 + _)) m 2 = _
    rw [va_up_s, va_up_s, Jm 2 (by omega), s5, dvV, Int64.add_assoc]
  · intro i hi
    have h22 : I7 (m + 22) = I6 (m + 22) := a7 _ (by omega) (by omega) (by omega) (by omega) (by omega) (by omega)
    have h23 : sp_up J5b m 2 (vk_T H Rk sb w1 w2 + (sp_sq ix (vk_E H Rk sb w1 w2) (sb * k) (VV.1, VV.2.1, 0) sb).2.2) (m + 23) = J5b (m + 23) := va_up_n _ _ (by omega)
    have h24 : sp_up J5b m 2 (vk_T H Rk sb w1 w2 + (sp_sq ix (vk_E H Rk sb w1 w2) (sb * k) (VV.1, VV.2.1, 0) sb).2.2) (m + 24) = J5b (m + 24) := va_up_n _ _ (by omega)
    unfold VMt
    rw [h22, h23, h24, P22, J23, J24]
    by_cases ck : i = k
    · subst ck
      rw [hHg, hRg]
      refine ⟨?_, ?_, ?_, ?_, ?_, ?_, ?_, ?_, ?_⟩
      · rw [va_up_n _ _ (by omega), va_up_n _ _ (by omega), va_up_n _ _ (by omega), va_up_n _ _ (by omega), va_up_n _ _ (by omega), va_up_n _ _ (by omega), va_up_s]
      · rw [va_up_n _ _ (by omega), va_up_n _ _ (by omega), va_up_n _ _ (by omega), va_up_n _ _ (by omega), va_up_n _ _ (by omega), va_up_s]
      · rw [va_up_n _ _ (by omega), va_up_n _ _ (by omega), va_up_n _ _ (by omega), va_up_n _ _ (by omega), va_up_s]
      · rw [va_up_n _ _ (by omega), va_up_n _ _ (by omega), va_up_n _ _ (by omega), va_up_s]
      · rw [va_up_n _ _ (by omega), va_up_n _ _ (by omega), va_up_s]
      · rw [va_up_n _ _ (by omega), va_up_s]
      · rw [va_up_s]
      · rw [va_up_s]
      · rw [va_up_s]
    · have h7 := hk28 i (by omega) ck
      have o7 : ∀ j, j < 7 → va_up (va_up (va_up (va_up (va_up (va_up (va_up (I (m + 22)) (28 * c + 7 * k) (nI (vk_L H Rk sb w1))) (28 * c + 7 * k + 1) (nI (vk_p H Rk sb w1))) (28 * c + 7 * k + 2) (nI (vk_e H Rk sb w1 w2).1)) (28 * c + 7 * k + 3) (nI (vk_e H Rk sb w1 w2).2)) (28 * c + 7 * k + 4) (nI (vk_o H Rk sb w1 w2).1)) (28 * c + 7 * k + 5) (nI (vk_o H Rk sb w1 w2).2)) (28 * c + 7 * k + 6) (nI (vk_j H Rk sb w1 w2)) (28 * c + 7 * i + j) = I (m + 22) (28 * c + 7 * i + j) := fun j hj => by
        rw [va_up_n _ _ (by omega), va_up_n _ _ (by omega), va_up_n _ _ (by omega), va_up_n _ _ (by omega), va_up_n _ _ (by omega), va_up_n _ _ (by omega), va_up_n _ _ (by omega)]
      have o70 := o7 0 (by omega)
      simp only [Nat.add_zero] at o70
      rw [o70, o7 1 (by omega), o7 2 (by omega), o7 3 (by omega), o7 4 (by omega), o7 5 (by omega), o7 6 (by omega), va_up_n _ _ (show 4 * c + i ≠ 4 * c + k by omega), va_up_n _ _ (show 4 * c + i ≠ 4 * c + k by omega)]
      exact s6 i (by omega)
  · intro j hj
    rw [a7 _ (by omega) (by omega) (by omega) (by omega) (by omega) (by omega), P22, va_up_n _ _ (by omega), va_up_n _ _ (by omega), va_up_n _ _ (by omega), va_up_n _ _ (by omega), va_up_n _ _ (by omega), va_up_n _ _ (by omega), va_up_n _ _ (by omega)]
    exact s6a j hj
  · intro j hj
    show va_up J5b m _ (m + 23) j = _
    rw [va_up_n _ _ (by omega), J23, va_up_n _ _ (by omega)]
    exact s6b j hj
  · intro j hj
    show va_up J5b m _ (m + 24) j = _
    rw [va_up_n _ _ (by omega), J24, va_up_n _ _ (by omega)]
    exact s6c j hj
  · rw [a7 _ (by omega) (by omega) (by omega) (by omega) (by omega) (by omega), ← hI6, va_up_n _ _ (by omega), va_up_s, T2'', dtr]
  · rw [a7 _ (by omega) (by omega) (by omega) (by omega) (by omega) (by omega), M6, va_up_s, show t + 3 * k + 1 + 1 + 1 = t + 3 * (k + 1) by omega]
  · intro j h5 hj
    rw [a7 _ (by omega) (by omega) (by omega) (by omega) (by omega) (by omega), M6, va_up_n _ _ h5, M5, va_up_n _ _ (by omega), va_up_n _ _ (by omega), va_up_n _ _ (by omega), va_up_n _ _ (by omega), va_up_n _ _ (by omega), va_up_n _ _ h5, M3, va_up_n _ _ (by omega), va_up_n _ _ (by omega), va_up_n _ _ h5]
    exact s8' j h5 hj
  · exact A7
  · intro q h1 h2 h3 h4 h5
    show va_up J5b m _ q = _
    rw [va_up_n _ _ h1, J5o q h1 h2 h3 h4 h5]; exact s10 q h1 h2 h3 h4 h5
  · have m2 := ct_X12_tell (g := g) (I := I1) (J := J) (P := P) (a := nI (10 + w1)) (t := t + 3 * k) hM T1 (by omega)
    rw [hI2] at m2
    have m4 := ct_X12_tell (g := g) (I := I3b) (J := J3b) (P := P) (a := nI (12 + w2)) (t := t + 3 * k + 1) hM (by rw [M3, va_up_n _ _ (by omega), va_up_n _ _ (by omega), va_up_s]) (by omega)
    rw [hI4] at m4
    have m6 := ct_X12_tell (g := g) (I := I5b) (J := J5b) (P := P) (a := nI 14) (t := t + 3 * k + 1 + 1) hM (by rw [M5, va_up_n _ _ (by omega), va_up_n _ _ (by omega), va_up_n _ _ (by omega), va_up_n _ _ (by omega), va_up_n _ _ (by omega), va_up_s]) (by omega)
    rw [hI6] at m6
    have z7 : ∀ q, VMf m q → I q = I0 q := s9
    have r7 : I (m + 7) = I0 (m + 7) := s9 _ (by unfold VMf; omega)
    have z1 : I1 (m + 7) = I0 (m + 7) := by rw [a1 _ (by omega)]; exact r7
    have z2 : I2 (m + 7) = I0 (m + 7) := by rw [a2 _ (by omega) (by omega)]; exact z1
    have z3 : I3b (m + 7) = I0 (m + 7) := by rw [a3b _ (by omega), a3 _ (by omega)]; exact z2
    have z4 : I4 (m + 7) = I0 (m + 7) := by rw [a4 _ (by omega) (by omega)]; exact z3
    have v5 : ∀ (u : Nat → Int32) (j : Nat), (j = 73 ∨ j = 74 ∨ j = 75 ∨ j = 76 ∨ j = 77) → va_up I5 (m + 22) u m j = I5 m j := fun u j _ => by rw [va_up_n _ _ (by omega)]
    have w5 : ∀ j, j = 73 ∨ j = 74 ∨ j = 75 ∨ j = 76 ∨ j = 77 → I6 m j = I5 m j := fun j hj => by rw [M6, va_up_n _ _ (by omega), a5b _ (by omega)]
    have f73 : I5 m 73 = nI (vk_e H Rk sb w1 w2).1 := by rw [p5, va_up_n _ _ (by omega), va_up_n _ _ (by omega), va_up_n _ _ (by omega), va_up_n _ _ (by omega), va_up_s]
    have f74 : I5 m 74 = nI (vk_e H Rk sb w1 w2).2 := by rw [p5, va_up_n _ _ (by omega), va_up_n _ _ (by omega), va_up_n _ _ (by omega), va_up_s]
    have f75 : I5 m 75 = nI (vk_o H Rk sb w1 w2).1 := by rw [p5, va_up_n _ _ (by omega), va_up_n _ _ (by omega), va_up_s]
    have f76 : I5 m 76 = nI (vk_o H Rk sb w1 w2).2 := by rw [p5, va_up_n _ _ (by omega), va_up_s]
    have f77 : I5 m 77 = nI (vk_j H Rk sb w1 w2) := by rw [p5, va_up_s]
    have g70 : J5 m 70 = Int64.ofInt (vk_z H Rk sb w1 w2) := by rw [pj5, va_up_s]
    have tail2 : Ev g mX12_voice 274 [some (.ref m), some (.int (nI c)), some (.int (nI n)), some (.int (nI sb)), some (.int (nI k)), some (.int (nI (28 * c + 7 * k)))] [.int (nI w2), .int (nI (vk_p H Rk sb w1)), .int (nI (vk_L H Rk sb w1)), .int (nI sb), .int (nI k), .int (nI c), .ref m] B I4 J3b P Z := by
      refine ev_invVv 277 (Mc := mX12_pulses) ⟨lk1666, lk80, hdX12_pulses, (Nat.le_of_ble_eq_true rfl), (Nat.le_of_ble_eq_true rfl)⟩ lk1663 lk1665 lk54 mm_cl12 rfl dX12_voice_274 (c5) rfl (hM.1 0 _ rfl) (Nat.le_of_ble_eq_true rfl) rfl rfl ?_
      refine ev_aload_n 278 dX12_voice_277 rfl rfl ?_
      refine ev_getP 281 mm_cl12 (j := 27) (Nat.le_of_ble_eq_true rfl) dX12_voice_278 lk1312 (fun _ _ _ => rfl) (hM.1 0 _ rfl) (a := (m + 22)) (hM.2.2 21 _ _ _ rfl) rfl ?_
      refine ev_iload 283 dX12_voice_281 rfl rfl ?_
      refine ev_iconstN 284 2 dX12_voice_283 rfl ?_
      refine ev_iaddN 285 dX12_voice_284 rfl ?_
      refine ev_aload_n 286 dX12_voice_285 rfl rfl ?_
      refine ev_getI 289 mm_cl12 (j := 73) (Nat.le_of_ble_eq_true rfl) dX12_voice_286 lk1358 (fun _ _ _ => rfl) (hM.1 0 _ rfl) rfl ?_
      refine ev_eqI (y := nI ((vk_e H Rk sb w1 w2).1)) (f73) ?_
      refine ev_iast 290 _ dX12_voice_289 (hM.1 22 _ rfl) rfl (by have hNN := hM.2.1 22 _ rfl; omega) rfl ?_
      refine ev_aload_n 291 dX12_voice_290 rfl rfl ?_
      refine ev_getP 294 mm_cl12 (j := 27) (Nat.le_of_ble_eq_true rfl) dX12_voice_291 lk1312 (fun _ _ _ => rfl) (hM.1 0 _ rfl) (a := (m + 22)) (hM.2.2 21 _ _ _ rfl) rfl ?_
      refine ev_iload 296 dX12_voice_294 rfl rfl ?_
      refine ev_iconstN 297 3 dX12_voice_296 rfl ?_
      refine ev_iaddN 298 dX12_voice_297 rfl ?_
      refine ev_aload_n 299 dX12_voice_298 rfl rfl ?_
      refine ev_getI 302 mm_cl12 (j := 74) (Nat.le_of_ble_eq_true rfl) dX12_voice_299 lk1359 (fun _ _ _ => rfl) (hM.1 0 _ rfl) rfl ?_
      refine ev_eqI (y := nI ((vk_e H Rk sb w1 w2).2)) (((v5 _ 74 (by omega)).trans f74)) ?_
      refine ev_iast 303 _ dX12_voice_302 (hM.1 22 _ rfl) rfl (by have hNN := hM.2.1 22 _ rfl; omega) rfl ?_
      rw [va_up_s, bx_uu]
      refine ev_aload_n 304 dX12_voice_303 rfl rfl ?_
      refine ev_getP 307 mm_cl12 (j := 27) (Nat.le_of_ble_eq_true rfl) dX12_voice_304 lk1312 (fun _ _ _ => rfl) (hM.1 0 _ rfl) (a := (m + 22)) (hM.2.2 21 _ _ _ rfl) rfl ?_
      refine ev_iload 309 dX12_voice_307 rfl rfl ?_
      refine ev_iconstN 310 4 dX12_voice_309 rfl ?_
      refine ev_iaddN 311 dX12_voice_310 rfl ?_
      refine ev_aload_n 312 dX12_voice_311 rfl rfl ?_
      refine ev_getI 315 mm_cl12 (j := 75) (Nat.le_of_ble_eq_true rfl) dX12_voice_312 lk1360 (fun _ _ _ => rfl) (hM.1 0 _ rfl) rfl ?_
      refine ev_eqI (y := nI ((vk_o H Rk sb w1 w2).1)) (((v5 _ 75 (by omega)).trans f75)) ?_
      refine ev_iast 316 _ dX12_voice_315 (hM.1 22 _ rfl) rfl (by have hNN := hM.2.1 22 _ rfl; omega) rfl ?_
      rw [va_up_s, bx_uu]
      refine ev_aload_n 317 dX12_voice_316 rfl rfl ?_
      refine ev_getP 320 mm_cl12 (j := 27) (Nat.le_of_ble_eq_true rfl) dX12_voice_317 lk1312 (fun _ _ _ => rfl) (hM.1 0 _ rfl) (a := (m + 22)) (hM.2.2 21 _ _ _ rfl) rfl ?_
      refine ev_iload 322 dX12_voice_320 rfl rfl ?_
      refine ev_iconstN 323 5 dX12_voice_322 rfl ?_
      refine ev_iaddN 324 dX12_voice_323 rfl ?_
      refine ev_aload_n 325 dX12_voice_324 rfl rfl ?_
      refine ev_getI 328 mm_cl12 (j := 76) (Nat.le_of_ble_eq_true rfl) dX12_voice_325 lk1361 (fun _ _ _ => rfl) (hM.1 0 _ rfl) rfl ?_
      refine ev_eqI (y := nI ((vk_o H Rk sb w1 w2).2)) (((v5 _ 76 (by omega)).trans f76)) ?_
      refine ev_iast 329 _ dX12_voice_328 (hM.1 22 _ rfl) rfl (by have hNN := hM.2.1 22 _ rfl; omega) rfl ?_
      rw [va_up_s, bx_uu]
      refine ev_aload_n 330 dX12_voice_329 rfl rfl ?_
      refine ev_getP 333 mm_cl12 (j := 27) (Nat.le_of_ble_eq_true rfl) dX12_voice_330 lk1312 (fun _ _ _ => rfl) (hM.1 0 _ rfl) (a := (m + 22)) (hM.2.2 21 _ _ _ rfl) rfl ?_
      refine ev_iload 335 dX12_voice_333 rfl rfl ?_
      refine ev_bipushN 337 6 dX12_voice_335 (by decide +kernel) rfl ?_
      refine ev_iaddN 338 dX12_voice_337 rfl ?_
      refine ev_aload_n 339 dX12_voice_338 rfl rfl ?_
      refine ev_getI 342 mm_cl12 (j := 77) (Nat.le_of_ble_eq_true rfl) dX12_voice_339 lk1362 (fun _ _ _ => rfl) (hM.1 0 _ rfl) rfl ?_
      refine ev_eqI (y := nI ((vk_j H Rk sb w1 w2))) (((v5 _ 77 (by omega)).trans f77)) ?_
      refine ev_iast 343 _ dX12_voice_342 (hM.1 22 _ rfl) rfl (by have hNN := hM.2.1 22 _ rfl; omega) rfl ?_
      rw [va_up_s, bx_uu, hI5b]
      refine ev_aload_n 344 dX12_voice_343 rfl rfl ?_
      refine ev_getP 347 mm_cl12 (j := 29) (Nat.le_of_ble_eq_true rfl) dX12_voice_344 lk1314 (fun _ _ _ => rfl) (hM.1 0 _ rfl) (a := (m + 24)) (hM.2.2 23 _ _ _ rfl) rfl ?_
      refine ev_iconstN 348 4 dX12_voice_347 rfl ?_
      refine ev_iload_n 349 dX12_voice_348 rfl rfl ?_
      refine ev_imulN 350 dX12_voice_349 rfl ?_
      refine ev_iload 352 dX12_voice_350 rfl rfl ?_
      refine ev_iaddN 353 dX12_voice_352 rfl ?_
      refine ev_aload_n 354 dX12_voice_353 rfl rfl ?_
      refine ev_getJ 357 mm_cl12 (j := 70) (Nat.le_of_ble_eq_true rfl) dX12_voice_354 lk1355 (fun _ _ _ => rfl) (hM.1 0 _ rfl) rfl ?_
      refine ev_eqJ (y := (Int64.ofInt (vk_z H Rk sb w1 w2))) (g70) ?_
      refine ev_last 358 _ dX12_voice_357 (hM.1 24 _ rfl) rfl (by have hNN := hM.2.1 24 _ rfl; omega) rfl ?_
      rw [hJ5b]
      refine ev_aload_n 359 dX12_voice_358 rfl rfl ?_
      refine ev_bipushN 361 14 dX12_voice_359 (by decide +kernel) rfl ?_
      refine ev_invVv 364 (Mc := mX12_tell) ⟨lk1599, lk80, hdX12_tell, (Nat.le_of_ble_eq_true rfl), (Nat.le_of_ble_eq_true rfl)⟩ lk1596 lk1598 lk41 mm_cl12 rfl dX12_voice_361 (m6) rfl (hM.1 0 _ rfl) (Nat.le_of_ble_eq_true rfl) rfl rfl ?_
      refine ev_aload_n 365 dX12_voice_364 rfl rfl ?_
      refine ev_iconstN 366 2 dX12_voice_365 rfl ?_
      refine ev_iload_n 367 dX12_voice_366 rfl rfl ?_
      refine ev_imulN 368 dX12_voice_367 rfl ?_
      refine ev_iload_n 369 dX12_voice_368 rfl rfl ?_
      refine ev_iload 371 dX12_voice_369 rfl rfl ?_
      refine ev_imulN 372 dX12_voice_371 rfl ?_
      refine ev_iload_n 373 dX12_voice_372 rfl rfl ?_
      refine ev_aload_n 374 dX12_voice_373 rfl rfl ?_
      refine ev_getP 377 mm_cl12 (j := 27) (Nat.le_of_ble_eq_true rfl) dX12_voice_374 lk1312 (fun _ _ _ => rfl) (hM.1 0 _ rfl) (a := (m + 22)) (hM.2.2 21 _ _ _ rfl) rfl ?_
      refine ev_iload 379 dX12_voice_377 rfl rfl ?_
      refine ev_iald 380 _ dX12_voice_379 (hM.1 22 _ rfl) rfl (by have hNN := hM.2.1 22 _ rfl; omega) rfl ?_
      refine ev_eqI (y := nI ((vk_L H Rk sb w1))) ((by rw [P22, va_up_n _ _ (by omega), va_up_n _ _ (by omega), va_up_n _ _ (by omega), va_up_n _ _ (by omega), va_up_n _ _ (by omega), va_up_n _ _ (by omega), va_up_s])) ?_
      refine ev_aload_n 381 dX12_voice_380 rfl rfl ?_
      refine ev_getP 384 mm_cl12 (j := 27) (Nat.le_of_ble_eq_true rfl) dX12_voice_381 lk1312 (fun _ _ _ => rfl) (hM.1 0 _ rfl) (a := (m + 22)) (hM.2.2 21 _ _ _ rfl) rfl ?_
      refine ev_iload 386 dX12_voice_384 rfl rfl ?_
      refine ev_iconstN 387 1 dX12_voice_386 rfl ?_
      refine ev_iaddN 388 dX12_voice_387 rfl ?_
      refine ev_iald 389 _ dX12_voice_388 (hM.1 22 _ rfl) rfl (by have hNN := hM.2.1 22 _ rfl; omega) rfl ?_
      refine ev_eqI (y := nI ((vk_p H Rk sb w1))) ((by rw [P22, va_up_n _ _ (by omega), va_up_n _ _ (by omega), va_up_n _ _ (by omega), va_up_n _ _ (by omega), va_up_n _ _ (by omega), va_up_s])) ?_
      refine ev_aload_n 390 dX12_voice_389 rfl rfl ?_
      refine ev_getI 393 mm_cl12 (j := 73) (Nat.le_of_ble_eq_true rfl) dX12_voice_390 lk1358 (fun _ _ _ => rfl) (hM.1 0 _ rfl) rfl ?_
      refine ev_eqI (y := nI ((vk_e H Rk sb w1 w2).1)) (((w5 73 (by omega)).trans f73)) ?_
      refine ev_aload_n 394 dX12_voice_393 rfl rfl ?_
      refine ev_getI 397 mm_cl12 (j := 74) (Nat.le_of_ble_eq_true rfl) dX12_voice_394 lk1359 (fun _ _ _ => rfl) (hM.1 0 _ rfl) rfl ?_
      refine ev_eqI (y := nI ((vk_e H Rk sb w1 w2).2)) (((w5 74 (by omega)).trans f74)) ?_
      refine ev_aload_n 398 dX12_voice_397 rfl rfl ?_
      refine ev_getI 401 mm_cl12 (j := 75) (Nat.le_of_ble_eq_true rfl) dX12_voice_398 lk1360 (fun _ _ _ => rfl) (hM.1 0 _ rfl) rfl ?_
      refine ev_eqI (y := nI ((vk_o H Rk sb w1 w2).1)) (((w5 75 (by omega)).trans f75)) ?_
      refine ev_aload_n 402 dX12_voice_401 rfl rfl ?_
      refine ev_getI 405 mm_cl12 (j := 76) (Nat.le_of_ble_eq_true rfl) dX12_voice_402 lk1361 (fun _ _ _ => rfl) (hM.1 0 _ rfl) rfl ?_
      refine ev_eqI (y := nI ((vk_o H Rk sb w1 w2).2)) (((w5 76 (by omega)).trans f76)) ?_
      refine ev_aload_n 406 dX12_voice_405 rfl rfl ?_
      refine ev_getI 409 mm_cl12 (j := 77) (Nat.le_of_ble_eq_true rfl) dX12_voice_406 lk1362 (fun _ _ _ => rfl) (hM.1 0 _ rfl) rfl ?_
      refine ev_eqI (y := nI ((vk_j H Rk sb w1 w2))) (((w5 77 (by omega)).trans f77)) ?_
      refine ev_invVv 412 (Mc := mX12_excited) ⟨lk1690, lk80, hdX12_excited, (Nat.le_of_ble_eq_true rfl), (Nat.le_of_ble_eq_true rfl)⟩ lk1687 lk1689 lk57 mm_cl12 rfl dX12_voice_409 (c7) rfl (hM.1 0 _ rfl) (Nat.le_of_ble_eq_true rfl) rfl rfl ?_
      refine ev_iincN 415 (lv' := [_, _, _, some (.int _), _, _]) 1 dX12_voice_412 rfl (Nat.le_of_ble_eq_true rfl) rfl rfl ?_
      refine ev_goto 72 dX12_voice_415 (by decide) ?_
      refine ev_le (mle_s (mle_s (mle_s (mle_s (mle_s (mle_n (mle_0))))))) ?_
      exact e
    have tail1 : Ev g mX12_voice 175 [some (.ref m), some (.int (nI c)), some (.int (nI n)), some (.int (nI sb)), some (.int (nI k)), some (.int (nI (28 * c + 7 * k)))] [.int (nI w1), .int (nI sb), .int (nI k), .int (nI c), .ref m] B I2 J P Z := by
      refine ev_invVv 178 (Mc := mX12_pitch) ⟨lk1655, lk80, hdX12_pitch, (Nat.le_of_ble_eq_true rfl), (Nat.le_of_ble_eq_true rfl)⟩ lk1652 lk1654 lk52 mm_cl12 rfl dX12_voice_175 (c3) rfl (hM.1 0 _ rfl) (Nat.le_of_ble_eq_true rfl) rfl rfl ?_
      refine ev_aload_n 179 dX12_voice_178 rfl rfl ?_
      refine ev_getP 182 mm_cl12 (j := 27) (Nat.le_of_ble_eq_true rfl) dX12_voice_179 lk1312 (fun _ _ _ => rfl) (hM.1 0 _ rfl) (a := (m + 22)) (hM.2.2 21 _ _ _ rfl) rfl ?_
      refine ev_iload 184 dX12_voice_182 rfl rfl ?_
      refine ev_aload_n 185 dX12_voice_184 rfl rfl ?_
      refine ev_getI 188 mm_cl12 (j := 71) (Nat.le_of_ble_eq_true rfl) dX12_voice_185 lk1356 (fun _ _ _ => rfl) (hM.1 0 _ rfl) rfl ?_
      refine ev_eqI (y := nI ((vk_L H Rk sb w1))) ((by rw [p3, va_up_n _ _ (by omega), va_up_s])) ?_
      refine ev_iast 189 _ dX12_voice_188 (hM.1 22 _ rfl) rfl (by have hNN := hM.2.1 22 _ rfl; omega) rfl ?_
      refine ev_aload_n 190 dX12_voice_189 rfl rfl ?_
      refine ev_getP 193 mm_cl12 (j := 27) (Nat.le_of_ble_eq_true rfl) dX12_voice_190 lk1312 (fun _ _ _ => rfl) (hM.1 0 _ rfl) (a := (m + 22)) (hM.2.2 21 _ _ _ rfl) rfl ?_
      refine ev_iload 195 dX12_voice_193 rfl rfl ?_
      refine ev_iconstN 196 1 dX12_voice_195 rfl ?_
      refine ev_iaddN 197 dX12_voice_196 rfl ?_
      refine ev_aload_n 198 dX12_voice_197 rfl rfl ?_
      refine ev_getI 201 mm_cl12 (j := 72) (Nat.le_of_ble_eq_true rfl) dX12_voice_198 lk1357 (fun _ _ _ => rfl) (hM.1 0 _ rfl) rfl ?_
      refine ev_eqI (y := nI ((vk_p H Rk sb w1))) ((by rw [va_up_n _ _ (by omega), p3, va_up_s])) ?_
      refine ev_iast 202 _ dX12_voice_201 (hM.1 22 _ rfl) rfl (by have hNN := hM.2.1 22 _ rfl; omega) rfl ?_
      rw [va_up_s, bx_uu, hI3b]
      refine ev_aload_n 203 dX12_voice_202 rfl rfl ?_
      refine ev_getP 206 mm_cl12 (j := 28) (Nat.le_of_ble_eq_true rfl) dX12_voice_203 lk1313 (fun _ _ _ => rfl) (hM.1 0 _ rfl) (a := (m + 23)) (hM.2.2 22 _ _ _ rfl) rfl ?_
      refine ev_iconstN 207 4 dX12_voice_206 rfl ?_
      refine ev_iload_n 208 dX12_voice_207 rfl rfl ?_
      refine ev_imulN 209 dX12_voice_208 rfl ?_
      refine ev_iload 211 dX12_voice_209 rfl rfl ?_
      refine ev_iaddN 212 dX12_voice_211 rfl ?_
      refine ev_aload_n 213 dX12_voice_212 rfl rfl ?_
      refine ev_getJ 216 mm_cl12 (j := 70) (Nat.le_of_ble_eq_true rfl) dX12_voice_213 lk1355 (fun _ _ _ => rfl) (hM.1 0 _ rfl) rfl ?_
      refine ev_eqJ (y := ((vk_P H Rk sb w1).1)) ((by rw [← hJ3, va_up_s, va_up_s])) ?_
      refine ev_last 217 _ dX12_voice_216 (hM.1 23 _ rfl) rfl (by have hNN := hM.2.1 23 _ rfl; omega) rfl ?_
      rw [hJ3b]
      refine ev_aload_n 218 dX12_voice_217 rfl rfl ?_
      refine ev_bipushN 220 12 dX12_voice_218 (by decide +kernel) rfl ?_
      refine ev_aload_n 221 dX12_voice_220 rfl rfl ?_
      refine ev_getP 224 mm_cl12 (j := 12) (Nat.le_of_ble_eq_true rfl) dX12_voice_221 lk1297 (fun _ _ _ => rfl) (hM.1 0 _ rfl) (a := (m + 7)) (hM.2.2 6 _ _ _ rfl) rfl ?_
      refine ev_iconstN 225 2 dX12_voice_224 rfl ?_
      refine ev_iload_n 226 dX12_voice_225 rfl rfl ?_
      refine ev_imulN 227 dX12_voice_226 rfl ?_
      refine ev_iconstN 228 1 dX12_voice_227 rfl ?_
      refine ev_iaddN 229 dX12_voice_228 rfl ?_
      refine ev_iald 230 _ dX12_voice_229 (hM.1 7 _ rfl) rfl (by have hNN := hM.2.1 7 _ rfl; omega) rfl ?_
      refine ev_eqI (y := nI (w2)) ((by rw [z3]; exact k2)) ?_
      refine ev_iaddN 231 dX12_voice_230 rfl ?_
      refine ev_invVv 234 (Mc := mX12_tell) ⟨lk1599, lk80, hdX12_tell, (Nat.le_of_ble_eq_true rfl), (Nat.le_of_ble_eq_true rfl)⟩ lk1596 lk1598 lk41 mm_cl12 rfl dX12_voice_231 (m4) rfl (hM.1 0 _ rfl) (Nat.le_of_ble_eq_true rfl) rfl rfl ?_
      refine ev_aload_n 235 dX12_voice_234 rfl rfl ?_
      refine ev_iload_n 236 dX12_voice_235 rfl rfl ?_
      refine ev_iload 238 dX12_voice_236 rfl rfl ?_
      refine ev_iload_n 239 dX12_voice_238 rfl rfl ?_
      refine ev_aload_n 240 dX12_voice_239 rfl rfl ?_
      refine ev_getP 243 mm_cl12 (j := 27) (Nat.le_of_ble_eq_true rfl) dX12_voice_240 lk1312 (fun _ _ _ => rfl) (hM.1 0 _ rfl) (a := (m + 22)) (hM.2.2 21 _ _ _ rfl) rfl ?_
      refine ev_iload 245 dX12_voice_243 rfl rfl ?_
      refine ev_iald 246 _ dX12_voice_245 (hM.1 22 _ rfl) rfl (by have hNN := hM.2.1 22 _ rfl; omega) rfl ?_
      refine ev_eqI (y := nI ((vk_L H Rk sb w1))) ((by rw [a4 _ (by omega) (by omega), ← hI3b, va_up_s, va_up_n _ _ (by omega), va_up_s])) ?_
      refine ev_aload_n 247 dX12_voice_246 rfl rfl ?_
      refine ev_getP 250 mm_cl12 (j := 27) (Nat.le_of_ble_eq_true rfl) dX12_voice_247 lk1312 (fun _ _ _ => rfl) (hM.1 0 _ rfl) (a := (m + 22)) (hM.2.2 21 _ _ _ rfl) rfl ?_
      refine ev_iload 252 dX12_voice_250 rfl rfl ?_
      refine ev_iconstN 253 1 dX12_voice_252 rfl ?_
      refine ev_iaddN 254 dX12_voice_253 rfl ?_
      refine ev_iald 255 _ dX12_voice_254 (hM.1 22 _ rfl) rfl (by have hNN := hM.2.1 22 _ rfl; omega) rfl ?_
      refine ev_eqI (y := nI ((vk_p H Rk sb w1))) ((by rw [a4 _ (by omega) (by omega), ← hI3b, va_up_s, va_up_s])) ?_
      refine ev_aload_n 256 dX12_voice_255 rfl rfl ?_
      refine ev_getP 259 mm_cl12 (j := 12) (Nat.le_of_ble_eq_true rfl) dX12_voice_256 lk1297 (fun _ _ _ => rfl) (hM.1 0 _ rfl) (a := (m + 7)) (hM.2.2 6 _ _ _ rfl) rfl ?_
      refine ev_iconstN 260 2 dX12_voice_259 rfl ?_
      refine ev_iload_n 261 dX12_voice_260 rfl rfl ?_
      refine ev_imulN 262 dX12_voice_261 rfl ?_
      refine ev_iconstN 263 1 dX12_voice_262 rfl ?_
      refine ev_iaddN 264 dX12_voice_263 rfl ?_
      refine ev_iald 265 _ dX12_voice_264 (hM.1 7 _ rfl) rfl (by have hNN := hM.2.1 7 _ rfl; omega) rfl ?_
      refine ev_eqI (y := nI (w2)) ((by rw [z4]; exact k2)) ?_
      refine ev_iconstN 266 1 dX12_voice_265 rfl ?_
      refine ev_icmp_neN 269 273 dX12_voice_266 (by decide) (by omega) (by omega) rfl (fun hw => ?_) (fun hw => ?_)
      · obtain rfl : w2 = 0 := by omega
        refine ev_iconstN 274 0 dX12_voice_273 rfl ?_
        exact tail2
      · obtain rfl : w2 = 1 := by omega
        refine ev_iconstN 270 1 dX12_voice_269 rfl ?_
        refine ev_goto 274 dX12_voice_270 (by decide) ?_
        exact tail2
    have e1 := lp_X12_vo1 (g := g) (I := I) (J := J) (c := c) (n := n) (sb := sb) (k := k) (H := H) (Z := Z) hM hc8 hk hHi (by
      rw [hI1]
      refine ev_bipushN 128 28 dX12_voice_126 (by decide +kernel) rfl ?_
      refine ev_iload_n 129 dX12_voice_128 rfl rfl ?_
      refine ev_imulN 130 dX12_voice_129 rfl ?_
      refine ev_bipushN 132 7 dX12_voice_130 (by decide +kernel) rfl ?_
      refine ev_iload 134 dX12_voice_132 rfl rfl ?_
      refine ev_imulN 135 dX12_voice_134 rfl ?_
      refine ev_iaddN 136 dX12_voice_135 rfl ?_
      refine ev_istore 138 (lv' := [_, _, _, _, some (.int _), _]) dX12_voice_136 (Nat.le_of_ble_eq_true rfl) rfl rfl ?_
      refine ev_aload_n 139 dX12_voice_138 rfl rfl ?_
      refine ev_bipushN 141 10 dX12_voice_139 (by decide +kernel) rfl ?_
      refine ev_aload_n 142 dX12_voice_141 rfl rfl ?_
      refine ev_getP 145 mm_cl12 (j := 12) (Nat.le_of_ble_eq_true rfl) dX12_voice_142 lk1297 (fun _ _ _ => rfl) (hM.1 0 _ rfl) (a := (m + 7)) (hM.2.2 6 _ _ _ rfl) rfl ?_
      refine ev_iconstN 146 2 dX12_voice_145 rfl ?_
      refine ev_iload_n 147 dX12_voice_146 rfl rfl ?_
      refine ev_imulN 148 dX12_voice_147 rfl ?_
      refine ev_iald 149 _ dX12_voice_148 (hM.1 7 _ rfl) rfl (by have hNN := hM.2.1 7 _ rfl; omega) rfl ?_
      refine ev_eqI (y := nI (w1)) ((by rw [z1]; exact k1)) ?_
      refine ev_iaddN 150 dX12_voice_149 rfl ?_
      refine ev_invVv 153 (Mc := mX12_tell) ⟨lk1599, lk80, hdX12_tell, (Nat.le_of_ble_eq_true rfl), (Nat.le_of_ble_eq_true rfl)⟩ lk1596 lk1598 lk41 mm_cl12 rfl dX12_voice_150 (m2) rfl (hM.1 0 _ rfl) (Nat.le_of_ble_eq_true rfl) rfl rfl ?_
      refine ev_aload_n 154 dX12_voice_153 rfl rfl ?_
      refine ev_iload_n 155 dX12_voice_154 rfl rfl ?_
      refine ev_iload 157 dX12_voice_155 rfl rfl ?_
      refine ev_iload_n 158 dX12_voice_157 rfl rfl ?_
      refine ev_aload_n 159 dX12_voice_158 rfl rfl ?_
      refine ev_getP 162 mm_cl12 (j := 12) (Nat.le_of_ble_eq_true rfl) dX12_voice_159 lk1297 (fun _ _ _ => rfl) (hM.1 0 _ rfl) (a := (m + 7)) (hM.2.2 6 _ _ _ rfl) rfl ?_
      refine ev_iconstN 163 2 dX12_voice_162 rfl ?_
      refine ev_iload_n 164 dX12_voice_163 rfl rfl ?_
      refine ev_imulN 165 dX12_voice_164 rfl ?_
      refine ev_iald 166 _ dX12_voice_165 (hM.1 7 _ rfl) rfl (by have hNN := hM.2.1 7 _ rfl; omega) rfl ?_
      refine ev_eqI (y := nI (w1)) ((by rw [z2]; exact k1)) ?_
      refine ev_iconstN 167 1 dX12_voice_166 rfl ?_
      refine ev_icmp_neN 170 174 dX12_voice_167 (by decide) (by omega) (by omega) rfl (fun hw => ?_) (fun hw => ?_)
      · obtain rfl : w1 = 0 := by omega
        refine ev_iconstN 175 0 dX12_voice_174 rfl ?_
        exact tail1
      · obtain rfl : w1 = 1 := by omega
        refine ev_iconstN 171 1 dX12_voice_170 rfl ?_
        refine ev_goto 175 dX12_voice_171 (by decide) ?_
        exact tail1) 160 0 (by omega)
    rw [sgp_0, va_up_id] at e1
    refine ev_iload 74 dX12_voice_72 rfl rfl ?_
    refine ev_iconstN 75 4 dX12_voice_74 rfl ?_
    refine ev_icmp_geN 78 418 dX12_voice_75 (by decide) (by omega) (by omega) rfl (fun hx => absurd hx ((by omega))) (fun hbr => ?_)
    refine ev_iconstN 79 0 dX12_voice_78 rfl ?_
    refine ev_istore 81 (lv' := [_, _, _, _, some (.int _), _]) dX12_voice_79 (Nat.le_of_ble_eq_true rfl) rfl rfl ?_
    exact e1
end MVP
