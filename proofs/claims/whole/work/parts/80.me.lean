/-! the model's voice -/
theorem sp_rf_z : ∀ (d m : Nat) (F K : Nat → Int64) (ix : Nat → Int32) (t : Int64), m + d ≤ 8 → (∀ j, 8 ≤ j → ix j = 0) → ∀ j, 8 ≤ j → (sp_rf d m F K ix t).1 j = 0 := by
  intro d
  induction d with
  | zero => intro m F K ix t _ h; exact h
  | succ d ih =>
    intro m F K ix t hm h
    unfold sp_rf
    split
    · exact h
    · split
      · intro j hj
        show va_up ix m _ j = 0
        rw [va_up_n _ _ (by omega)]; exact h j hj
      · refine ih (m + 1) _ _ _ _ (by omega) (fun j hj => ?_)
        rw [va_up_n _ _ (by omega)]; exact h j hj
theorem sp_pr_z {X : Nat → Int32} {n : Nat} : ∀ j, 8 ≤ j → (sp_pr X n).1 j = 0 := by
  unfold sp_pr
  split
  · intro j _; rfl
  · exact sp_rf_z 8 0 _ _ _ _ (by omega) (fun _ _ => rfl)
theorem sp_pr_cg {X X' : Nat → Int32} {n : Nat} (h : ∀ j, j < n → X j = X' j) : sp_pr X n = sp_pr X' n := by
  have e : sp_ar X n = sp_ar X' n := by
    funext k
    by_cases c : k ≤ n
    · exact sp_ar_cg h k c
    · unfold sp_ar
      rw [sp_ac_cg h n (by omega), show n - k = 0 by omega]; rfl
  unfold sp_pr
  rw [e]
section MVO
variable {g : mm_G} {B : mm_B} {I I0 : mm_TI} {J J0 : mm_TJ} {P : mm_TP} {m : Nat}
theorem lp_X12_voi {c N sb : Nat} {ix : Nat → Int32} {Z : mm_Z} (hM : lyM B P m) (hc8 : c < 8) (hix : ∀ k, k < 8 → I (m + 21) (8 * c + k) = ix k)
    (K : Ev g mX12_voice 69 [some (.ref m), some (.int (nI c)), some (.int (nI N)), some (.int (nI sb)), none, none] [] B (va_up I (m + 17) (sgp (I (m + 17)) (16 * c) 8 ix)) J P Z) : ∀ (d i : Nat), i + d = 8 →
    Ev g mX12_voice 32 [some (.ref m), some (.int (nI c)), some (.int (nI N)), some (.int (nI sb)), some (.int (nI i)), none] [] B (va_up I (m + 17) (sgp (I (m + 17)) (16 * c) i ix)) J P Z := by
  intro d
  induction d with
  | zero =>
    intro i hi
    obtain rfl : i = 8 := by omega
    refine ev_iload 34 dX12_voice_32 rfl rfl ?_
    refine ev_bipushN 36 8 dX12_voice_34 (by decide +kernel) rfl ?_
    refine ev_icmp_geN 39 69 dX12_voice_36 (by decide) (by omega) (by omega) rfl (fun hbr => ?_) (fun hx => absurd ((by omega)) hx)
    refine ev_le (mle_s (mle_s (mle_s (mle_s (mle_n (mle_n (mle_0))))))) ?_
    exact K
  | succ d ih =>
    intro i hi
    have e := ih (i + 1) (by omega)
    rw [← sgp_grow (x := ix i) rfl] at e
    refine ev_iload 34 dX12_voice_32 rfl rfl ?_
    refine ev_bipushN 36 8 dX12_voice_34 (by decide +kernel) rfl ?_
    refine ev_icmp_geN 39 69 dX12_voice_36 (by decide) (by omega) (by omega) rfl (fun hx => absurd hx ((by omega))) (fun hbr => ?_)
    refine ev_aload_n 40 dX12_voice_39 rfl rfl ?_
    refine ev_getP 43 mm_cl12 (j := 22) (Nat.le_of_ble_eq_true rfl) dX12_voice_40 lk1307 (fun _ _ _ => rfl) (hM.1 0 _ rfl) (a := (m + 17)) (hM.2.2 16 _ _ _ rfl) rfl ?_
    refine ev_bipushN 45 16 dX12_voice_43 (by decide +kernel) rfl ?_
    refine ev_iload_n 46 dX12_voice_45 rfl rfl ?_
    refine ev_imulN 47 dX12_voice_46 rfl ?_
    refine ev_iload 49 dX12_voice_47 rfl rfl ?_
    refine ev_iaddN 50 dX12_voice_49 rfl ?_
    refine ev_aload_n 51 dX12_voice_50 rfl rfl ?_
    refine ev_getP 54 mm_cl12 (j := 26) (Nat.le_of_ble_eq_true rfl) dX12_voice_51 lk1311 (fun _ _ _ => rfl) (hM.1 0 _ rfl) (a := (m + 21)) (hM.2.2 20 _ _ _ rfl) rfl ?_
    refine ev_bipushN 56 8 dX12_voice_54 (by decide +kernel) rfl ?_
    refine ev_iload_n 57 dX12_voice_56 rfl rfl ?_
    refine ev_imulN 58 dX12_voice_57 rfl ?_
    refine ev_iload 60 dX12_voice_58 rfl rfl ?_
    refine ev_iaddN 61 dX12_voice_60 rfl ?_
    refine ev_iald 62 _ dX12_voice_61 (hM.1 21 _ rfl) rfl (by have hNN := hM.2.1 21 _ rfl; omega) rfl ?_
    refine ev_eqI (y := (ix i)) ((by rw [va_up_n _ _ (by omega)]; exact hix i (by omega))) ?_
    refine ev_iast 63 _ dX12_voice_62 (hM.1 17 _ rfl) rfl (by have hNN := hM.2.1 17 _ rfl; omega) rfl ?_
    refine ev_iincN 66 (lv' := [_, _, _, some (.int _), _, _]) 1 dX12_voice_63 rfl (Nat.le_of_ble_eq_true rfl) rfl rfl ?_
    refine ev_goto 32 dX12_voice_66 (by decide) ?_
    rw [va_up_s, bx_uu]
    exact e
theorem lx_X12_vo4 {c N sb w1 w2 t : Nat} {ix R H0 V0 Y0 : Nat → Int32} (hM : lyM B P m) (hc8 : c < 8) (hb : sb = 40 ∨ sb = 80) (hw1 : w1 ≤ 1) (hw2 : w2 ≤ 1)
    (k1 : I0 (m + 7) (2 * c) = nI w1) (k2 : I0 (m + 7) (2 * c + 1) = nI w2) (hix : sg (I0 (m + 17)) (8 * (2 * c)) 8 = ix) (hR : ∀ n, n < 4 * sb → I0 (m + 26) (320 * c + n) = R n) (hRr : ∀ n, n < 4 * sb → r16 (R n)) (hHr : ∀ n, n < 160 → r16 (H0 n)) (hHz : ∀ n, 160 ≤ n → H0 n = 0) (hVz : ∀ n, 8 ≤ n → V0 n = 0)
    (ht : t + 12 ≤ 64) : ∀ (d k : Nat), k + d = 4 → ∀ (I : mm_TI) (J : mm_TJ), VMs m c sb w1 w2 t k ix R H0 V0 Y0 I0 J0 I J →
    ∃ (I' : mm_TI) (J' : mm_TJ), VMs m c sb w1 w2 t 4 ix R H0 V0 Y0 I0 J0 I' J' ∧ ∀ Z : mm_Z, Ev g mX12_voice 72 [some (.ref m), some (.int (nI c)), some (.int (nI N)), some (.int (nI sb)), some (.int (nI 4)), none] [] B I' J' P Z → Ev g mX12_voice 72 [some (.ref m), some (.int (nI c)), some (.int (nI N)), some (.int (nI sb)), some (.int (nI k)), none] [] B I J P Z := by
  intro d
  induction d with
  | zero =>
    intro k hk I J hS
    obtain rfl : k = 4 := by omega
    exact ⟨I, J, hS, fun Z e => e⟩
  | succ d ih =>
    intro k hk I J hS
    obtain ⟨I1, J1, s1, e1⟩ := lx_X12_vo2 (g := g) (B := B) (P := P) (t := t) (n := N) hM hc8 hb hw1 hw2 k1 k2 hix hR hRr hHr hHz hVz ht (show k < 4 by omega) hS
    obtain ⟨I2, J2, s2, e2⟩ := ih (k + 1) (by omega) I1 J1 s1
    exact ⟨I2, J2, s2, fun Z e => e1 Z (e2 Z e)⟩
/-- what it leaves, of coder c -/
def VMe (m c sb w1 w2 t : Nat) (pr : (Nat → Int32) × Int64) (la vV : (Nat → Int32) × (Nat → Int32) × Int64) (R H0 : Nat → Int32) (I : mm_TI) (J : mm_TJ) (I' : mm_TI) (J' : mm_TJ) : Prop :=
  (sg (I' (m + 15)) (320 * c) 160 = sp_vH R sb w1 w2 H0 4 ∧ ∀ j, j < 320 * c ∨ 320 * c + 160 ≤ j → I' (m + 15) j = I (m + 15) j) ∧
  ((∀ i, i < 4 → ∀ n, n < 160 → I' (m + 27) (160 * (4 * c + i) + n) = sp_vH R sb w1 w2 H0 i n) ∧ ∀ j, j < 640 * c ∨ 640 * c + 640 ≤ j → I' (m + 27) j = I (m + 27) j) ∧
  (sg (I' (m + 16)) (16 * c) 8 = vV.1 ∧ ∀ j, j < 16 * c ∨ 16 * c + 8 ≤ j → I' (m + 16) j = I (m + 16) j) ∧
  ((∀ i, i < 4 → VMt I' J' m c i (sp_vH R sb w1 w2 H0 i) (sg R (sb * i) sb) sb w1 w2) ∧ (∀ j, j < 28 * c ∨ 28 * c + 28 ≤ j → I' (m + 22) j = I (m + 22) j) ∧ (∀ j, j < 4 * c ∨ 4 * c + 4 ≤ j → J' (m + 23) j = J (m + 23) j) ∧ (∀ j, j < 4 * c ∨ 4 * c + 4 ≤ j → J' (m + 24) j = J (m + 24) j)) ∧
  I' (m + 2) = sp_tr (va_up (va_up (I (m + 2)) t (nI 3)) (t + 1) (nI 4)) (t + 2) w1 w2 4 ∧ I' m 5 = nI (t + 14) ∧ (∀ j, j ≠ 5 → j < 71 ∨ 77 < j → I' m j = I m j) ∧
  I' (m + 21) = sgp (I (m + 21)) (8 * c) 8 pr.1 ∧ I' (m + 17) = sgp (I (m + 17)) (16 * c) 8 pr.1 ∧ I' (m + 19) = sgp (I (m + 19)) (8 * c) 8 la.1 ∧ I' (m + 26) = sgp (I (m + 26)) (320 * c) 320 la.2.1 ∧ I' (m + 25) = va_up (I (m + 25)) c (nI sb) ∧
  I' (m + 18) = va_up (I (m + 18)) (2 * c) (nI (vk_L (sp_vH R sb w1 w2 H0 3) (sg R (sb * 3) sb) sb w1)) ∧
  J' m 2 = J m 2 + pr.2 + la.2.2 + vV.2.2 ∧
  (∀ q, VMf m q → q ≠ m + 21 → q ≠ m + 17 → q ≠ m + 18 → q ≠ m + 19 → q ≠ m + 25 → q ≠ m + 26 → I' q = I q) ∧ (∀ q, q ≠ m → q ≠ m + 23 → q ≠ m + 24 → q < m + 59 ∨ m + 63 < q → J' q = J q)
theorem cx_X12_voice {c N sb w1 w2 t : Nat} {R H0 V0 X : Nat → Int32} {pr : (Nat → Int32) × Int64} {la vV : (Nat → Int32) × (Nat → Int32) × Int64} (hM : lyM B P m) (hc8 : c < 8) (hb : sb = 40 ∨ sb = 80) (hN : N = 4 * sb) (hw1 : w1 ≤ 1) (hw2 : w2 ≤ 1)
    (k1 : I (m + 7) (2 * c) = nI w1) (k2 : I (m + 7) (2 * c + 1) = nI w2) (hX : I (m + 53) = X) (hpr : sp_pr X N = pr) (hla : sp_la pr.1 X (sg (I (m + 19)) (8 * c) 8, sg (I (m + 26)) (320 * c) 320, 0) N = la) (hR : ∀ n, n < 4 * sb → la.2.1 n = R n)
    (hH : sg (I (m + 15)) (320 * c) 160 = H0) (hHr : ∀ n, n < 160 → r16 (H0 n)) (hVv : sg (I (m + 16)) (16 * c) 8 = V0) (hvV : sp_vV pr.1 R sb w1 w2 H0 (V0, I (m + 54), 0) 4 = vV) (ht : t + 14 ≤ 64) (ht2 : I m 5 = nI t) :
    ∃ (I' : mm_TI) (J' : mm_TJ), Ct g mX12_voice [.ref m, .int (nI c), .int (nI N), .int (nI sb)] B I J P (none, B, I', J', P) ∧ VMe m c sb w1 w2 t pr la vV R H0 I J I' J' := by
  have hRr : ∀ n, n < 4 * sb → r16 (R n) := fun n hn => by rw [← hR n hn, ← hla]; exact sp_la_r N n (by omega)
  have hHz : ∀ n, 160 ≤ n → H0 n = 0 := fun n hn => by rw [← hH]; unfold sg; rw [if_neg (by omega)]
  have hVz : ∀ n, 8 ≤ n → V0 n = 0 := fun n hn => by rw [← hVv]; unfold sg; rw [if_neg (by omega)]
  have hprz : ∀ j, 8 ≤ j → pr.1 j = 0 := by rw [← hpr]; exact sp_pr_z
  have m1 := ct_X12_tell (g := g) (I := I) (J := J) (P := P) (a := nI 3) (t := t) hM ht2 (by omega)
  generalize hI1 : va_up (va_up I (m + 2) (va_up (I (m + 2)) t (nI 3))) m (va_up (I m) 5 (nI (t + 1))) = I1 at m1
  have a1 : ∀ q, q ≠ m → q ≠ m + 2 → I1 q = I q := fun q h h' => by rw [← hI1, va_up_n _ _ h, va_up_n _ _ h']
  obtain ⟨J2, c2, j2, j2'⟩ := cx_X12_predict (g := g) (B := B) (I := I1) (J := J) (P := P) (m := m) (c := c) (n := N) hM hc8 (by omega) (by omega)
  rw [a1 (m + 53) (by omega) (by omega), a1 (m + 21) (by omega) (by omega), hX, hpr] at c2
  rw [a1 (m + 53) (by omega) (by omega), hX, hpr] at j2
  generalize hI2 : va_up I1 (m + 21) (sgp (I (m + 21)) (8 * c) 8 pr.1) = I2 at c2
  have a2 : ∀ q, q ≠ m + 21 → I2 q = I1 q := fun q h => by rw [← hI2, va_up_n _ _ h]
  have e21 : sg (I2 (m + 21)) (8 * c) 8 = pr.1 := by rw [← hI2, va_up_s, sg_sgp hprz]
  have m3 := ct_X12_tell (g := g) (I := I2) (J := J2) (P := P) (a := nI 4) (t := t + 1) hM (by rw [a2 _ (by omega), ← hI1, va_up_s, va_up_s]) (by omega)
  generalize hI3 : va_up (va_up I2 (m + 2) (va_up (I2 (m + 2)) (t + 1) (nI 4))) m (va_up (I2 m) 5 (nI (t + 1 + 1))) = I3 at m3
  have a3 : ∀ q, q ≠ m → q ≠ m + 2 → I3 q = I2 q := fun q h h' => by rw [← hI3, va_up_n _ _ h, va_up_n _ _ h']
  have A3 : ∀ q, q ≠ m → q ≠ m + 2 → q ≠ m + 21 → I3 q = I q := fun q h1 h2 h3 => by rw [a3 q h1 h2, a2 q h3, a1 q h1 h2]
  have c4 := ct_X12_lattice (g := g) (B := B) (I := I3) (J := J2) (P := P) (m := m) (c := c) (n := N) hM hc8 (by omega)
  rw [A3 (m + 19) (by omega) (by omega) (by omega), A3 (m + 26) (by omega) (by omega) (by omega), A3 (m + 53) (by omega) (by omega) (by omega), a3 (m + 21) (by omega) (by omega), e21, hX, hla] at c4
  generalize hI4 : va_up (va_up I3 (m + 19) (sgp (I (m + 19)) (8 * c) 8 la.1)) (m + 26) (sgp (I (m + 26)) (320 * c) 320 la.2.1) = I4 at c4
  have a4 : ∀ q, q ≠ m + 19 → q ≠ m + 26 → I4 q = I3 q := fun q h h' => by rw [← hI4, va_up_n _ _ h', va_up_n _ _ h]
  generalize hJ4 : sp_up J2 m 2 la.2.2 = J4 at c4
  generalize hI5 : va_up I4 (m + 25) (va_up (I4 (m + 25)) c (nI sb)) = I5
  have a5 : ∀ q, q ≠ m + 25 → I5 q = I4 q := fun q h => by rw [← hI5, va_up_n _ _ h]
  generalize hI6 : va_up I5 (m + 17) (sgp (I5 (m + 17)) (16 * c) 8 pr.1) = I6
  have a6 : ∀ q, q ≠ m + 17 → I6 q = I5 q := fun q h => by rw [← hI6, va_up_n _ _ h]
  have A6 : ∀ q, q ≠ m → q ≠ m + 2 → q ≠ m + 21 → q ≠ m + 17 → q ≠ m + 19 → q ≠ m + 25 → q ≠ m + 26 → I6 q = I q := fun q h1 h2 h3 h4 h5 h6 h7 => by
    rw [a6 q h4, a5 q h6, a4 q h5 h7, A3 q h1 h2 h3]
  have e17 : I6 (m + 17) = sgp (I (m + 17)) (16 * c) 8 pr.1 := by rw [← hI6, va_up_s, a5 _ (by omega), a4 _ (by omega) (by omega), A3 _ (by omega) (by omega) (by omega)]
  have e26 : I6 (m + 26) = sgp (I (m + 26)) (320 * c) 320 la.2.1 := by rw [a6 _ (by omega), a5 _ (by omega), ← hI4, va_up_s]
  have e19 : I6 (m + 19) = sgp (I (m + 19)) (8 * c) 8 la.1 := by rw [a6 _ (by omega), a5 _ (by omega), ← hI4, va_up_n _ _ (by omega), va_up_s]
  have e25 : I6 (m + 25) = va_up (I (m + 25)) c (nI sb) := by rw [a6 _ (by omega), ← hI5, va_up_s, a4 _ (by omega) (by omega), A3 _ (by omega) (by omega) (by omega)]
  have em : I6 m = va_up (I m) 5 (nI (t + 1 + 1)) := by rw [a6 _ (by omega), a5 _ (by omega), a4 _ (by omega) (by omega), ← hI3, va_up_s, a2 _ (by omega), ← hI1, va_up_s, bx_uu]
  have e2 : I6 (m + 2) = va_up (va_up (I (m + 2)) t (nI 3)) (t + 1) (nI 4) := by rw [a6 _ (by omega), a5 _ (by omega), a4 _ (by omega) (by omega), ← hI3, va_up_n _ _ (by omega), va_up_s, a2 _ (by omega), ← hI1, va_up_n _ _ (by omega), va_up_s]
  obtain ⟨I7, J7, ⟨⟨s1, s1'⟩, ⟨s2, s2'⟩, ⟨s3, s3'⟩, s4, s5, ⟨s6, s6a, s6b, s6c⟩, s7, s8, s8', s9, s10⟩, e7⟩ := lx_X12_vo4 (g := g) (B := B) (I0 := I6) (J0 := J4) (P := P) (m := m) (c := c) (N := N) (sb := sb) (w1 := w1) (w2 := w2) (t := t + 2) (ix := pr.1) (R := R) (H0 := H0) (V0 := V0) (Y0 := I (m + 54)) hM hc8 hb hw1 hw2
    (by rw [A6 _ (by omega) (by omega) (by omega) (by omega) (by omega) (by omega) (by omega)]; exact k1) (by rw [A6 _ (by omega) (by omega) (by omega) (by omega) (by omega) (by omega) (by omega)]; exact k2)
    (by rw [e17, show 8 * (2 * c) = 16 * c by omega, sg_sgp hprz]) (fun n hn => by rw [e26, sgp_in (by omega)]; exact hR n hn) hRr hHr hHz hVz (by omega) 4 0 (by omega) I6 J4
    ⟨⟨by rw [A6 _ (by omega) (by omega) (by omega) (by omega) (by omega) (by omega) (by omega), show 160 * (2 * c) = 320 * c by omega]; exact hH, fun j _ => rfl⟩, ⟨fun i hi => by omega, fun j _ => rfl⟩, ⟨by rw [A6 _ (by omega) (by omega) (by omega) (by omega) (by omega) (by omega) (by omega), show 8 * (2 * c) = 16 * c by omega]; exact hVv, fun j _ => rfl⟩,
      A6 _ (by omega) (by omega) (by omega) (by omega) (by omega) (by omega) (by omega), by show _ = _ + (0 : Int64); rw [Int64.add_zero], ⟨fun i hi => by omega, fun j _ => rfl, fun j _ => rfl, fun j _ => rfl⟩, rfl, by show I6 m 5 = nI (t + 2); rw [em, va_up_s], fun j _ _ => rfl, fun q _ => rfl, fun q _ _ _ _ _ => rfl⟩
  rw [hvV] at s3 s4 s5
  have p0 := (s6 3 (by omega)).1
  have e718 : I7 (m + 18) = I (m + 18) := by rw [s9 _ (by unfold VMf; omega), A6 _ (by omega) (by omega) (by omega) (by omega) (by omega) (by omega) (by omega)]
  refine ⟨va_up I7 (m + 18) (va_up (I7 (m + 18)) (2 * c) (nI (vk_L (sp_vH R sb w1 w2 H0 3) (sg R (sb * 3) sb) sb w1))), J7, ?_, ⟨⟨?_, ?_⟩, ⟨?_, ?_⟩, ⟨?_, ?_⟩, ⟨?_, ?_, ?_, ?_⟩, ?_, ?_, ?_, ?_, ?_, ?_, ?_, ?_, ?_, ?_, ?_, ?_⟩⟩
  · have e69 : ∀ Z : mm_Z, Ev g mX12_voice 72 [some (.ref m), some (.int (nI c)), some (.int (nI N)), some (.int (nI sb)), some (.int (nI 0)), none] [] B I6 J4 P Z → Ev g mX12_voice 32 [some (.ref m), some (.int (nI c)), some (.int (nI N)), some (.int (nI sb)), some (.int (nI 0)), none] [] B I5 J4 P Z := by
      intro Z e
      have e1 := lp_X12_voi (g := g) (I := I5) (J := J4) (P := P) (c := c) (N := N) (sb := sb) (ix := pr.1) (Z := Z) hM hc8 (fun k hk => by rw [a5 _ (by omega), a4 _ (by omega) (by omega), a3 _ (by omega) (by omega), ← hI2, va_up_s, sgp_in hk]) (by
        rw [hI6]
        refine ev_iconstN 70 0 dX12_voice_69 rfl ?_
        refine ev_istore 72 (lv' := [_, _, _, some (.int _), _, _]) dX12_voice_70 (Nat.le_of_ble_eq_true rfl) rfl rfl ?_
        exact e) 8 0 (by omega)
      rw [sgp_0, va_up_id] at e1
      exact e1
    refine ct_of (lv := [some (.ref m), some (.int (nI c)), some (.int (nI N)), some (.int (nI sb)), none, none]) (by decide +kernel) (Nat.le_of_ble_eq_true rfl) rfl ?_
    refine ev_aload_n 1 dX12_voice_0 rfl rfl ?_
    refine ev_iconstN 2 3 dX12_voice_1 rfl ?_
    refine ev_invVv 5 (Mc := mX12_tell) ⟨lk1599, lk80, hdX12_tell, (Nat.le_of_ble_eq_true rfl), (Nat.le_of_ble_eq_true rfl)⟩ lk1596 lk1598 lk41 mm_cl12 rfl dX12_voice_2 (m1) rfl (hM.1 0 _ rfl) (Nat.le_of_ble_eq_true rfl) rfl rfl ?_
    refine ev_aload_n 6 dX12_voice_5 rfl rfl ?_
    refine ev_iload_n 7 dX12_voice_6 rfl rfl ?_
    refine ev_iload_n 8 dX12_voice_7 rfl rfl ?_
    refine ev_invVv 11 (Mc := mX12_predict) ⟨lk1638, lk80, hdX12_predict, (Nat.le_of_ble_eq_true rfl), (Nat.le_of_ble_eq_true rfl)⟩ lk1635 lk1637 lk49 mm_cl12 rfl dX12_voice_8 (c2) rfl (hM.1 0 _ rfl) (Nat.le_of_ble_eq_true rfl) rfl rfl ?_
    refine ev_aload_n 12 dX12_voice_11 rfl rfl ?_
    refine ev_iconstN 13 4 dX12_voice_12 rfl ?_
    refine ev_invVv 16 (Mc := mX12_tell) ⟨lk1599, lk80, hdX12_tell, (Nat.le_of_ble_eq_true rfl), (Nat.le_of_ble_eq_true rfl)⟩ lk1596 lk1598 lk41 mm_cl12 rfl dX12_voice_13 (m3) rfl (hM.1 0 _ rfl) (Nat.le_of_ble_eq_true rfl) rfl rfl ?_
    refine ev_aload_n 17 dX12_voice_16 rfl rfl ?_
    refine ev_iload_n 18 dX12_voice_17 rfl rfl ?_
    refine ev_iload_n 19 dX12_voice_18 rfl rfl ?_
    refine ev_invVv 22 (Mc := mX12_lattice) ⟨lk1651, lk80, hdX12_lattice, (Nat.le_of_ble_eq_true rfl), (Nat.le_of_ble_eq_true rfl)⟩ lk1648 lk1650 lk51 mm_cl12 rfl dX12_voice_19 (c4) rfl (hM.1 0 _ rfl) (Nat.le_of_ble_eq_true rfl) rfl rfl ?_
    refine ev_aload_n 23 dX12_voice_22 rfl rfl ?_
    refine ev_getP 26 mm_cl12 (j := 30) (Nat.le_of_ble_eq_true rfl) dX12_voice_23 lk1315 (fun _ _ _ => rfl) (hM.1 0 _ rfl) (a := (m + 25)) (hM.2.2 24 _ _ _ rfl) rfl ?_
    refine ev_iload_n 27 dX12_voice_26 rfl rfl ?_
    refine ev_iload_n 28 dX12_voice_27 rfl rfl ?_
    refine ev_iast 29 _ dX12_voice_28 (hM.1 25 _ rfl) rfl (by have hNN := hM.2.1 25 _ rfl; omega) rfl ?_
    rw [hI5]
    refine ev_iconstN 30 0 dX12_voice_29 rfl ?_
    refine ev_istore 32 (lv' := [_, _, _, some (.int _), _, _]) dX12_voice_30 (Nat.le_of_ble_eq_true rfl) rfl rfl ?_
    refine e69 _ (e7 _ ?_)
    refine ev_iload 74 dX12_voice_72 rfl rfl ?_
    refine ev_iconstN 75 4 dX12_voice_74 rfl ?_
    refine ev_icmp_geN 78 418 dX12_voice_75 (by decide) (by omega) (by omega) rfl (fun hbr => ?_) (fun hx => absurd ((by omega)) hx)
    refine ev_aload_n 419 dX12_voice_418 rfl rfl ?_
    refine ev_getP 422 mm_cl12 (j := 23) (Nat.le_of_ble_eq_true rfl) dX12_voice_419 lk1308 (fun _ _ _ => rfl) (hM.1 0 _ rfl) (a := (m + 18)) (hM.2.2 17 _ _ _ rfl) rfl ?_
    refine ev_iconstN 423 2 dX12_voice_422 rfl ?_
    refine ev_iload_n 424 dX12_voice_423 rfl rfl ?_
    refine ev_imulN 425 dX12_voice_424 rfl ?_
    refine ev_aload_n 426 dX12_voice_425 rfl rfl ?_
    refine ev_getP 429 mm_cl12 (j := 27) (Nat.le_of_ble_eq_true rfl) dX12_voice_426 lk1312 (fun _ _ _ => rfl) (hM.1 0 _ rfl) (a := (m + 22)) (hM.2.2 21 _ _ _ rfl) rfl ?_
    refine ev_bipushN 431 28 dX12_voice_429 (by decide +kernel) rfl ?_
    refine ev_iload_n 432 dX12_voice_431 rfl rfl ?_
    refine ev_imulN 433 dX12_voice_432 rfl ?_
    refine ev_bipushN 435 21 dX12_voice_433 (by decide +kernel) rfl ?_
    refine ev_iaddN 436 dX12_voice_435 rfl ?_
    refine ev_iald 437 _ dX12_voice_436 (hM.1 22 _ rfl) rfl (by have hNN := hM.2.1 22 _ rfl; omega) rfl ?_
    refine ev_eqI (y := nI ((vk_L (sp_vH R sb w1 w2 H0 3) (sg R (sb * 3) sb) sb w1))) (p0) ?_
    refine ev_iast 438 _ dX12_voice_437 (hM.1 18 _ rfl) rfl (by have hNN := hM.2.1 18 _ rfl; omega) rfl ?_
    exact ev_vret dX12_voice_438 rfl (rfl)
  · rw [va_up_n _ _ (by omega), ← s1, show 160 * (2 * c) = 320 * c by omega]
  · intro j hj
    rw [va_up_n _ _ (by omega), s1' j hj, A6 _ (by omega) (by omega) (by omega) (by omega) (by omega) (by omega) (by omega)]
  · intro i hi n hn
    rw [va_up_n _ _ (by omega)]; exact s2 i hi n hn
  · intro j hj
    rw [va_up_n _ _ (by omega), s2' j hj, A6 _ (by omega) (by omega) (by omega) (by omega) (by omega) (by omega) (by omega)]
  · rw [va_up_n _ _ (by omega), ← s3, show 8 * (2 * c) = 16 * c by omega]
  · intro j hj
    rw [va_up_n _ _ (by omega), s3' j hj, A6 _ (by omega) (by omega) (by omega) (by omega) (by omega) (by omega) (by omega)]
  · intro i hi
    have h := s6 i hi
    unfold VMt at h ⊢
    rw [va_up_n _ _ (show m + 22 ≠ m + 18 by omega)]
    exact h
  · intro j hj
    rw [va_up_n _ _ (by omega), s6a j hj, A6 _ (by omega) (by omega) (by omega) (by omega) (by omega) (by omega) (by omega)]
  · intro j hj
    rw [s6b j hj, ← hJ4, sp_up_o (by omega), j2' _ (by omega) (by omega) (by omega) (by omega)]
  · intro j hj
    rw [s6c j hj, ← hJ4, sp_up_o (by omega), j2' _ (by omega) (by omega) (by omega) (by omega)]
  · rw [va_up_n _ _ (by omega), s7, e2]
  · rw [va_up_n _ _ (by omega), s8]
  · intro j h5 hj
    rw [va_up_n _ _ (by omega), s8' j h5 hj, em, va_up_n _ _ h5]
  · rw [va_up_n _ _ (by omega), s9 _ (by unfold VMf; omega), a6 _ (by omega), a5 _ (by omega), a4 _ (by omega) (by omega), a3 _ (by omega) (by omega), ← hI2, va_up_s]
  · rw [va_up_n _ _ (by omega), s9 _ (by unfold VMf; omega), e17]
  · rw [va_up_n _ _ (by omega), s9 _ (by unfold VMf; omega), e19]
  · rw [va_up_n _ _ (by omega), s9 _ (by unfold VMf; omega), e26]
  · rw [va_up_n _ _ (by omega), s9 _ (by unfold VMf; omega), e25]
  · rw [va_up_s, e718]
  · rw [s5, ← hJ4, sp_up_at, j2, sp_up_at]
  · intro q h h1 h2 h3 h4 h5 h6
    have h' := h
    unfold VMf at h'
    rw [va_up_n _ _ h3, s9 q h, A6 q (by omega) (by omega) h1 h2 h4 h5 h6]
  · intro q h1 h2 h3 h4
    rw [s10 q h1 h2 h3 (by omega) (by omega), ← hJ4, sp_up_o h1, j2' q h1 (by omega) (by omega) (by omega)]
end MVO
