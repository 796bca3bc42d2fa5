/-! DECODE: the late ones are taken out, one is taken and opened -/
theorem fst_cases (p : Nat → Prop) [DecidablePred p] : ∀ n, (∀ j, j < n → ¬ p j) ∨ ∃ i, i < n ∧ p i ∧ ∀ j, j < i → ¬ p j := by
  intro n
  induction n with
  | zero => exact Or.inl (fun j hj => by omega)
  | succ n ih =>
    rcases ih with h | ⟨i, h1, h2, h3⟩
    · by_cases c : p n
      · exact Or.inr ⟨n, by omega, c, h⟩
      · refine Or.inl (fun j hj => ?_)
        by_cases e : j = n
        · rw [e]; exact c
        · exact h j (by omega)
    · exact Or.inr ⟨i, by omega, h2, h3⟩
def mkB (tb : Nat) (F : Nat → Int32) : Nat → Int32 := if tb = 0 then F else mk2 0 F
/-- the class's memory once a frame is taken and opened, or missed -/
def DBc (x o n2 w tb : Nat) (φ s2 : Nat → Nat) (lt : Int32) (I Ib : mm_TI) (P Pb : mm_TP) : Prop :=
  Ib x = va_up (I x) 9 (nI 0) ∧ Ib (x + 1) = va_up (I (x + 1)) 2 (nI tb) ∧ Ib (x + 2) = fnd w (I (x + 2)) ∧ Ib (x + 3) = mkB tb (I (x + 3)) ∧ Ib (o + 2) 1 = nI n2 ∧ Ib (o + 17) = va_up (va_up (I (o + 17)) 16 lt) 12 (nI w) ∧ (∀ k, k < n2 → Pb (o + 3) k = some (φ (s2 k))) ∧ (∀ q, q ≠ o + 3 → Pb q = P q) ∧ ∀ q, q ≠ x → q ≠ x + 1 → q ≠ x + 2 → q ≠ x + 3 → q ≠ o + 2 → q ≠ o + 17 → Ib q = I q
def DBm (m c n2 w tb : Nat) (s2 : Nat → Nat) (lt : Int32) (I Mb : mm_TI) : Prop :=
  Mb m 5 = nI tb ∧ (∀ i, i ≠ 5 → i < 71 → Mb m i = I m i) ∧ Mb (m + 1) = fnd w (I (m + 1)) ∧ Mb (m + 2) = mkB tb (I (m + 2)) ∧ Mb (m + 28) = va_up (I (m + 28)) c (nI n2) ∧ (∀ k, k < n2 → Mb (m + 29) (250 * c + k) = I (m + 29) (250 * c + s2 k)) ∧ (∀ j, j < 250 * c ∨ 250 * c + 250 ≤ j → Mb (m + 29) j = I (m + 29) j) ∧ (∀ k, k < n2 → Mb (m + 30) (250 * c + k) = I (m + 30) (250 * c + s2 k)) ∧ (∀ j, j < 250 * c ∨ 250 * c + 250 ≤ j → Mb (m + 30) j = I (m + 30) j) ∧ Mb (m + 39) = va_up (I (m + 39)) c lt ∧
  ∀ j, 3 ≤ j → j < 64 → j ≠ 28 → j ≠ 29 → j ≠ 30 → j ≠ 39 → Mb (m + j) = I (m + j)
section DA0
variable {g : mm_G} {B : mm_B} {I : mm_TI} {J : mm_TJ} {P : mm_TP} {x m n R K k L nx nu : Nat} {o : Nat → Nat} {fl φ : Nat → Nat → Nat} {ρ : Nat → Nat}
theorem dec_AB (h : RC g B I J P x m n R K o fl φ ρ) (hk : k < n) (hR : R < 4300) (l1 : L ≤ 250) (l2 : I (o k + 2) 1 = nI L) (l3 : I (m + 28) k = nI L) (nx1 : nx < 65536) (nx2 : I (o k + 17) 9 = nI nx) (nx3 : I (m + 36) k = nI nx) (nu1 : nu < 65536) (nu3 : I (m + 10) k = nI nu) (hgo : ¬ (L = 0 ∧ nx = nu)) (q16 : I (o k + 17) 16 = I (m + 39) k) :
    ∃ (n2 w tb f r nn : Nat) (s2 : Nat → Nat) (lt : Int32) (fv : Value) (F : Nat → Int32) (Ib : mm_TI) (Pb : mm_TP), sl_ok L (n2, s2) ∧ DBc x (o k) n2 w tb (φ k) s2 lt I Ib P Pb ∧
      ((w = 7 ∧ tb = 0 ∧ fv = .null) ∨ (w ≤ 6 ∧ tb = 2 ∧ fv = .ref f ∧ mm_T B f = 104 ∧ f ≠ o k + 3)) ∧ (w = 0 → OPr B I P m R ρ f r nn F) ∧
      (∀ Z : mm_Z, Ev g mX1_decodeNext 54 [some (.ref (o k + 17)), some (.ref (o k + 2)), some fv, none, none] [] B Ib J Pb Z → Ct g mX1_decodeNext [.ref (o k + 17), .ref (o k + 2)] B (vz I x) J P Z) ∧
      ∀ (I1 : mm_TI) (J1 : mm_TJ) (P1 : mm_TP), lyM B P1 m → (∀ j, j < 64 → I1 (m + j) = I (m + j)) → ∃ (v : Int32) (Mb : mm_TI), DBm m k n2 w tb s2 lt I Mb ∧ (w = 0 → Mb m 78 = nI r ∧ Mb m 79 = F 2 ∧ Mb m 80 = F 5) ∧ (∀ q, q < m ∨ m + 64 ≤ q → Mb q = I1 q) ∧ ∀ Z : mm_Z, Ev g mX12_decode 176 [some (.ref m), some (.int (nI k)), some (.int (nI nx)), some (.int (nI w)), some (.int v), none, none, none] [] B Mb J1 P1 Z → Ct g mX12_decode [.ref m, .int (nI k)] B I1 J1 P1 Z := by
  obtain ⟨hV, hM, -⟩ := RG_ly h
  obtain ⟨h8, hx4, hm0⟩ := RG_n h
  obtain ⟨xm, mn⟩ := RC_xm h
  have hv := RC_v h hk
  have mo := hv.1.2.1
  have no := hv.1.2.2.1
  have hC := hv.1.1
  obtain ⟨L', c1, c2, c3, c4, c5⟩ := RC_l h hk
  obtain rfl : L = L' := (nI_eq (by omega) (by omega)).mp (l3.symm.trans c3)
  have ro := fun r hr => RC_row h (r := r) hr
  have tg : ∀ j, j < 33 → mm_T B (o k + j) ≠ 201 ∧ mm_T B (o k + j) ≠ 202 := fun j hj => by have := VC_tg hv hj; exact ⟨this.2.1, this.2.2.1⟩
  have z0 : ∀ q, q ≠ x → vz I x q = I q := fun q hq => va_up_n _ _ hq
  have hl : ∀ i, i < L → I (φ k i) 0 = I (m + 29) (250 * k + i) := fun i hi => (c4 i hi).2.2.2.2.1
  obtain ⟨F1, hF1, K0⟩ := lx_X1_h0 (g := g) (B := B) (I := vz I x) (J := J) (P := P) (x := x) (o := o k) (L := L) (nx := nx) (lt := I (o k + 17) 16) (φ := φ k) (lab := fun i => I (m + 29) (250 * k + i)) hV hC (by omega) l1 (by rw [z0 _ (by omega)]; exact l2) (fun i hi => (c4 i hi).1) (fun i hi => ⟨(c4 i hi).2.2.1, (c4 i hi).2.1⟩) (fun i hi => by rw [z0 _ (by have := (c4 i hi).2.1; omega)]; exact hl i hi) (by rw [z0 _ (by omega)]; exact nx2) (by rw [z0 _ (by omega)])
  obtain ⟨ok, -⟩ := sp_rl_ok (lab := fun i => I (m + 29) (250 * k + i)) (nx := nI nx) (L := L) L (L, fun k => k) (Nat.le_refl _) (sl_id L)
  have hm := fun (I1 : mm_TI) (J1 : mm_TJ) (P1 : mm_TP) (hM1 : lyM B P1 m) (e1 : ∀ j, j < 64 → I1 (m + j) = I (m + j)) => lx_X12_h0 (g := g) (B := B) (I := I1) (J := J1) (P := P1) (m := m) (n := n) (c := k) (L := L) (nx := nx) (nu := nu) (lt := I (o k + 17) 16) hM1 (by rw [show I1 m = I m from e1 0 (by omega)]; exact hm0) h8 hk l1 (by rw [e1 28 (by omega)]; exact l3) (by rw [e1 36 (by omega)]; exact nx3) nx1 (by rw [e1 10 (by omega)]; exact nu3) nu1 hgo (by rw [e1 39 (by omega)]; exact q16.symm)
  have hm' : ∀ (I1 : mm_TI) (J1 : mm_TJ) (P1 : mm_TP) (hM1 : lyM B P1 m) (e1 : ∀ j, j < 64 → I1 (m + j) = I (m + j)), _ := fun I1 J1 P1 hM1 e1 => by
    have t := hm I1 J1 P1 hM1 e1
    rw [e1 29 (by omega)] at t
    exact t
  clear hm
  generalize sp_rl (fun i => I (m + 29) (250 * k + i)) (nI nx) L (L, fun k => k) = q at *
  obtain ⟨n1, s⟩ := q
  simp only at hF1 K0 hm'
  obtain ⟨ok1, ok2, ok3⟩ := ok
  simp only at ok1 ok2 ok3
  generalize hlt : I (o k + 17) 16 + nI (L - n1) = lt at *
  generalize hIa : va_up (va_up (va_up (vz I x) (x + 1) (va_up (vz I x (x + 1)) 2 (nI 0))) (o k + 2) (va_up (vz I x (o k + 2)) 1 (nI n1))) (o k + 17) (va_up (vz I x (o k + 17)) 16 lt) = Ia at *
  have ia : ∀ q, q ≠ x → q ≠ x + 1 → q ≠ o k + 2 → q ≠ o k + 17 → Ia q = I q := fun q q1 q2 q3 q4 => by rw [← hIa, va_up_n _ _ q4, va_up_n _ _ q3, va_up_n _ _ q2, z0 q q1]
  have iax : Ia x = va_up (I x) 9 (nI 0) := by rw [← hIa, va_up_n _ _ (by omega), va_up_n _ _ (by omega), va_up_n _ _ (by omega)]; exact va_up_s _ _ _
  have ia1 : Ia (x + 1) = va_up (I (x + 1)) 2 (nI 0) := by rw [← hIa, va_up_n _ _ (by omega), va_up_n _ _ (by omega), va_up_s, z0 _ (by omega)]
  have ia2 : Ia (o k + 2) 1 = nI n1 := by rw [← hIa, va_up_n _ _ (by omega), va_up_s, va_up_s]
  have ia17 : Ia (o k + 17) = va_up (I (o k + 17)) 16 lt := by rw [← hIa, va_up_s, z0 _ (by omega)]
  have hV1 : lyV B (va_up P (o k + 3) F1) x := ⟨hV.1, hV.2.1, ly_P_up (W := 22) hV.2.2 (by decide) (by omega)⟩
  have hC1 : lyC B (va_up P (o k + 3) F1) x (o k) := lyC_P3 hC
  have fs : ∀ j, j < n1 → o k + 33 ≤ φ k (s j) ∧ φ k (s j) < mm_nx B ∧ mm_T B (φ k (s j)) = 104 := fun j hj => ⟨(c4 _ (ok2 j hj)).2.1, (c4 _ (ok2 j hj)).2.2.2.1, (c4 _ (ok2 j hj)).2.2.1⟩
  have hφ1 : ∀ j, j < n1 → va_up P (o k + 3) F1 (o k + 3) j = some (φ k (s j)) ∧ mm_T B (φ k (s j)) = 104 := fun j hj => ⟨by rw [va_up_s]; exact hF1 j hj, (fs j hj).2.2⟩
  have hl1 : ∀ j, j < n1 → Ia (φ k (s j)) 0 = I (m + 29) (250 * k + s j) := fun j hj => by
    have := (fs j hj).1
    rw [ia _ (by omega) (by omega) (by omega) (by omega)]; exact hl _ (ok2 j hj)
  have r9 : Ia (o k + 17) 9 = nI nx := by rw [ia17, va_up_n _ _ (by omega)]; exact nx2
  rcases fst_cases (fun j => I (m + 29) (250 * k + s j) = nI nx) n1 with hno | ⟨i, hi, i1, i2⟩
  · have K1 := fun (Z : mm_Z) => lx_X1_h1 (g := g) (B := B) (I := Ia) (J := J) (P := va_up P (o k + 3) F1) (x := x) (o := o k) (n := n1) (nx := nx) (φ := fun j => φ k (s j)) (lab := fun j => I (m + 29) (250 * k + s j)) (Z := Z) hV1 hC1 (by omega) (by omega) ia2 hφ1 hl1 hno r9
    refine ⟨n1, 7, 0, 0, 0, 0, s, lt, .null, fun _ => 0, _, va_up P (o k + 3) F1, ⟨ok1, ok2, ok3⟩, ⟨?_, ?_, ?_, ?_, ?_, ?_, ?_, ?_, ?_⟩, Or.inl ⟨rfl, rfl, rfl⟩, fun e => absurd e (by omega), fun Z e => K0 Z (K1 Z e), fun I1 J1 P1 hM1 e1 => ?_⟩
    · rw [va_up_n _ _ (by omega), va_up_n _ _ (by omega), iax]
    · rw [va_up_n _ _ (by omega), va_up_n _ _ (by omega), ia1]
    · rw [va_up_n _ _ (by omega), va_up_s, ia _ (by omega) (by omega) (by omega) (by omega)]; rfl
    · rw [va_up_n _ _ (by omega), va_up_n _ _ (by omega), ia _ (by omega) (by omega) (by omega) (by omega)]; rfl
    · rw [va_up_n _ _ (by omega), va_up_n _ _ (by omega), ia2]
    · rw [va_up_s, ia17]
    · intro j hj; rw [va_up_s]; exact hF1 j hj
    · exact fun q hq => va_up_n _ _ hq
    · intro q q1 q2 q3 q4 q5 q6
      rw [va_up_n _ _ q6, va_up_n _ _ q3, ia q q1 q2 q5 q6]
    · obtain ⟨I', ⟨d1, d2, d3, d4, d5, d6, d7⟩, KM⟩ := hm' I1 J1 P1 hM1 e1
      simp only [va_up_n I1 _ (show m + 29 ≠ m by omega), va_up_n I1 _ (show m + 30 ≠ m by omega), va_up_n I1 _ (show m + 28 ≠ m by omega), va_up_n I1 _ (show m + 39 ≠ m by omega), e1 29 (by omega), e1 30 (by omega), e1 28 (by omega), e1 39 (by omega)] at d1 d2 d3 d4 d5 d6
      have im : I' m = va_up (I m) 5 (nI 0) := by rw [d7 m (by omega) (by omega) (by omega) (by omega), va_up_s, show I1 m = I m from e1 0 (by omega)]
      have ij : ∀ j, 1 ≤ j → j < 64 → j ≠ 28 → j ≠ 29 → j ≠ 30 → j ≠ 39 → I' (m + j) = I (m + j) := fun j j0 j1 j2 j3 j4 j5 => by rw [d7 _ (by omega) (by omega) (by omega) (by omega), va_up_n _ _ (by omega), e1 j j1]
      have KB := fun (Z : mm_Z) => lx_X12_h1 (g := g) (B := B) (I := I') (J := J1) (P := P1) (m := m) (c := k) (n := n1) (nx := nx) (lab := fun j => I (m + 29) (250 * k + s j)) (Z := Z) hM1 (by omega) (by omega) (by rw [d5, va_up_s]) d1 hno
      refine ⟨-1, _, ⟨?_, ?_, ?_, ?_, ?_, ?_, ?_, ?_, ?_, ?_, ?_⟩, fun e => absurd e (by omega), ?_, fun Z e => KM Z (KB Z e)⟩
      · rw [va_up_n _ _ (by omega), im, va_up_s]
      · intro j j1 j2; rw [va_up_n _ _ (by omega), im, va_up_n _ _ j1]
      · rw [va_up_s, ij 1 (by omega) (by omega) (by omega) (by omega) (by omega) (by omega)]; rfl
      · rw [va_up_n _ _ (by omega), ij 2 (by omega) (by omega) (by omega) (by omega) (by omega) (by omega)]; rfl
      · rw [va_up_n _ _ (by omega), d5]
      · intro j hj; rw [va_up_n _ _ (by omega)]; exact d1 j hj
      · intro j hj; rw [va_up_n _ _ (by omega)]; exact d2 j hj
      · intro j hj; rw [va_up_n _ _ (by omega)]; exact d3 j hj
      · intro j hj; rw [va_up_n _ _ (by omega)]; exact d4 j hj
      · rw [va_up_n _ _ (by omega), d6]
      · intro j j0 j1 j2 j3 j4 j5; rw [va_up_n _ _ (by omega), ij j (by omega) j1 j2 j3 j4 j5]
      · intro q hq
        rw [va_up_n _ _ (by omega), d7 _ (by omega) (by omega) (by omega) (by omega), va_up_n _ _ (by omega)]
  · obtain ⟨f1, f2, f3⟩ := fs i hi
    obtain ⟨w, r, nn, F, w6, hop0, hopC, hopM⟩ := op_fr h hR (c4 (s i) (ok2 i hi)).2.2
    obtain ⟨F2, hF2, K1⟩ := lx_X1_h2 (g := g) (B := B) (I := Ia) (J := J) (P := va_up P (o k + 3) F1) (x := x) (o := o k) (n := n1) (nx := nx) (i := i) (w := w) (φ := fun j => φ k (s j)) (lab := fun j => I (m + 29) (250 * k + s j)) hV1 hC1 (by omega) (by omega) ia2 hφ1 hl1 hi i1 i2 r9 (by rw [ia1, va_up_s]) w6 (fun I0 G e => hopC I0 J _ (by rw [va_up_n _ _ (by omega), va_up_n _ _ (by omega)]) (fun r hr => by
      have t := ro r hr
      have t2 := tg 2 (by omega)
      have t17 := tg 17 (by omega)
      have n2 : ρ r ≠ o k + 2 := fun e => by rw [e] at t; omega
      have n17 : ρ r ≠ o k + 17 := fun e => by rw [e] at t; omega
      rw [e _ (by omega) (by omega) n2, ia _ (by omega) (by omega) n2 n17]))
    generalize hI2 : va_up Ia (o k + 2) (va_up (Ia (o k + 2)) 1 (nI (n1 - 1))) = I2 at K1
    have a2 : ∀ q, q ≠ o k + 2 → I2 q = Ia q := fun q hq => by rw [← hI2, va_up_n _ _ hq]
    have sok : sl_ok L (n1 - 1, fun j => s (sk i j)) := sl_sk (q := (n1, s)) ⟨ok1, ok2, ok3⟩ hi
    refine ⟨n1 - 1, w, 2, φ k (s i), r, nn, fun j => s (sk i j), lt, .ref (φ k (s i)), F, _, va_up (va_up P (o k + 3) F1) (o k + 3) F2, sok, ⟨?_, ?_, ?_, ?_, ?_, ?_, ?_, ?_, ?_⟩, Or.inr ⟨w6, rfl, rfl, f3, by omega⟩, hop0, fun Z e => K0 Z (K1 Z e), fun I1 J1 P1 hM1 e1 => ?_⟩
    · rw [va_up_n _ _ (by omega), OPc_o (by omega) (by omega) (by omega), a2 _ (by omega), iax]
    · rw [va_up_n _ _ (by omega), OPc_1, a2 _ (by omega), ia1, bx_uu]
    · rw [va_up_n _ _ (by omega)]
      unfold OPc
      rw [va_up_n _ _ (by omega), va_up_n _ _ (by omega), va_up_s, a2 _ (by omega), ia _ (by omega) (by omega) (by omega) (by omega)]; rfl
    · rw [va_up_n _ _ (by omega)]
      unfold OPc
      rw [va_up_n _ _ (by omega), va_up_s, a2 _ (by omega), ia _ (by omega) (by omega) (by omega) (by omega)]; rfl
    · rw [va_up_n _ _ (by omega), OPc_o (by omega) (by omega) (by omega), ← hI2, va_up_s, va_up_s]
    · rw [va_up_s, ia17]
    · intro j hj; rw [va_up_s]; exact hF2 j (by omega)
    · exact fun q hq => (va_up_n _ _ hq).trans (va_up_n _ _ hq)
    · intro q q1 q2 q3 q4 q5 q6
      rw [va_up_n _ _ q6, OPc_o q2 q3 q4, a2 q q5, ia q q1 q2 q5 q6]
    · obtain ⟨I', ⟨d1, d2, d3, d4, d5, d6, d7⟩, KM⟩ := hm' I1 J1 P1 hM1 e1
      simp only [va_up_n I1 _ (show m + 29 ≠ m by omega), va_up_n I1 _ (show m + 30 ≠ m by omega), va_up_n I1 _ (show m + 28 ≠ m by omega), va_up_n I1 _ (show m + 39 ≠ m by omega), e1 29 (by omega), e1 30 (by omega), e1 28 (by omega), e1 39 (by omega)] at d1 d2 d3 d4 d5 d6
      have im : I' m = va_up (I m) 5 (nI 0) := by rw [d7 m (by omega) (by omega) (by omega) (by omega), va_up_s, show I1 m = I m from e1 0 (by omega)]
      have ij : ∀ j, 1 ≤ j → j < 64 → j ≠ 28 → j ≠ 29 → j ≠ 30 → j ≠ 39 → I' (m + j) = I (m + j) := fun j j0 j1 j2 j3 j4 j5 => by rw [d7 _ (by omega) (by omega) (by omega) (by omega), va_up_n _ _ (by omega), e1 j j1]
      obtain ⟨F', G', ⟨b1, b2⟩, ⟨b3, b4⟩, KB⟩ := lx_X12_h2 (g := g) (B := B) (I := I') (J := J1) (P := P1) (m := m) (c := k) (n := n1) (nx := nx) (i := i) (w := w) (lab := fun j => I (m + 29) (250 * k + s j)) hM1 (by omega) (by omega) (by rw [d5, va_up_s]) d1 hi i1 i2
      rw [d3 i hi] at KB
      generalize hM2 : va_up (va_up (va_up I' (m + 29) F') (m + 30) G') (m + 28) (va_up (I' (m + 28)) k (nI (n1 - 1))) = M2 at KB
      have am : ∀ q, q ≠ m + 28 → q ≠ m + 29 → q ≠ m + 30 → M2 q = I' q := fun q q1 q2 q3 => by rw [← hM2, va_up_n _ _ q1, va_up_n _ _ q3, va_up_n _ _ q2]
      obtain ⟨M', o1, o2, o3⟩ := hopM M2 J1 P1 0 hM1 (fun j hj => by rw [am _ (by omega) (by omega) (by omega), ij j (by omega) (by omega) (by omega) (by omega) (by omega) (by omega)]) (by rw [am _ (by omega) (by omega) (by omega), im, va_up_s]) (by omega)
      have oq : ∀ q, q ≠ m → q ≠ m + 1 → q ≠ m + 2 → OPm m 0 w M' M2 q = M2 q := fun q q1 q2 q3 => by unfold OPm; rw [va_up_n _ _ q2, va_up_n _ _ q1, va_up_n _ _ q3]
      have om0 : OPm m 0 w M' M2 m = va_up M' 5 (nI (0 + 2)) := by unfold OPm; rw [va_up_n _ _ (by omega), va_up_s]
      refine ⟨nI i, _, ⟨?_, ?_, ?_, ?_, ?_, ?_, ?_, ?_, ?_, ?_, ?_⟩, ?_, ?_, fun Z e => KM Z (KB Z _ o3 e)⟩
      · rw [om0, va_up_s]
      · intro j j1 j2; rw [om0, va_up_n _ _ j1, o1 j j1 (by omega), am _ (by omega) (by omega) (by omega), im, va_up_n _ _ j1]
      · unfold OPm; rw [va_up_s, am _ (by omega) (by omega) (by omega), ij 1 (by omega) (by omega) (by omega) (by omega) (by omega) (by omega)]
      · unfold OPm; rw [va_up_n _ _ (by omega), va_up_n _ _ (by omega), va_up_s, am _ (by omega) (by omega) (by omega), ij 2 (by omega) (by omega) (by omega) (by omega) (by omega) (by omega)]; rfl
      · rw [oq _ (by omega) (by omega) (by omega), ← hM2, va_up_s, d5, bx_uu]
      · intro j hj; rw [oq _ (by omega) (by omega) (by omega), ← hM2, va_up_n _ _ (by omega), va_up_n _ _ (by omega), va_up_s, b1 j (by omega), d1 _ (by unfold sk; split <;> omega)]
      · intro j hj; rw [oq _ (by omega) (by omega) (by omega), ← hM2, va_up_n _ _ (by omega), va_up_n _ _ (by omega), va_up_s, b2 j hj, d2 j hj]
      · intro j hj; rw [oq _ (by omega) (by omega) (by omega), ← hM2, va_up_n _ _ (by omega), va_up_s, b3 j (by omega), d3 _ (by unfold sk; split <;> omega)]
      · intro j hj; rw [oq _ (by omega) (by omega) (by omega), ← hM2, va_up_n _ _ (by omega), va_up_s, b4 j hj, d4 j hj]
      · rw [oq _ (by omega) (by omega) (by omega), am _ (by omega) (by omega) (by omega), d6]
      · intro j j0 j1 j2 j3 j4 j5; rw [oq _ (by omega) (by omega) (by omega), am _ (by omega) (by omega) (by omega), ij j (by omega) j1 j2 j3 j4 j5]
      · intro e
        obtain ⟨u1, u2, u3⟩ := o2 e
        rw [om0, va_up_n _ _ (by omega), va_up_n _ _ (by omega), va_up_n _ _ (by omega)]; exact ⟨u1, u2, u3⟩
      · intro q hq
        rw [oq _ (by omega) (by omega) (by omega), am _ (by omega) (by omega) (by omega), d7 _ (by omega) (by omega) (by omega) (by omega), va_up_n _ _ (by omega)]
end DA0
