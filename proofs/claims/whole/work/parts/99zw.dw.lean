/-! DECODE: a repair, from its sound on -/
theorem sp_syn_r0 {ix : Nat → Int32} : ∀ (k : Nat) (f : Int32) (V : Nat → Int32) (t : Int64), r16 f → r16 (sp_syn ix k f V t).1 := by
  intro k
  induction k with
  | zero => intro f V t h; exact h
  | succ k ih => intro f V t _; exact ih _ _ _ (sp_S_r _)
theorem sp_syn_r {ix V : Nat → Int32} {f : Int32} {t : Int64} : r16 (sp_syn ix 8 f V t).1 := sp_syn_r0 7 _ _ _ (sp_S_r _)
theorem sp_sq_r {ix E : Nat → Int32} {fr : Nat} {s : (Nat → Int32) × (Nat → Int32) × Int64} : ∀ n k, k < fr + n → (k < fr → r16 (s.2.1 k)) → r16 ((sp_sq ix E fr s n).2.1 k) := by
  intro n
  induction n with
  | zero => intro k hk h; exact h (by omega)
  | succ n ih =>
    intro k hk h
    show r16 (va_up (sp_sq ix E fr s n).2.1 (fr + n) (sp_syn ix 8 (E n) (sp_sq ix E fr s n).1 0).1 k)
    by_cases c : k = fr + n
    · rw [c, va_up_s]; exact sp_syn_r
    · rw [va_up_n _ _ c]; exact ih k (by omega) h
theorem gV_r {ix : Nat → Int32} {Es : Nat → (Nat → Int32) → Nat → Int32} {Ts : Nat → (Nat → Int32) → Int64} {sb : Nat} {H0 : Nat → Int32} {s : (Nat → Int32) × (Nat → Int32) × Int64} : ∀ n k, k < sb * n → r16 ((gV ix Es Ts sb H0 s n).2.1 k) := by
  intro n
  induction n with
  | zero => intro k hk; omega
  | succ n ih =>
    intro k hk
    rw [Nat.mul_succ] at hk
    exact sp_sq_r sb k hk (fun c => ih k c)
theorem sp_hu_yr {ix : Nat → Int32} {pk : Int32} {z sb : Nat} {s : (Nat → Int32) × (Nat → Int32) × (Nat → Int32) × Int64} : ∀ n k, k < sb * n → r16 ((sp_hu ix pk z sb s n).2.2.1 k) := by
  intro n
  induction n with
  | zero => intro k hk; omega
  | succ n ih =>
    intro k hk
    rw [Nat.mul_succ] at hk
    exact sp_sq_r sb k hk (fun c => ih k c)
theorem ub_nI {a : Nat} (h : a < 256) : ub (nI a) = a := by
  unfold ub
  have e : (nI a).toBitVec.toNat = a := by
    show (BitVec.ofInt 32 (a : Int)).toNat = a
    rw [BitVec.toNat_ofInt]; omega
  rw [e]; omega
/-- the class's memory before a repair sounds -/
def RBc (x o n2 w t LL : Nat) (φ s2 : Nat → Nat) (wy lt q18 : Int32) (I Iq : mm_TI) (P Pb : mm_TP) : Prop :=
  Iq x = va_up (I x) 9 (nI 0) ∧ Iq (x + 1) = va_up (I (x + 1)) 2 (nI t) ∧ Iq (o + 2) 1 = nI n2 ∧ Iq (o + 29) 3 = nI LL ∧ (∀ k, k < n2 → Pb (o + 3) k = some (φ (s2 k))) ∧ (∀ q, q ≠ o + 3 → Pb q = P q) ∧ (Iq (o + 17) 12 = nI w ∧ Iq (o + 17) 13 = wy ∧ Iq (o + 17) 16 = lt ∧ Iq (o + 17) 18 = q18 ∧ ∀ j, j = 6 ∨ j = 7 ∨ j = 8 ∨ j = 9 ∨ j = 10 ∨ j = 11 ∨ j = 14 ∨ j = 15 ∨ j = 17 → Iq (o + 17) j = I (o + 17) j) ∧ ∀ q, q < x ∨ x + 4 ≤ q → q ≠ o + 2 → q ≠ o + 17 → q ≠ o + 29 → Iq q = I q
def RBm (m c n2 w t LL : Nat) (s2 : Nat → Nat) (lt q18 : Int32) (I I1 Mq : mm_TI) : Prop :=
  Mq m 5 = nI t ∧ (∀ i, i ≠ 5 → i < 71 → Mq m i = I m i) ∧ (Mq (m + 28) = va_up (I (m + 28)) c (nI n2) ∧ (∀ k, k < n2 → Mq (m + 29) (250 * c + k) = I (m + 29) (250 * c + s2 k)) ∧ (∀ j, j < 250 * c ∨ 250 * c + 250 ≤ j → Mq (m + 29) j = I (m + 29) j) ∧ (∀ k, k < n2 → Mq (m + 30) (250 * c + k) = I (m + 30) (250 * c + s2 k)) ∧ (∀ j, j < 250 * c ∨ 250 * c + 250 ≤ j → Mq (m + 30) j = I (m + 30) j)) ∧
  (Mq (m + 18) (2 * c + 1) = nI LL ∧ ∀ j, j ≠ 2 * c + 1 → Mq (m + 18) j = I (m + 18) j) ∧ Mq (m + 42) = va_up (I (m + 42)) c (nI w) ∧ Mq (m + 39) = va_up (I (m + 39)) c lt ∧ (Mq (m + 41) c = q18 ∧ ∀ j, j ≠ c → Mq (m + 41) j = I (m + 41) j) ∧ (∀ j, 3 ≤ j → j < 64 → j ≠ 18 → j ≠ 28 → j ≠ 29 → j ≠ 30 → j ≠ 39 → j ≠ 41 → j ≠ 42 → Mq (m + j) = I (m + j)) ∧ ∀ q, q < m ∨ m + 64 ≤ q → Mq q = I1 q
section DW0
variable {g : mm_G} {B : mm_B} {I Iq I' : mm_TI} {J J' : mm_TJ} {P Pb : mm_TP} {x m n R K k L nx nu n2 w t rt LL rn r0 wy : Nat} {o : Nat → Nat} {fl φ : Nat → Nat → Nat} {ρ s2 : Nat → Nat} {lt q18 st : Int32}
theorem rep_fin (h : RC g B I J P x m n R K o fl φ ρ) (hk : k < n) (hK : K < 600) (hR : R ≤ K) (l1 : L ≤ 250) (l2 : I (o k + 2) 1 = nI L) (l3 : I (m + 28) k = nI L) (nx1 : nx < 65536) (nx2 : I (o k + 17) 9 = nI nx) (nx3 : I (m + 36) k = nI nx) (nu1 : nu < 65536) (nu2 : I (o k + 4) 16 = nI nu) (hgo : ¬ (L = 0 ∧ nx = nu)) (sok : sl_ok L (n2, s2))
    (rt1 : rt ≤ 1) (rt2 : I (o k + 17) 7 = nI rt) (rt3 : I (m + 34) k = nI rt) (t5 : t ≤ 5) (LL1 : 20 ≤ LL) (LL2 : LL ≤ 147) (hwy : wy ≤ 3) (hr0 : r0 ≤ K) (r0c : I (o k + 17) 14 = nI r0) (r0m : I (m + 37) k = nI r0) (w1 : 1 ≤ w) (w7 : w ≤ 7) (rn1 : rn ≤ 1) (q8 : I (o k + 17) 8 = I (m + 35) k) (q17 : I (o k + 17) 17 = I (m + 40) k)
    (hc : RBc x (o k) n2 w t LL (φ k) s2 (nI wy) lt q18 I Iq P Pb) (rp : RPc x (o k) (40 * (rt + 1)) LL t wy st Iq J I' J')
    (Kc : ∀ Z : mm_Z, Ev g mX1_decodeNext 139 [some (.ref (o k + 17)), none, none, some (.int (nI 1)), none] [] B (va_up I' (o k + 17) (va_up (I' (o k + 17)) 14 (nI r0 + nI 1))) J' Pb Z → Ct g mX1_decodeNext [.ref (o k + 17), .ref (o k + 2)] B (vz I x) J P Z)
    (Km : ∀ (I1 : mm_TI) (J1 : mm_TJ) (P1 : mm_TP), lyM B P1 m → (∀ j, j < 64 → I1 (m + j) = I (m + j)) → ∃ (v : Int32) (Mq M' : mm_TI) (Jm : mm_TJ), RBm m k n2 w t LL s2 lt q18 I I1 Mq ∧ (∀ i, i < 8 → Iq (x + 2) i = Mq (m + 1) i) ∧ (∀ i, i < t → Iq (x + 3) i = Mq (m + 2) i) ∧ RPm m k (40 * (rt + 1)) LL t wy st Mq J1 M' Jm ∧
      ∀ Z : mm_Z, Ev g mX12_decode 253 [some (.ref m), some (.int (nI k)), some (.int (nI nx)), some (.int (nI w)), some (.int v), some (.int (nI rn)), none, none] [] B (va_up (va_up M' (m + 37) (va_up (M' (m + 37)) k (nI r0 + nI 1))) (m + 40) (va_up (M' (m + 40)) k (I (m + 40) k + nI 1))) Jm P1 Z → Ct g mX12_decode [.ref m, .int (nI k)] B I1 J1 P1 Z) : JR g mX11_decode mX12_decode [.int (nI k)] K x m B I J P := by
  obtain ⟨xm, mn⟩ := RC_xm h
  have hv := RC_v h hk
  have mo := hv.1.2.1
  have no := hv.1.2.2.1
  have n8 := (RG_n h).1
  obtain ⟨vm1, vm2, vm3, vm4, -⟩ := hv.2.2.2.2.2.2.1
  have v30 : I (o k + 30) = sg (I (m + 15)) (160 * (2 * k + 1)) 160 := vm1
  have v31 : I (o k + 31) = sg (I (m + 16)) (8 * (2 * k + 1)) 8 := vm3
  have v32 : I (o k + 32) = sg (I (m + 17)) (8 * (2 * k + 1)) 8 := vm4
  obtain ⟨cx, cx1, c2, c29, cp, cpq, ⟨c12, c13, c16, c18, cj⟩, cq⟩ := hc
  have q30 : Iq (o k + 30) = I (o k + 30) := cq _ (by omega) (by omega) (by omega) (by omega)
  have q31 : Iq (o k + 31) = I (o k + 31) := cq _ (by omega) (by omega) (by omega) (by omega)
  have q32 : Iq (o k + 32) = I (o k + 32) := cq _ (by omega) (by omega) (by omega) (by omega)
  have q6 : Iq (x + 6) = I (x + 6) := cq _ (by omega) (by omega) (by omega) (by omega)
  obtain ⟨p30, p31, p6, pJ, p17, p3, p1, pq⟩ := rp
  rw [q30] at p30
  rw [q30, q31, q32, q6] at p31 p6 pJ
  generalize hgH : gH (ecEs st LL) (40 * (rt + 1)) (I (o k + 30)) 4 = H at *
  generalize hgV : gV (I (o k + 32)) (ecEs st LL) (ecTs st LL (40 * (rt + 1))) (40 * (rt + 1)) (I (o k + 30)) (I (o k + 31), I (x + 6), 0) 4 = gv at *
  have hYr : ∀ j, j < 160 * (rt + 1) → r16 (gv.2.1 j) := fun j hj => by rw [← hgV]; exact gV_r 4 j (by omega)
  have nr : nI r0 + nI 1 = nI (r0 + 1) := nI_add r0 1
  have i17 : ∀ j, j ≠ 14 → j ≠ 17 → va_up I' (o k + 17) (va_up (I' (o k + 17)) 14 (nI r0 + nI 1)) (o k + 17) j = Iq (o k + 17) j := fun j j1 j2 => by rw [va_up_s, va_up_n _ _ j1, p17, va_up_n _ _ j2]
  refine dec_D (n2 := n2) (w := w) (t := t + 1) (rt := rt) (LL := LL) (jo := 1) (rn := rn) (r1 := r0 + 1) (s2 := s2) (H := H) (V := gv.1) (X := I (o k + 32)) (Y := gv.2.1) (ga := I (o k + 17) 8) (wy := nI wy) (lt := lt) (q17 := I (o k + 17) 17 + nI 1) (q18 := q18) (T := gv.2.2) (Pc := Pb) h hk hK hR l1 l2 l3 nx1 nx2 nx3 nu1 nu2 hgo sok rt1 (by omega) LL1 LL2 (by rw [← hgH]; exact gH_r (by omega) (fun _ _ _ => sp_S_r _) (fun j hj => vm2 j hj) 4) hYr ?_ (by omega) w7 rn1 (by rw [if_pos (by omega)]) ⟨?_, ?_, ?_, cp, cpq, ⟨?_, ?_, ?_, ?_⟩, ?_, pJ, ⟨?_, ?_, ?_, ?_, ?_, ?_, ?_, ?_, ?_⟩, ?_⟩ Kc (fun I1 J1 P1 hM1 e1 => ?_)
  · rcases (show wy = 0 ∨ wy = 1 ∨ wy = 2 ∨ wy = 3 by omega) with rfl | rfl | rfl | rfl <;> decide
  · rw [va_up_n _ _ (by omega), pq _ (by omega) (by omega) (by omega) (by omega) (by omega) (by omega) (by omega) (by omega), cx]
  · rw [va_up_n _ _ (by omega), p1, cx1, bx_uu]
  · rw [va_up_n _ _ (by omega), pq _ (by omega) (by omega) (by omega) (by omega) (by omega) (by omega) (by omega) (by omega)]; exact c2
  · rw [va_up_n _ _ (by omega)]; exact p30
  · rw [va_up_n _ _ (by omega)]; exact p31
  · rw [va_up_n _ _ (by omega), pq _ (by omega) (by omega) (by omega) (by omega) (by omega) (by omega) (by omega) (by omega), q32]
  · rw [va_up_n _ _ (by omega), pq _ (by omega) (by omega) (by omega) (by omega) (by omega) (by omega) (by omega) (by omega)]; exact c29
  · intro j hj
    rw [va_up_n _ _ (by omega), p6]
  · rw [i17 7 (by omega) (by omega), cj 7 (by omega)]; exact rt2
  · rw [i17 8 (by omega) (by omega), cj 8 (by omega)]
  · rw [i17 12 (by omega) (by omega)]; exact c12
  · rw [i17 13 (by omega) (by omega)]; exact c13
  · rw [va_up_s, va_up_s]; exact nr
  · rw [i17 16 (by omega) (by omega)]; exact c16
  · rw [va_up_s, va_up_n _ _ (by omega), p17, va_up_s, cj 17 (by omega)]
  · rw [i17 18 (by omega) (by omega)]; exact c18
  · intro j hj
    rw [i17 j (by omega) (by omega), cj j (by omega)]
  · intro q q1 q2 q3 q4 q5
    rw [va_up_n _ _ q3, pq q (by omega) (by omega) (by omega) (by omega) (by omega) (by omega) (by omega) (by omega), cq q (by omega) (by omega) (by omega) (by omega)]
  · obtain ⟨v, Mq, M', Jm, ⟨m5, mi, ⟨m28, m29, m29', m30, m30'⟩, ⟨m18, m18'⟩, m42, m39, ⟨m41, m41'⟩, mu, mq⟩, jf, jt, ⟨⟨r15, r15'⟩, ⟨r16', r16''⟩, r54, rJ, r43, r2, rm, rq⟩, KM⟩ := Km I1 J1 P1 hM1 e1
    have u15 := mu 15 (by omega) (by omega) (by omega) (by omega) (by omega) (by omega) (by omega) (by omega) (by omega)
    have u16 := mu 16 (by omega) (by omega) (by omega) (by omega) (by omega) (by omega) (by omega) (by omega) (by omega)
    have u17 := mu 17 (by omega) (by omega) (by omega) (by omega) (by omega) (by omega) (by omega) (by omega) (by omega)
    have u54 := mu 54 (by omega) (by omega) (by omega) (by omega) (by omega) (by omega) (by omega) (by omega) (by omega)
    rw [u15, ← v30, hgH] at r15
    rw [u15] at r15'
    rw [u15, u16, u17, u54, ← v30, ← v31, ← v32] at r16' r54 rJ
    rw [u16] at r16''
    obtain ⟨y1, y2, y3⟩ := gV_Y (ix := I (o k + 32)) (Es := ecEs st LL) (Ts := ecTs st LL (40 * (rt + 1))) (sb := 40 * (rt + 1)) (H0 := I (o k + 30)) (V := I (o k + 31)) (Y := I (x + 6)) (Y' := I (m + 54)) (t := 0) 4
    rw [hgV] at y1 y2 y3
    have a1 : ∀ q, q ≠ m + 37 → q ≠ m + 40 → va_up (va_up M' (m + 37) (va_up (M' (m + 37)) k (nI r0 + nI 1))) (m + 40) (va_up (M' (m + 40)) k (I (m + 40) k + nI 1)) q = M' q := fun q q1 q2 => by rw [va_up_n _ _ q2, va_up_n _ _ q1]
    have R : ∀ j, 3 ≤ j → j < 54 → j ≠ 15 → j ≠ 16 → j ≠ 43 → M' (m + j) = Mq (m + j) := fun j j0 j1 j2 j3 j4 => rq _ (by omega) (by omega) (by omega) (by omega) (by omega) (by omega)
    have R37 : M' (m + 37) = I (m + 37) := by rw [R 37 (by omega) (by omega) (by omega) (by omega) (by omega), mu 37 (by omega) (by omega) (by omega) (by omega) (by omega) (by omega) (by omega) (by omega) (by omega)]
    have R40 : M' (m + 40) = I (m + 40) := by rw [R 40 (by omega) (by omega) (by omega) (by omega) (by omega), mu 40 (by omega) (by omega) (by omega) (by omega) (by omega) (by omega) (by omega) (by omega) (by omega)]
    refine ⟨v, _, Jm, ⟨?_, ?_, ⟨?_, ?_, ?_, ?_, ?_⟩, ⟨⟨?_, ?_⟩, ⟨?_, ?_⟩, ⟨?_, ?_⟩, ⟨?_, ?_⟩⟩, ?_, ?_, ⟨?_, ?_, ?_, ?_, ?_, ?_, ?_, ?_⟩, ?_, ?_, ?_⟩, ?_, ?_, KM⟩
    · rw [a1 _ (by omega) (by omega), rm, va_up_s]
    · intro i i1 i2
      rw [a1 _ (by omega) (by omega), rm, va_up_n _ _ i1, mi i i1 i2]
    · rw [a1 _ (by omega) (by omega), R 28 (by omega) (by omega) (by omega) (by omega) (by omega), m28]
    · intro i hi; rw [a1 _ (by omega) (by omega), R 29 (by omega) (by omega) (by omega) (by omega) (by omega)]; exact m29 i hi
    · intro i hi; rw [a1 _ (by omega) (by omega), R 29 (by omega) (by omega) (by omega) (by omega) (by omega)]; exact m29' i hi
    · intro i hi; rw [a1 _ (by omega) (by omega), R 30 (by omega) (by omega) (by omega) (by omega) (by omega)]; exact m30 i hi
    · intro i hi; rw [a1 _ (by omega) (by omega), R 30 (by omega) (by omega) (by omega) (by omega) (by omega)]; exact m30' i hi
    · rw [a1 _ (by omega) (by omega)]; exact r15
    · intro j hj; rw [a1 _ (by omega) (by omega)]; exact r15' j hj
    · rw [a1 _ (by omega) (by omega), r16']; exact y1.symm
    · intro j hj; rw [a1 _ (by omega) (by omega)]; exact r16'' j hj
    · rw [a1 _ (by omega) (by omega), R 17 (by omega) (by omega) (by omega) (by omega) (by omega), u17]; exact v32.symm
    · intro j hj; rw [a1 _ (by omega) (by omega), R 17 (by omega) (by omega) (by omega) (by omega) (by omega), u17]
    · rw [a1 _ (by omega) (by omega), R 18 (by omega) (by omega) (by omega) (by omega) (by omega)]; exact m18
    · intro j hj; rw [a1 _ (by omega) (by omega), R 18 (by omega) (by omega) (by omega) (by omega) (by omega)]; exact m18' j hj
    · intro j hj
      rw [a1 _ (by omega) (by omega), r54]; exact (y3 j (by omega)).symm
    · rw [rJ, y2]
    · rw [a1 _ (by omega) (by omega), R 34 (by omega) (by omega) (by omega) (by omega) (by omega), mu 34 (by omega) (by omega) (by omega) (by omega) (by omega) (by omega) (by omega) (by omega) (by omega)]; exact rt3
    · rw [a1 _ (by omega) (by omega), R 35 (by omega) (by omega) (by omega) (by omega) (by omega), mu 35 (by omega) (by omega) (by omega) (by omega) (by omega) (by omega) (by omega) (by omega) (by omega)]; exact q8.symm
    · rw [a1 _ (by omega) (by omega), R 42 (by omega) (by omega) (by omega) (by omega) (by omega), m42, va_up_s]
    · rw [a1 _ (by omega) (by omega), r43, va_up_s]
    · rw [va_up_n _ _ (by omega), va_up_s, va_up_s]; exact nr
    · rw [a1 _ (by omega) (by omega), R 39 (by omega) (by omega) (by omega) (by omega) (by omega), m39, va_up_s]
    · rw [va_up_s, va_up_s, q17]
    · rw [a1 _ (by omega) (by omega), R 41 (by omega) (by omega) (by omega) (by omega) (by omega)]; exact m41
    · intro r j hr hj
      rcases (show r = 34 ∨ r = 35 ∨ r = 37 ∨ r = 39 ∨ r = 40 ∨ r = 41 ∨ r = 42 ∨ r = 43 by omega) with rfl | rfl | rfl | rfl | rfl | rfl | rfl | rfl
      · rw [a1 _ (by omega) (by omega), R 34 (by omega) (by omega) (by omega) (by omega) (by omega), mu 34 (by omega) (by omega) (by omega) (by omega) (by omega) (by omega) (by omega) (by omega) (by omega)]
      · rw [a1 _ (by omega) (by omega), R 35 (by omega) (by omega) (by omega) (by omega) (by omega), mu 35 (by omega) (by omega) (by omega) (by omega) (by omega) (by omega) (by omega) (by omega) (by omega)]
      · rw [va_up_n _ _ (by omega), va_up_s, va_up_n _ _ hj, R37]
      · rw [a1 _ (by omega) (by omega), R 39 (by omega) (by omega) (by omega) (by omega) (by omega), m39, va_up_n _ _ hj]
      · rw [va_up_s, va_up_n _ _ hj, R40]
      · rw [a1 _ (by omega) (by omega), R 41 (by omega) (by omega) (by omega) (by omega) (by omega), m41' j hj]
      · rw [a1 _ (by omega) (by omega), R 42 (by omega) (by omega) (by omega) (by omega) (by omega), m42, va_up_n _ _ hj]
      · rw [a1 _ (by omega) (by omega), r43, va_up_n _ _ hj, mu 43 (by omega) (by omega) (by omega) (by omega) (by omega) (by omega) (by omega) (by omega) (by omega)]
    · intro j hj
      rw [a1 _ (by omega) (by omega), R j (by omega) (by omega) (by omega) (by omega) (by omega), mu j (by omega) (by omega) (by omega) (by omega) (by omega) (by omega) (by omega) (by omega) (by omega)]
    · intro q hq
      rw [a1 _ (by omega) (by omega), rq q (by omega) (by omega) (by omega) (by omega) (by omega) (by omega), mq q hq]
    · intro i hi
      rw [va_up_n _ _ (by omega), pq _ (by omega) (by omega) (by omega) (by omega) (by omega) (by omega) (by omega) (by omega), a1 _ (by omega) (by omega), rq _ (by omega) (by omega) (by omega) (by omega) (by omega) (by omega)]; exact jf i hi
    · intro i hi
      rw [va_up_n _ _ (by omega), p3, a1 _ (by omega) (by omega), r2]
      by_cases c : i = t
      · rw [c, va_up_s, va_up_s]
      · rw [va_up_n _ _ c, va_up_n _ _ c]; exact jt i (by omega)
end DW0
