/-! SETTERS -/
section ST0
variable {g : mm_G} {B : mm_B} {I I' : mm_TI} {J J' : mm_TJ} {P : mm_TP} {x m n R K : Nat} {o : Nat → Nat} {fl φ : Nat → Nat → Nat} {ρ : Nat → Nat} {k oc c : Nat}
theorem VCw_cg (h : VCw I m oc c) (h1 : I' oc 1 = I oc 1) (h2 : I' (oc + 1) = I (oc + 1)) (h3 : I' (m + 11) = I (m + 11)) (h4 : I' (m + 12) = I (m + 12)) : VCw I' m oc c := by
  unfold VCw; rw [h1, h2, h3, h4]; exact h
theorem VCe_cg (h : VCe I m oc c) (h1 : I' (oc + 4) = I (oc + 4)) (h2 : I' (oc + 5) = I (oc + 5)) (h3 : ∀ r, (5 ≤ r ∧ r ≤ 10) ∨ r = 13 ∨ r = 14 ∨ r = 19 → I' (m + r) = I (m + r)) : VCe I' m oc c := by
  unfold VCe; rw [h1, h2, h3 5 (by omega), h3 6 (by omega), h3 7 (by omega), h3 8 (by omega), h3 9 (by omega), h3 10 (by omega), h3 13 (by omega), h3 14 (by omega), h3 19 (by omega)]; exact h
theorem VCs_cg (h : VCs I J m oc c) (h1 : I' (oc + 4) 8 = I (oc + 4) 8) (h9 : I' (oc + 4) 9 = I (oc + 4) 9) (h2 : ∀ j, (7 ≤ j ∧ j ≤ 12) ∨ j = 16 → I' (oc + j) = I (oc + j)) (h3 : ∀ r, 20 ≤ r → r ≤ 27 → I' (m + r) = I (m + r)) (hj : ∀ j, 7 ≤ j → j ≤ 10 → J' (oc + j) = J (oc + j)) (hj2 : J' (m + 23) = J (m + 23)) (hj3 : J' (m + 24) = J (m + 24)) : VCs I' J' m oc c := by
  obtain ⟨so, p1, p2, p3, p4⟩ := h
  refine ⟨so, p1, by rw [h3 20 (by omega) (by omega)]; exact p2, by rw [h9]; exact p3, fun e => ?_⟩
  obtain ⟨sr, r1, r2, r3, r4, r5, r6, r7, r8, r9⟩ := p4 e
  refine ⟨sr, r1, by rw [h1]; exact r2, by rw [h3 25 (by omega) (by omega)]; exact r3, fun i q hi hq => ?_, fun i hi => ?_, fun i hi => ?_, fun j hj => ?_, fun q hq => ?_, fun i q hi hq => ?_⟩
  · rw [show oc + 7 + i = oc + (7 + i) by omega, h2 (7 + i) (by omega), h3 22 (by omega) (by omega), show oc + (7 + i) = oc + 7 + i by omega]; exact r4 i q hi hq
  · rw [show oc + 7 + i = oc + (7 + i) by omega, hj (7 + i) (by omega) (by omega), hj2, hj3, show oc + (7 + i) = oc + 7 + i by omega]; exact r5 i hi
  · rw [h3 22 (by omega) (by omega)]; exact r6 i hi
  · rw [h2 16 (by omega), h3 21 (by omega) (by omega)]; exact r7 j hj
  · rw [h2 11 (by omega), h3 26 (by omega) (by omega)]; exact r8 q hq
  · rw [h2 12 (by omega), h3 27 (by omega) (by omega)]; exact r9 i q hi hq
theorem VCd_cg (h : VCd I m oc K c) (h1 : I' (oc + 17) = I (oc + 17)) (h2 : I' (oc + 28) = I (oc + 28)) (h3 : ∀ r, 34 ≤ r → r ≤ 47 → I' (m + r) = I (m + r)) : VCd I' m oc K c := by
  unfold VCd; rw [h1, h2, h3 34 (by omega) (by omega), h3 35 (by omega) (by omega), h3 36 (by omega) (by omega), h3 37 (by omega) (by omega), h3 38 (by omega) (by omega), h3 39 (by omega) (by omega), h3 40 (by omega) (by omega), h3 41 (by omega) (by omega), h3 42 (by omega) (by omega), h3 43 (by omega) (by omega), h3 44 (by omega) (by omega), h3 45 (by omega) (by omega), h3 46 (by omega) (by omega), h3 47 (by omega) (by omega)]; exact h
theorem VCm_cw {b s : Nat} (h : VCm I m b s) (h1 : ∀ j, j ≤ 3 → I' (b + j) = I (b + j)) (h2 : ∀ r, 15 ≤ r → r ≤ 18 → I' (m + r) = I (m + r)) : VCm I' m b s := by
  unfold VCm; rw [h1 1 (by omega), h1 2 (by omega), h1 3 (by omega), show I' b = I b from h1 0 (by omega), h2 15 (by omega) (by omega), h2 16 (by omega) (by omega), h2 17 (by omega) (by omega), h2 18 (by omega) (by omega)]; exact h
theorem fl_own (h : RC g B I J P x m n R K o fl φ ρ) (hk : k < n) {i : Nat} (hi : i < 4) : (m + 64 ≤ fl k i ∧ (fl k i + 1 < o k ∨ o k + 33 ≤ fl k i)) ∨ fl k i = o k + 20 + 2 * i := by
  obtain ⟨a, b⟩ := h.2.2.1.2.1 k i hk hi
  rcases b k hk with b | b | ⟨-, b⟩
  · exact Or.inl ⟨a, Or.inl b⟩
  · exact Or.inl ⟨a, Or.inr b⟩
  · exact Or.inr b
/-- coder k alone was touched, and neither its line nor its path -/
theorem RC_set (h : RC g B I J P x m n R K o fl φ ρ) (hk : k < n) (hz : I' x 9 = I' m 1) (hx : ∀ j, j = 4 ∨ j = 6 ∨ j = 8 → I' x j = I x j) (hm : ∀ j, j = 0 ∨ j = 5 ∨ j = 7 ∨ j = 9 ∨ j = 36 → I' m j = I m j) (hq : ∀ q, q ≠ x → q ≠ m → q < o k ∨ o k + 33 ≤ q ∨ q = o k + 2 ∨ (o k + 20 ≤ q ∧ q < o k + 28) → q < m + 5 ∨ m + 53 ≤ q ∨ (m + 28 ≤ q ∧ q ≤ m + 33) ∨ (m + 48 ≤ q ∧ q ≤ m + 52) → I' q = I q)
    (hs : ∀ r j, 5 ≤ r → r ≤ 52 → j < szM r * k ∨ szM r * k + szM r ≤ j → I' (m + r) j = I (m + r) j) (hw : VCw I' m (o k) k) (he : VCe I' m (o k) k) (hs' : VCs I' J m (o k) k) (hm1 : VCm I' m (o k + 13) (2 * k)) (hd : VCd I' m (o k) K k) (hm2 : VCm I' m (o k + 29) (2 * k + 1)) : RC g B I' J P x m n R K o fl φ ρ := by
  obtain ⟨xm, mn⟩ := RC_xm h
  obtain ⟨hV, hM, -⟩ := RG_ly h
  have hv := RC_v h hk
  have mo := hv.1.2.1
  have ro : ∀ r, r < R → ∀ j, j < 33 → ρ r ≠ o k + j := fun r hr j hj e => by
    have t := (RC_row h hr).2.2
    have u := VC_tg hv hj
    rw [e] at t; omega
  have ro2 := fun r hr => (RC_row h (r := r) hr).1
  have po : ∀ q, VCp I m (φ k) k q → o k + 33 ≤ q := fun q hq => (VC_tp hv hq).2.2
  have row : ∀ r, r < R → I' (ρ r) = I (ρ r) := fun r hr => by
    have a := ro2 r hr
    have b : ρ r < o k ∨ o k + 33 ≤ ρ r := by
      rcases Nat.lt_or_ge (ρ r) (o k) with e | e
      · exact Or.inl e
      · rcases Nat.lt_or_ge (ρ r) (o k + 33) with e2 | e2
        · exact absurd (show ρ r = o k + (ρ r - o k) by omega) (ro r hr _ (by omega))
        · exact Or.inr e2
    exact hq _ (by omega) (by omega) (by omega) (by omega)
  refine RC_go h k (fun _ _ => ⟨rfl, rfl⟩) (Nat.le_refl _) (RCg_cg h (Ext_rf B) h.1.1 hV hM (fun q hq' => hq q (by omega) (by omega) (by omega) (by omega)) hx (fun k k1 k2 _ _ _ k3 k4 _ => hq _ (by omega) (by omega) (by omega) (by omega)) (fun _ _ => rfl) hm rfl (fun r r1 r2 => hq _ (by omega) (by omega) (by omega) (by omega)) row)
    hz (Nat.le_refl _) (fun _ _ => rfl) (fun r hr => by rw [hq (m + 32) (by omega) (by omega) (by omega) (by omega)]) (fun d d1 d2 => ⟨d1, rfl, rfl, rfl⟩) h.2.2.1 (fun q ho => ?_) (fun _ _ _ => rfl) (fun d r j _ d2 k1 k2 k3 j1 j2 => hs r j k1 k2 ?_) (fun d j _ _ _ _ => ⟨rfl, rfl⟩) (fun _ => ⟨hv.1, hw, he, hs', hm1, hd, hm2, fun i hi => ?_, ?_⟩) (fun q _ hp => ?_)
  · have h1 : ¬ (x ≤ q ∧ q < x + 22) := fun e => ho (Or.inl e)
    have h2 : ¬ (m ≤ q ∧ q < m + 64) := fun e => ho (Or.inr (Or.inl e))
    have h3 : ¬ (o k ≤ q ∧ q < o k + 33) := fun e => ho (Or.inr (Or.inr (Or.inl ⟨hk, Or.inl (Or.inl e)⟩)))
    exact ⟨hq q (by omega) (by omega) (by omega) (by omega), rfl, rfl⟩
  · rcases Nat.lt_or_ge d k with e | e
    · have := Nat.mul_le_mul_left (szM r) (show d + 1 ≤ k by omega)
      rw [Nat.mul_add, Nat.mul_one] at this; omega
    · have := Nat.mul_le_mul_left (szM r) (show k + 1 ≤ d by omega)
      rw [Nat.mul_add, Nat.mul_one] at this; omega
  · obtain ⟨a, z, c0, g0, K, f1, f2⟩ := (RC_f h hk) i hi
    have u := fl_own h hk hi
    have e1 : I' (fl k i) = I (fl k i) := by rcases u with u | u <;> exact hq _ (by omega) (by omega) (by omega) (by omega)
    have e2 : I' (fl k i + 1) = I (fl k i + 1) := by rcases u with u | u <;> exact hq _ (by omega) (by omega) (by omega) (by omega)
    refine ⟨a, z, c0, g0, K, ?_, ?_⟩
    · unfold FSc at f1 ⊢; rw [e1, e2]; exact f1
    · unfold FSm at f2 ⊢
      rw [hq (m + 48) (by omega) (by omega) (by omega) (by omega), hq (m + 49) (by omega) (by omega) (by omega) (by omega), hq (m + 50) (by omega) (by omega) (by omega) (by omega), hq (m + 51) (by omega) (by omega) (by omega) (by omega), hq (m + 52) (by omega) (by omega) (by omega) (by omega)]; exact f2
  · obtain ⟨L, l1, l2, l3, l4, l5⟩ := RC_l h hk
    refine ⟨L, l1, by rw [hq (o k + 2) (by omega) (by omega) (by omega) (by omega)]; exact l2, by rw [hq (m + 28) (by omega) (by omega) (by omega) (by omega)]; exact l3, fun i hi => ?_, l5⟩
    obtain ⟨a1, a2, a3, a4, a5, a6⟩ := l4 i hi
    refine ⟨a1, a2, a3, a4, by rw [hq (φ k i) (by omega) (by omega) (by omega) (by omega), hq (m + 29) (by omega) (by omega) (by omega) (by omega)]; exact a5, ?_⟩
    rw [hq (m + 30) (by omega) (by omega) (by omega) (by omega), hq (m + 32) (by omega) (by omega) (by omega) (by omega)]; exact a6
  · left
    obtain ⟨L, i, a1, a2⟩ := hp
    exact ⟨hk, L, i, by rw [← hq (m + 28) (by omega) (by omega) (by omega) (by omega)]; exact a1, a2⟩
/-- one place of the encoder and its place in the model -/
theorem RC_s4 {j r p : Nat} {v w : Int32} {I1 I2 : mm_TI} (h : RC g B I J P x m n R K o fl φ ρ) (hk : k < n) (hj : j ≠ 8 ∧ j ≠ 9) (hr : 5 ≤ r ∧ r ≤ 10) (hp : szM r * k ≤ p ∧ p < szM r * k + szM r) (e1 : I1 = va_up (vz I x) (o k + 4) (va_up (vz I x (o k + 4)) j v)) (e2 : I2 = mo_st (va_up I1 (m + r) (va_up (I1 (m + r)) p w)) m (nI 0))
    (he : I2 (o k + 4) = va_up (I (o k + 4)) j v → I2 (m + r) = va_up (I (m + r)) p w → I2 (o k + 5) = I (o k + 5) → (∀ q, q ≠ r → 5 ≤ q → q ≤ 19 → I2 (m + q) = I (m + q)) → VCe I2 m (o k) k) : RC g B I2 J P x m n R K o fl φ ρ := by
  obtain ⟨xm, mn⟩ := RC_xm h
  have mo := (RC_v h hk).1.2.1
  have v1 : ∀ q, q ≠ x → vz I x q = I q := fun q hq => va_up_n _ _ hq
  have f : ∀ q, q ≠ x → q ≠ m → q ≠ o k + 4 → q ≠ m + r → I2 q = I q := fun q q1 q2 q3 q4 => by
    rw [e2, show mo_st (va_up I1 (m + r) (va_up (I1 (m + r)) p w)) m (nI 0) q = va_up I1 (m + r) (va_up (I1 (m + r)) p w) q from va_up_n _ _ q2, va_up_n _ _ q4, e1, va_up_n _ _ q3, v1 _ q1]
  have f4 : I2 (o k + 4) = va_up (I (o k + 4)) j v := by
    rw [e2, show mo_st (va_up I1 (m + r) (va_up (I1 (m + r)) p w)) m (nI 0) (o k + 4) = va_up I1 (m + r) (va_up (I1 (m + r)) p w) (o k + 4) from va_up_n _ _ (by omega), va_up_n _ _ (by omega), e1, va_up_s, v1 _ (by omega)]
  have f5 : I2 (m + r) = va_up (I (m + r)) p w := by
    rw [e2, show mo_st (va_up I1 (m + r) (va_up (I1 (m + r)) p w)) m (nI 0) (m + r) = va_up I1 (m + r) (va_up (I1 (m + r)) p w) (m + r) from va_up_n _ _ (by omega), va_up_s, e1, va_up_n _ _ (by omega), v1 _ (by omega)]
  have fx : I2 x = va_up (I x) 9 (nI 0) := by
    rw [e2, show mo_st (va_up I1 (m + r) (va_up (I1 (m + r)) p w)) m (nI 0) x = va_up I1 (m + r) (va_up (I1 (m + r)) p w) x from va_up_n _ _ (by omega), va_up_n _ _ (by omega), e1, va_up_n _ _ (by omega), show vz I x x = va_up (I x) 9 (nI 0) from va_up_s _ _ _]
  have fm : I2 m = va_up (I m) 1 (nI 0) := by
    rw [e2, show mo_st (va_up I1 (m + r) (va_up (I1 (m + r)) p w)) m (nI 0) m = va_up (va_up I1 (m + r) (va_up (I1 (m + r)) p w) m) 1 (nI 0) from va_up_s _ _ _, va_up_n _ _ (by omega), e1, va_up_n _ _ (by omega), v1 _ (by omega)]
  refine RC_set h hk (by rw [fx, fm, va_up_s, va_up_s]) (fun i hi => by rw [fx, va_up_n _ _ (by omega)]) (fun i hi => by rw [fm, va_up_n _ _ (by omega)]) (fun q q1 q2 q3 q4 => f q q1 q2 (by omega) (by omega)) (fun a i a1 a2 a3 => ?_) (VCw_cg (RC_w h hk) ?_ (f _ (by omega) (by omega) (by omega) (by omega)) (f _ (by omega) (by omega) (by omega) (by omega)) (f _ (by omega) (by omega) (by omega) (by omega))) (he f4 f5 (f _ (by omega) (by omega) (by omega) (by omega)) (fun q q1 q2 q3 => f _ (by omega) (by omega) (by omega) (by omega)))
    (VCs_cg (RC_s h hk) (by rw [f4, va_up_n _ _ (by omega)]) (by rw [f4, va_up_n _ _ (by omega)]) (fun i hi => f _ (by omega) (by omega) (by omega) (by omega)) (fun i i1 i2 => f _ (by omega) (by omega) (by omega) (by omega)) (fun _ _ _ => rfl) rfl rfl) (VCm_cw (RC_m1 h hk) (fun i hi => f _ (by omega) (by omega) (by omega) (by omega)) (fun i i1 i2 => f _ (by omega) (by omega) (by omega) (by omega))) (VCd_cg (RC_d h hk) (f _ (by omega) (by omega) (by omega) (by omega)) (f _ (by omega) (by omega) (by omega) (by omega)) (fun i i1 i2 => f _ (by omega) (by omega) (by omega) (by omega))) (VCm_cw (RC_m2 h hk) (fun i hi => f _ (by omega) (by omega) (by omega) (by omega)) (fun i i1 i2 => f _ (by omega) (by omega) (by omega) (by omega)))
  · by_cases e : a = r
    · subst e; rw [f5, va_up_n _ _ (by omega)]
    · rw [f (m + a) (by omega) (by omega) (by omega) (by omega)]
  · rw [f (o k) (by omega) (by omega) (by omega) (by omega)]
/-- one place of the decoder and its place in the model -/
theorem RC_s17 {j r p : Nat} {v w : Int32} {I1 I2 : mm_TI} (h : RC g B I J P x m n R K o fl φ ρ) (hk : k < n) (hr : r = 46 ∨ r = 47) (hp : p = k) (e1 : I1 = va_up (vz I x) (o k + 17) (va_up (vz I x (o k + 17)) j v)) (e2 : I2 = mo_st (va_up I1 (m + r) (va_up (I1 (m + r)) p w)) m (nI 0))
    (he : I2 (o k + 17) = va_up (I (o k + 17)) j v → I2 (m + r) = va_up (I (m + r)) p w → I2 (o k + 28) = I (o k + 28) → (∀ q, q ≠ r → 34 ≤ q → q ≤ 47 → I2 (m + q) = I (m + q)) → VCd I2 m (o k) K k) : RC g B I2 J P x m n R K o fl φ ρ := by
  obtain ⟨xm, mn⟩ := RC_xm h
  have mo := (RC_v h hk).1.2.1
  have v1 : ∀ q, q ≠ x → vz I x q = I q := fun q hq => va_up_n _ _ hq
  have f : ∀ q, q ≠ x → q ≠ m → q ≠ o k + 17 → q ≠ m + r → I2 q = I q := fun q q1 q2 q3 q4 => by
    rw [e2, show mo_st (va_up I1 (m + r) (va_up (I1 (m + r)) p w)) m (nI 0) q = va_up I1 (m + r) (va_up (I1 (m + r)) p w) q from va_up_n _ _ q2, va_up_n _ _ q4, e1, va_up_n _ _ q3, v1 _ q1]
  have f4 : I2 (o k + 17) = va_up (I (o k + 17)) j v := by
    rw [e2, show mo_st (va_up I1 (m + r) (va_up (I1 (m + r)) p w)) m (nI 0) (o k + 17) = va_up I1 (m + r) (va_up (I1 (m + r)) p w) (o k + 17) from va_up_n _ _ (by omega), va_up_n _ _ (by omega), e1, va_up_s, v1 _ (by omega)]
  have f5 : I2 (m + r) = va_up (I (m + r)) p w := by
    rw [e2, show mo_st (va_up I1 (m + r) (va_up (I1 (m + r)) p w)) m (nI 0) (m + r) = va_up I1 (m + r) (va_up (I1 (m + r)) p w) (m + r) from va_up_n _ _ (by omega), va_up_s, e1, va_up_n _ _ (by omega), v1 _ (by omega)]
  have fx : I2 x = va_up (I x) 9 (nI 0) := by
    rw [e2, show mo_st (va_up I1 (m + r) (va_up (I1 (m + r)) p w)) m (nI 0) x = va_up I1 (m + r) (va_up (I1 (m + r)) p w) x from va_up_n _ _ (by omega), va_up_n _ _ (by omega), e1, va_up_n _ _ (by omega), show vz I x x = va_up (I x) 9 (nI 0) from va_up_s _ _ _]
  have fm : I2 m = va_up (I m) 1 (nI 0) := by
    rw [e2, show mo_st (va_up I1 (m + r) (va_up (I1 (m + r)) p w)) m (nI 0) m = va_up (va_up I1 (m + r) (va_up (I1 (m + r)) p w) m) 1 (nI 0) from va_up_s _ _ _, va_up_n _ _ (by omega), e1, va_up_n _ _ (by omega), v1 _ (by omega)]
  refine RC_set h hk (by rw [fx, fm, va_up_s, va_up_s]) (fun i hi => by rw [fx, va_up_n _ _ (by omega)]) (fun i hi => by rw [fm, va_up_n _ _ (by omega)]) (fun q q1 q2 q3 q4 => f q q1 q2 (by omega) (by omega)) (fun a i a1 a2 a3 => ?_) (VCw_cg (RC_w h hk) ?_ (f _ (by omega) (by omega) (by omega) (by omega)) (f _ (by omega) (by omega) (by omega) (by omega)) (f _ (by omega) (by omega) (by omega) (by omega))) (VCe_cg (RC_e h hk) (f _ (by omega) (by omega) (by omega) (by omega)) (f _ (by omega) (by omega) (by omega) (by omega)) (fun i hi => f _ (by omega) (by omega) (by omega) (by omega)))
    (VCs_cg (RC_s h hk) (by rw [f (o k + 4) (by omega) (by omega) (by omega) (by omega)]) (by rw [f (o k + 4) (by omega) (by omega) (by omega) (by omega)]) (fun i hi => f _ (by omega) (by omega) (by omega) (by omega)) (fun i i1 i2 => f _ (by omega) (by omega) (by omega) (by omega)) (fun _ _ _ => rfl) rfl rfl) (VCm_cw (RC_m1 h hk) (fun i hi => f _ (by omega) (by omega) (by omega) (by omega)) (fun i i1 i2 => f _ (by omega) (by omega) (by omega) (by omega))) (he f4 f5 (f _ (by omega) (by omega) (by omega) (by omega)) (fun q q1 q2 q3 => f _ (by omega) (by omega) (by omega) (by omega))) (VCm_cw (RC_m2 h hk) (fun i hi => f _ (by omega) (by omega) (by omega) (by omega)) (fun i i1 i2 => f _ (by omega) (by omega) (by omega) (by omega)))
  · by_cases e : a = r
    · have : szM a = 1 := by rcases hr with rfl | rfl <;> rw [e] <;> rfl
      rw [this] at a3; rw [e, f5, va_up_n _ _ (by omega)]
    · rw [f (m + a) (by omega) (by omega) (by omega) (by omega)]
  · rw [f (o k) (by omega) (by omega) (by omega) (by omega)]
/-- a joint step from its parts, where nothing is made -/
theorem jo_mk {β : Type} {κ : β → Value} {Mc Mm : mm_M} {as : List Value} (H : ∀ (K x m : Nat) (B : mm_B) (I : mm_TI) (J : mm_TJ) (P : mm_TP) (n R : Nat) (o : Nat → Nat) (fl φ : Nat → Nat → Nat) (ρ : Nat → Nat), K < 600 → R ≤ K → RC g B I J P x m n R K o fl φ ρ →
    (∃ (r : β) (a : Int32), Ct g Mc (.ref x :: as) B I J P (some (κ r), B, vst I x a, J, P) ∧ ∀ I1 : mm_TI, (∀ q, q ≠ x → I1 q = I q) → Ct g Mm (.ref m :: as) B I1 J P (some (κ r), B, mo_st I1 m a, J, P)) ∨
    (∃ (r : β) (I1 : mm_TI) (J1 : mm_TJ) (I2 : mm_TI) (J2 : mm_TJ), Ct g Mc (.ref x :: as) B I J P (some (κ r), B, I1, J1, P) ∧ Ct g Mm (.ref m :: as) B I1 J1 P (some (κ r), B, I2, J2, P) ∧ RC g B I2 J2 P x m n R K o fl φ ρ ∧ ∀ q, q < x → I2 q = I q)) : JOk κ g Mc Mm as := by
  intro K x m B I J P hK ⟨n, R, o, fl, φ, ρ, hR, h⟩
  have xm := (RC_xm h).1
  rcases H K x m B I J P n R o fl φ ρ hK hR h with ⟨r, a, h1, h2⟩ | ⟨r, I1, J1, I2, J2, h1, h2, h3, h4⟩
  · refine ⟨r, B, vst I x a, J, P, mo_st (vst I x a) m a, J, P, h1, h2 _ (fun q hq => vst_n hq), ⟨n, R, o, fl, φ, ρ, by omega, RC_mono (RC_2 h) (by omega)⟩, Ext_rf B, by omega, by omega, fun q hq => ?_⟩
    rw [show mo_st (vst I x a) m a q = vst I x a q from va_up_n _ _ (by omega), vst_n (by omega)]
  · exact ⟨r, B, I1, J1, P, I2, J2, P, h1, h2, ⟨n, R, o, fl, φ, ρ, by omega, RC_mono h3 (by omega)⟩, Ext_rf B, by omega, by omega, h4⟩
end ST0
