/-! LINES: drop and order, joint -/
section LJ0
variable {g : mm_G} {c i : Int32}
/-- coder k's line was brought into another order, or shortened: σ says which frame stands where -/
theorem RC_pm {B : mm_B} {I : mm_TI} {J : mm_TJ} {P : mm_TP} {x m n R K k L N : Nat} {o : Nat → Nat} {fl φ : Nat → Nat → Nat} {ρ σ : Nat → Nat} {F' : Nat → Option Nat} {Fl Gl : Nat → Int32} {I1 I2 : mm_TI} (h : RC g B I J P x m n R K o fl φ ρ) (hk : k < n) (l3 : I (m + 28) k = nI L) (l1 : L ≤ 250) (hN : N ≤ 250) (hσ : ∀ q, q < N → σ q < L) (hinj : ∀ a b, a < N → b < N → σ a = σ b → a = b)
    (hF : ∀ q, q < N → F' q = some (φ k (σ q))) (a1 : ∀ q, q < N → Fl (250 * k + q) = I (m + 29) (250 * k + σ q)) (a2 : ∀ q, q < 250 * k ∨ 250 * k + 250 ≤ q → Fl q = I (m + 29) q) (b1 : ∀ q, q < N → Gl (250 * k + q) = I (m + 30) (250 * k + σ q)) (b2 : ∀ q, q < 250 * k ∨ 250 * k + 250 ≤ q → Gl q = I (m + 30) q)
    (e1 : I1 = va_up (vz I x) (o k + 2) (va_up (I (o k + 2)) 1 (nI N))) (e2 : I2 = mo_st (va_up (va_up (va_up I1 (m + 29) Fl) (m + 30) Gl) (m + 28) (va_up (I1 (m + 28)) k (nI N))) m (nI 0)) : RC g B I2 J (va_up P (o k + 3) F') x m n R K o fl (va_up φ k (fun q => φ k (σ q))) ρ ∧ ∀ q, q < x → I2 q = I q := by
  obtain ⟨xm, mn⟩ := RC_xm h
  have hv := RC_v h hk
  have mo := hv.1.2.1
  have ro := fun r hr => RC_row h (r := r) hr
  obtain ⟨L', c1, c2, c3, c4, c5⟩ := RC_l h hk
  obtain rfl : L = L' := (nI_eq (by omega) (by omega)).mp (l3.symm.trans c3)
  have v1 : ∀ q, q ≠ x → q ≠ o k + 2 → I1 q = I q := fun q q1 q2 => by rw [e1, va_up_n _ _ q2]; exact va_up_n _ _ q1
  have fo : ∀ q, q ≠ x → q ≠ m → q ≠ o k + 2 → q < m + 28 ∨ m + 30 < q → I2 q = I q := fun q q1 q2 q3 q4 => by
    rw [e2]; exact (va_up_n _ _ q2).trans ((va_up_n _ _ (by omega)).trans ((va_up_n _ _ (by omega)).trans ((va_up_n _ _ (by omega)).trans (v1 q q1 q3))))
  have fx : I2 x = va_up (I x) 9 (nI 0) := by
    rw [e2]; refine (va_up_n _ _ (by omega)).trans ((va_up_n _ _ (by omega)).trans ((va_up_n _ _ (by omega)).trans ((va_up_n _ _ (by omega)).trans ?_)))
    rw [e1, va_up_n _ _ (by omega)]; exact va_up_s _ _ _
  have fm : I2 m = va_up (I m) 1 (nI 0) := by
    rw [e2]; refine (va_up_s _ _ _).trans ?_
    rw [va_up_n _ _ (by omega), va_up_n _ _ (by omega), va_up_n _ _ (by omega), v1 _ (by omega) (by omega)]
  have f2 : I2 (o k + 2) = va_up (I (o k + 2)) 1 (nI N) := by
    rw [e2]; refine (va_up_n _ _ (by omega)).trans ((va_up_n _ _ (by omega)).trans ((va_up_n _ _ (by omega)).trans ((va_up_n _ _ (by omega)).trans ?_)))
    rw [e1, va_up_s]
  have f28 : I2 (m + 28) = va_up (I (m + 28)) k (nI N) := by
    rw [e2]; refine (va_up_n _ _ (by omega)).trans ?_
    rw [va_up_s, v1 _ (by omega) (by omega)]
  have f29 : I2 (m + 29) = Fl := by
    rw [e2]; refine (va_up_n _ _ (by omega)).trans ?_
    rw [va_up_n _ _ (by omega), va_up_n _ _ (by omega), va_up_s]
  have f30 : I2 (m + 30) = Gl := by
    rw [e2]; refine (va_up_n _ _ (by omega)).trans ?_
    rw [va_up_n _ _ (by omega), va_up_s]
  have f32 : ∀ r, r < R → I2 (m + 32) r = I (m + 32) r := fun r _ => by rw [fo (m + 32) (by omega) (by omega) (by omega) (by omega)]
  refine ⟨RC_ln h hk (Ext_rf B) h.1.1 (fun q q1 q2 q3 => va_up_n _ _ q2) (fun q q1 q2 q3 q4 q5 q6 => fo q q2 q3 q4 (by omega)) (fun _ _ => rfl) (by rw [fx, fm, va_up_s, va_up_s]) (fun i hi => by rw [fx, va_up_n _ _ (by omega)]) (fun i hi => by rw [fm, va_up_n _ _ (by omega)]) (RGp_cg (RG_p h) (by rw [fx, va_up_n _ _ (by omega)]) (by rw [fm, va_up_n _ _ (by omega)]) (fo _ (by omega) (by omega) (by omega) (by omega)) (fo _ (by omega) (by omega) (by omega) (by omega))) (fun r i r1 r2 ri => ?_) (Nat.le_refl _) (fun _ _ => rfl) (RGr_cg (RG_r h) (Ext_rf B) (by rw [fm, va_up_n _ _ (by omega)]) (fun r hr => ?_) (fo _ (by omega) (by omega) (by omega) (by omega)) (fo _ (by omega) (by omega) (by omega) (by omega)) (fo _ (by omega) (by omega) (by omega) (by omega))) f32 ?_ (fun q hq => ?_), fun q hq => fo q (by omega) (by omega) (by omega) (by omega)⟩
  · have : r = 28 ∨ r = 29 ∨ r = 30 := by omega
    rcases this with rfl | rfl | rfl
    · have ri' : i < 1 * k ∨ 1 * k + 1 ≤ i := ri
      rw [f28, va_up_n _ _ (by omega)]
    · have ri' : i < 250 * k ∨ 250 * k + 250 ≤ i := ri
      rw [f29]; exact a2 i ri'
    · have ri' : i < 250 * k ∨ 250 * k + 250 ≤ i := ri
      rw [f30]; exact b2 i ri'
  · have := ro r hr
    have tg := VC_tg hv (k := 2) (by omega)
    exact fo _ (by omega) (by omega) (fun e => by rw [e] at this; omega) (by omega)
  · refine ⟨N, hN, by rw [f2, va_up_s], by rw [f28, va_up_s], fun q hq => ?_, fun a b ha hb e => hinj a b ha hb (c5 _ _ (hσ a ha) (hσ b hb) e)⟩
    obtain ⟨d1, d2, d3⟩ := c4 (σ q) (hσ q hq)
    refine ⟨by rw [va_up_s]; exact hF q hq, d2, ?_⟩
    show VFr B I2 (va_up P (o k + 3) F') m R ρ (φ k (σ q)) (250 * k + q)
    exact VFr_cg h d3 (Ext_rf B) (Nat.le_refl _) (fun _ _ => rfl) f32 (by rw [fo _ (by omega) (by omega) (by omega) (by omega)]) (by rw [f29]; exact a1 q hq) (by rw [f30]; exact b1 q hq) (va_up_n _ _ (by omega))
  · left
    obtain ⟨L2, q', d1, d2, d3, d4⟩ := hq
    rw [f28, va_up_s] at d1
    have : N = L2 := (nI_eq (by omega) (by omega)).mp d1
    subst this
    exact ⟨L, σ q', l3, l1, hσ q' d3, d4⟩
theorem jo_drop : JO g mX11_drop mX12_drop [.int c, .int i] := by
  refine jo_m2 fun K x m B I J P n R o fl φ ρ hK hR h => ?_
  obtain ⟨hV, hM, -⟩ := RG_ly h
  obtain ⟨h8, hx4, hm0⟩ := RG_n h
  obtain ⟨xm, mn⟩ := RC_xm h
  rcases fr_cases h c i with ⟨k, j, L, hk, hj, l1, rfl, rfl, l2, l3, p1, p2, v, ct, ctm⟩ | ⟨ct, ctm⟩
  · right
    have mo := (RC_v h hk).1.2.1
    obtain ⟨L', c1, c2, c3, c4, c5⟩ := RC_l h hk
    obtain rfl : L = L' := (nI_eq (by omega) (by omega)).mp (l3.symm.trans c3)
    have v1 : ∀ (F : Nat → Int32) q, q ≠ x → q ≠ o k + 2 → va_up (vz I x) (o k + 2) F q = I q := fun F q q1 q2 => (va_up_n _ _ q2).trans (va_up_n _ _ q1)
    obtain ⟨F', hF, cl⟩ := cx_drop (g := g) (J := J) (CA_of h hk) l2 l1 hj (fun q hq => ⟨(c4 q hq).1, (c4 q hq).2.2.1⟩)
    have ma : MA B (va_up (vz I x) (o k + 2) (va_up (I (o k + 2)) 1 (nI (L - 1)))) (va_up P (o k + 3) F') m n k := ⟨lyM_ext hM (Ext_rf B) (fun q q1 q2 => va_up_n _ _ (by omega)), by rw [v1 _ m (by omega) (by omega)]; exact hm0, h8, hk⟩
    obtain ⟨Fl, Gl, ⟨a1, a2⟩, ⟨b1, b2⟩, ml⟩ := cx_mdrop (g := g) (J := J) ma (by rw [v1 _ _ (by omega) (by omega)]; exact l3) l1 hj
    rw [v1 _ (m + 29) (by omega) (by omega)] at a1 a2
    rw [v1 _ (m + 30) (by omega) (by omega)] at b1 b2
    have rc := RC_pm (N := L - 1) (σ := sk j) h hk l3 l1 (by omega) (fun q hq => sk_lt (by omega)) (fun a b _ _ e => sk_inj e) (fun q hq => hF q (by omega)) (fun q hq => a1 q (by omega)) a2 (fun q hq => b1 q (by omega)) b2 rfl rfl
    exact ⟨_, B, _, J, _, _, J, _, n, R, o, fl, _, ρ, cl, ml, by omega, RC_mono rc.1 (by omega), Ext_rf B, by omega, by omega, rc.2⟩
  · exact Or.inl ⟨_, _, cl_drop_f hV ct, fun I1 h1 => ml_drop_f hM (ctm I1 h1)⟩
/-- where frame q stood before i was put to j -/
def oqS (i j q : Nat) : Nat := if q < j then sk i q else if q = j then i else sk i (q - 1)
theorem oqS_lt {i j q L : Nat} (hi : i < L) (hj : j < L) (hq : q < L) : oqS i j q < L := by
  unfold oqS sk
  split
  · split <;> omega
  · split
    · omega
    · split <;> omega
theorem oqS_inj {i j a b : Nat} (h : oqS i j a = oqS i j b) : a = b := by
  unfold oqS sk at h
  by_cases a1 : a < j <;> by_cases b1 : b < j <;> by_cases a2 : a = j <;> by_cases b2 : b = j <;> simp only [a1, b1, a2, b2, if_true, if_false] at h <;> (first | omega | (split at h <;> (first | omega | (split at h <;> omega))))
theorem jo_order {j : Int32} : JO g mX11_order mX12_order [.int c, .int i, .int j] := by
  refine jo_m2 fun K x m B I J P n R o fl φ ρ hK hR h => ?_
  obtain ⟨hV, hM, -⟩ := RG_ly h
  obtain ⟨h8, hx4, hm0⟩ := RG_n h
  obtain ⟨xm, mn⟩ := RC_xm h
  rcases fr_cases h c i with ⟨k, i, L, hk, hi, l1, rfl, rfl, l2, l3, p1, p2, v, ct, ctm⟩ | ⟨ct, ctm⟩
  · rcases fr_cases h (nI k) j with ⟨k', j, L', hk', hj, l1', ek, rfl, l2', l3', p1', p2', v', ct', ctm'⟩ | ⟨ct', ctm'⟩
    · right
      obtain rfl : k = k' := (nI_eq (by omega) (by omega)).mp ek
      obtain rfl : L = L' := (nI_eq (by omega) (by omega)).mp (l3.symm.trans l3')
      have mo := (RC_v h hk).1.2.1
      obtain ⟨L', c1, c2, c3, c4, c5⟩ := RC_l h hk
      obtain rfl : L = L' := (nI_eq (by omega) (by omega)).mp (l3.symm.trans c3)
      have v1 : ∀ (F : Nat → Int32) q, q ≠ x → q ≠ o k + 2 → va_up (vz I x) (o k + 2) F q = I q := fun F q q1 q2 => (va_up_n _ _ q2).trans (va_up_n _ _ q1)
      obtain ⟨F', hF, cl⟩ := cx_order (g := g) (J := J) (CA_of h hk) l2 l1 hi hj (fun q hq => ⟨(c4 q hq).1, (c4 q hq).2.2.1⟩)
      have ma : MA B (va_up (vz I x) (o k + 2) (va_up (I (o k + 2)) 1 (nI L))) (va_up P (o k + 3) F') m n k := ⟨lyM_ext hM (Ext_rf B) (fun q q1 q2 => va_up_n _ _ (by omega)), by rw [v1 _ m (by omega) (by omega)]; exact hm0, h8, hk⟩
      obtain ⟨Fl, Gl, ⟨a1, a2⟩, ⟨b1, b2⟩, ml⟩ := cx_morder (g := g) (J := J) ma (by rw [v1 _ _ (by omega) (by omega)]; exact l3) l1 hi hj
      rw [v1 _ (m + 29) (by omega) (by omega)] at a1 a2
      rw [v1 _ (m + 30) (by omega) (by omega)] at b1 b2
      have oq : ∀ (f : Nat → Int32) q, oqF j (fun q => f (250 * k + sk i q)) (f (250 * k + i)) q = f (250 * k + oqS i j q) := fun f q => by
        unfold oqF oqS
        by_cases e : q < j
        · rw [if_pos e, if_pos e]
        · by_cases e2 : q = j
          · rw [if_neg e, if_neg e, if_pos e2, if_pos e2]
          · rw [if_neg e, if_neg e, if_neg e2, if_neg e2]
      have rc := RC_pm (N := L) (σ := oqS i j) (F' := F') h hk l3 l1 l1 (fun q hq => oqS_lt hi hj hq) (fun a b _ _ e => oqS_inj e) (fun q hq => by
          rw [hF q hq]; unfold oqS
          by_cases e : q < j
          · rw [if_pos e, if_pos e]
          · by_cases e2 : q = j
            · rw [if_neg e, if_neg e, if_pos e2, if_pos e2]
            · rw [if_neg e, if_neg e, if_neg e2, if_neg e2]) (fun q hq => by rw [a1 q hq]; exact oq _ q) a2 (fun q hq => by rw [b1 q hq]; exact oq _ q) b2 rfl rfl
      exact ⟨_, B, _, J, _, _, J, _, n, R, o, fl, _, ρ, cl, ml, by omega, RC_mono rc.1 (by omega), Ext_rf B, by omega, by omega, rc.2⟩
    · exact Or.inl ⟨_, _, cl_order_g hV v.1 ct ct', fun I1 h1 => ml_order_g hM (ctm I1 h1) (ctm' I1 h1)⟩
  · exact Or.inl ⟨_, _, cl_order_f hV ct, fun I1 h1 => ml_order_f hM (ctm I1 h1)⟩
end LJ0
