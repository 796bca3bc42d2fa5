/-! DECODE: from the sound to the end, both sides -/
def DCc (x o n2 w t rt LL : Nat) (φ s2 : Nat → Nat) (H V X Y : Nat → Int32) (ga wy rr lt q17 q18 : Int32) (T : Int64) (I Ic : mm_TI) (J Jc : mm_TJ) (P Pc : mm_TP) : Prop :=
  Ic x = va_up (I x) 9 (nI 0) ∧ Ic (x + 1) = va_up (I (x + 1)) 2 (nI t) ∧ Ic (o + 2) 1 = nI n2 ∧ (∀ k, k < n2 → Pc (o + 3) k = some (φ (s2 k))) ∧ (∀ q, q ≠ o + 3 → Pc q = P q) ∧ (Ic (o + 30) = H ∧ Ic (o + 31) = V ∧ Ic (o + 32) = X ∧ Ic (o + 29) 3 = nI LL) ∧ (∀ n, n < 160 * (rt + 1) → Ic (x + 6) n = Y n) ∧ Jc = sp_up J (x + 1) 3 T ∧
  (Ic (o + 17) 7 = nI rt ∧ Ic (o + 17) 8 = ga ∧ Ic (o + 17) 12 = nI w ∧ Ic (o + 17) 13 = wy ∧ Ic (o + 17) 14 = rr ∧ Ic (o + 17) 16 = lt ∧ Ic (o + 17) 17 = q17 ∧ Ic (o + 17) 18 = q18 ∧ ∀ j, j = 6 ∨ j = 9 ∨ j = 10 ∨ j = 11 ∨ j = 15 → Ic (o + 17) j = I (o + 17) j) ∧ ∀ q, q < x ∨ q = x + 4 ∨ x + 14 < q → q ≠ o + 2 → q ≠ o + 17 → q ≠ o + 18 → q < o + 29 ∨ o + 32 < q → Ic q = I q
def DCm (m c n2 w t rt LL : Nat) (s2 : Nat → Nat) (H V X Y : Nat → Int32) (ga wy rr lt q17 q18 : Int32) (T : Int64) (I I1 Mc : mm_TI) (J1 Jm : mm_TJ) : Prop :=
  Mc m 5 = nI t ∧ (∀ i, i ≠ 5 → i < 71 → Mc m i = I m i) ∧ (Mc (m + 28) = va_up (I (m + 28)) c (nI n2) ∧ (∀ k, k < n2 → Mc (m + 29) (250 * c + k) = I (m + 29) (250 * c + s2 k)) ∧ (∀ j, j < 250 * c ∨ 250 * c + 250 ≤ j → Mc (m + 29) j = I (m + 29) j) ∧ (∀ k, k < n2 → Mc (m + 30) (250 * c + k) = I (m + 30) (250 * c + s2 k)) ∧ (∀ j, j < 250 * c ∨ 250 * c + 250 ≤ j → Mc (m + 30) j = I (m + 30) j)) ∧
  ((sg (Mc (m + 15)) (160 * (2 * c + 1)) 160 = H ∧ ∀ j, j < 160 * (2 * c + 1) ∨ 160 * (2 * c + 1) + 160 ≤ j → Mc (m + 15) j = I (m + 15) j) ∧ (sg (Mc (m + 16)) (8 * (2 * c + 1)) 8 = V ∧ ∀ j, j < 8 * (2 * c + 1) ∨ 8 * (2 * c + 1) + 8 ≤ j → Mc (m + 16) j = I (m + 16) j) ∧ (sg (Mc (m + 17)) (8 * (2 * c + 1)) 8 = X ∧ ∀ j, j < 8 * (2 * c + 1) ∨ 8 * (2 * c + 1) + 8 ≤ j → Mc (m + 17) j = I (m + 17) j) ∧ (Mc (m + 18) (2 * c + 1) = nI LL ∧ ∀ j, j ≠ 2 * c + 1 → Mc (m + 18) j = I (m + 18) j)) ∧
  (∀ n, n < 160 * (rt + 1) → Mc (m + 54) n = Y n) ∧ Jm = sp_up J1 m 2 T ∧ (Mc (m + 34) c = nI rt ∧ Mc (m + 35) c = ga ∧ Mc (m + 42) c = nI w ∧ Mc (m + 43) c = wy ∧ Mc (m + 37) c = rr ∧ Mc (m + 39) c = lt ∧ Mc (m + 40) c = q17 ∧ Mc (m + 41) c = q18) ∧ (∀ r j, r = 34 ∨ r = 35 ∨ r = 37 ∨ (39 ≤ r ∧ r ≤ 43) → j ≠ c → Mc (m + r) j = I (m + r) j) ∧
  (∀ j, (3 ≤ j ∧ j ≤ 14) ∨ (19 ≤ j ∧ j ≤ 27) ∨ (31 ≤ j ∧ j ≤ 33) ∨ j = 36 ∨ j = 38 ∨ (44 ≤ j ∧ j ≤ 52) → Mc (m + j) = I (m + j)) ∧ ∀ q, q < m ∨ m + 64 ≤ q → Mc q = I1 q
section DD0
variable {g : mm_G} {B : mm_B} {I Ic : mm_TI} {J Jc : mm_TJ} {P Pc : mm_TP} {x m n R K k L nx nu n2 w t rt LL jo rn r1 : Nat} {o : Nat → Nat} {fl φ : Nat → Nat → Nat} {ρ s2 : Nat → Nat} {H V X Y : Nat → Int32} {ga wy lt q17 q18 : Int32} {T : Int64}
theorem FSc_cp {I' : mm_TI} {J' : mm_TJ} {P' : mm_TP} {a k z : Nat} {c0 g0 : Int32} {K : Nat → Int32} (h : FSc B I J P a k z c0 g0 K) (h1 : I' a = I a) (h2 : I' (a + 1) = I (a + 1)) (h3 : J' a = J a) (h4 : P' a = P a) : FSc B I' J' P' a k z c0 g0 K := by
  unfold FSc
  rw [h1, h2, h3, h4]
  exact h
theorem dec_D (h : RC g B I J P x m n R K o fl φ ρ) (hk : k < n) (hK : K < 600) (hR : R ≤ K) (l1 : L ≤ 250) (l2 : I (o k + 2) 1 = nI L) (l3 : I (m + 28) k = nI L) (nx1 : nx < 65536) (nx2 : I (o k + 17) 9 = nI nx) (nx3 : I (m + 36) k = nI nx) (nu1 : nu < 65536) (nu2 : I (o k + 4) 16 = nI nu) (hgo : ¬ (L = 0 ∧ nx = nu)) (sok : sl_ok L (n2, s2))
    (rt1 : rt ≤ 1) (t6 : t ≤ 6) (LL1 : 20 ≤ LL) (LL2 : LL ≤ 147) (hHr : ∀ j, j < 160 → r16 (H j)) (hYr : ∀ j, j < 160 * (rt + 1) → r16 (Y j)) (hwy : wy ≠ -4) (hr1 : r1 ≤ K + 1) (w7 : w ≤ 7) (rn1 : rn ≤ 1) (hjo : jo = if 0 < w ∨ rn = 1 then 1 else 0)
    (dc : DCc x (o k) n2 w t rt LL (φ k) s2 H V X Y ga wy (nI r1) lt q17 q18 T I Ic J Jc P Pc)
    (Kc : ∀ Z : mm_Z, Ev g mX1_decodeNext 139 [some (.ref (o k + 17)), none, none, some (.int (nI jo)), none] [] B Ic Jc Pc Z → Ct g mX1_decodeNext [.ref (o k + 17), .ref (o k + 2)] B (vz I x) J P Z)
    (Km : ∀ (I1 : mm_TI) (J1 : mm_TJ) (P1 : mm_TP), lyM B P1 m → (∀ j, j < 64 → I1 (m + j) = I (m + j)) → ∃ (v : Int32) (Mc : mm_TI) (Jm : mm_TJ), DCm m k n2 w t rt LL s2 H V X Y ga wy (nI r1) lt q17 q18 T I I1 Mc J1 Jm ∧ (∀ i, i < 8 → Ic (x + 2) i = Mc (m + 1) i) ∧ (∀ i, i < t → Ic (x + 3) i = Mc (m + 2) i) ∧
      ∀ Z : mm_Z, Ev g mX12_decode 253 [some (.ref m), some (.int (nI k)), some (.int (nI nx)), some (.int (nI w)), some (.int v), some (.int (nI rn)), none, none] [] B Mc Jm P1 Z → Ct g mX12_decode [.ref m, .int (nI k)] B I1 J1 P1 Z) : JR g mX11_decode mX12_decode [.int (nI k)] K x m B I J P := by
  obtain ⟨hV, hM, -⟩ := RG_ly h
  obtain ⟨h8, hx4, hm0⟩ := RG_n h
  obtain ⟨xm, mn⟩ := RC_xm h
  have hv := RC_v h hk
  have mo := hv.1.2.1
  have no := hv.1.2.2.1
  have hC := hv.1.1
  have hPf := hv.1.2.2.2.2.2.1
  have hjo1 : jo ≤ 1 := by rw [hjo]; split <;> omega
  obtain ⟨L', c1, c2, c3, c4, c5⟩ := RC_l h hk
  obtain rfl : L = L' := (nI_eq (by omega) (by omega)).mp (l3.symm.trans c3)
  have ro := fun r hr => RC_row h (r := r) hr
  have tg : ∀ j, j < 33 → mm_T B (o k + j) ≠ 201 ∧ mm_T B (o k + j) ≠ 202 := fun j hj => by have := VC_tg hv hj; exact ⟨this.2.1, this.2.2.1⟩
  obtain ⟨⟨ot, o1, o2, o3, o4⟩, -, -, -, ⟨bd, b0, b1, b2, b3⟩, ⟨dr, d1, d2, d3⟩, -, ⟨de, e1, e2, e3, -⟩, -, -, -, -⟩ := RC_d h hk
  obtain ⟨Q, hQ⟩ := Classical.skolem.mp (fun i => show ∃ q : Nat × Nat × Int32 × Int32 × (Nat → Int32), i < 4 → FSc B I J P (fl k i) q.1 q.2.1 q.2.2.1 q.2.2.2.1 q.2.2.2.2 ∧ FSm I m (4 * k + i) q.1 q.2.1 q.2.2.1 q.2.2.2.1 q.2.2.2.2 from by
    by_cases c : i < 4
    · obtain ⟨a, z, c0, g0, F, f1, f2⟩ := RC_f h hk i c
      exact ⟨(a, z, c0, g0, F), fun _ => ⟨f1, f2⟩⟩
    · exact ⟨(0, 0, 0, 0, fun _ => 0), fun e => absurd e c⟩)
  have fo : ∀ i, i < 4 → m + 64 ≤ fl k i ∧ (fl k i + 1 < o k ∨ o k + 33 ≤ fl k i ∨ fl k i = o k + 20 + 2 * i) := fun i hi => ⟨(h.2.2.1.2.1 k i hk hi).1, by have := fl_own h hk hi; omega⟩
  have fd : ∀ i j, i < 4 → j < 4 → i ≠ j → fl k i ≠ fl k j ∧ fl k i ≠ fl k j + 1 := fun i j hi hj e => h.2.2.1.2.2 k k i j hk hk hi hj (Or.inr e)
  obtain ⟨cx, cx1, co2, cp, cpq, ⟨c30, c31, c32, c29⟩, c6, cJ, ⟨r7, r8, r12, r13, r14, r16', r17, r18, rj⟩, cq⟩ := dc
  have cf : ∀ i, i < 4 → Ic (fl k i) = I (fl k i) ∧ Ic (fl k i + 1) = I (fl k i + 1) ∧ Jc (fl k i) = J (fl k i) ∧ Pc (fl k i) = P (fl k i) := fun i hi => by
    have := fo i hi
    exact ⟨cq _ (by omega) (by omega) (by omega) (by omega) (by omega), cq _ (by omega) (by omega) (by omega) (by omega) (by omega), by rw [cJ]; exact sp_up_o (by omega), cpq _ (by omega)⟩
  have hbd : (nI bd).toInt = bd := nI_toInt (by omega)
  have hO : ∀ j, j < ot → r16 (I (o k + 28) j) := fun j hj => (o4 j hj).2
  generalize hN : 160 * (rt + 1) = N at *
  have hN2 : N = 160 ∨ N = 320 := by omega
  generalize hks : (fun i => (Q i).1) = ks at *
  generalize hzs : (fun i => (Q i).2.1) = zs at *
  generalize hcs : (fun i => (Q i).2.2.1) = cs at *
  generalize hgs : (fun i => (Q i).2.2.2.1) = gs at *
  generalize hKs : (fun i => (Q i).2.2.2.2) = Ks at *
  have hQ' : ∀ i, i < 4 → FSc B I J P (fl k i) (ks i) (zs i) (cs i) (gs i) (Ks i) ∧ FSm I m (4 * k + i) (ks i) (zs i) (cs i) (gs i) (Ks i) := fun i hi => by
    rw [← hks, ← hzs, ← hcs, ← hgs, ← hKs]; exact hQ i hi
  have hC1 : lyC B Pc x (o k) := lyC_p3 hC cpq
  have hV1 : lyV B Pc x := lyV_ext hV (Ext_rf B) (fun q q1 q2 => cpq q (by omega))
  obtain ⟨Id, Jd, ev, e28, eJ, e3', e1', eF, e17, z5, z15, z16, fI, fJ⟩ := cx_X1_dt (g := g) (B := B) (I := Ic) (J := Jc) (P := Pc) (x := x) (o := o k) (rt := rt) (N := N) (L := LL) (t := t) (jo := jo) (ot := ot) (dr := dr) (nx := nx) (ga := ga) (bd := nI bd) (de := nI de) (fl := fl k) (ks := ks) (zs := zs) (cs := cs) (gs := gs) (Ks := Ks) (Y := Y) (O := I (o k + 28)) hV1 hC1 (by omega) rt1 hN.symm r7 LL1 LL2 r8 c29 (fun i hi => by rw [cpq _ (by omega)]; exact hPf i hi)
    (fun i hi => by have := fo i hi; omega) fd (by rw [cx1, va_up_s]) (by omega) hjo1 c6 (fun i hi => FSc_cp (hQ' i hi).1 (cf i hi).1 (cf i hi).2.1 (cf i hi).2.2.1 (cf i hi).2.2.2) (by rw [rj 10 (by omega)]; exact b2) (by rw [rj 6 (by omega)]; exact o2) o1 (fun j hj => by rw [cq _ (by omega) (by omega) (by omega) (by omega) (by omega)]) d1 (by rw [rj 11 (by omega)]; exact d2) (by rw [rj 15 (by omega)]; exact e2) (by rw [rj 9 (by omega)]; exact nx2) nx1
  have nf : ∀ q, m ≤ q → q < m + 64 → ∀ i, i < 4 → q ≠ fl k i ∧ q ≠ fl k i + 1 := fun q q1 q2 i hi => by have := fo i hi; omega
  have IM : ∀ j, j < 64 → Id (m + j) = I (m + j) := fun j hj => by rw [fI _ (by omega) (by omega) (by omega) (by omega) (by omega) (nf _ (by omega) (by omega)), cq _ (by omega) (by omega) (by omega) (by omega) (by omega)]
  have cl := cl_decode_t (g := g) (CA_of h hk) l1 l2 nx1 nu1 nx2 nu2 hgo cpq (Kc _ ev) (v := nI (oN dr N)) (by rw [e17]; simp (disch := omega) only [va_up_s, va_up_n])
  have hM1 : lyM B Pc m := lyM_ext hM (Ext_rf B) (fun q q1 q2 => cpq q (by omega))
  obtain ⟨v, Mc, Jm, ⟨m5, mi, ⟨m28, m29, m29', m30, m30'⟩, ⟨⟨m15, m15'⟩, ⟨m16, m16'⟩, ⟨m17, m17'⟩, ⟨m18, m18'⟩⟩, m54, mJ, ⟨m34, m35, m42, m43, m37, m39, m40, m41⟩, mo', mu, mq⟩, jf, jt, KM⟩ := Km Id Jd Pc hM1 IM
  obtain ⟨Mf, Jf, ev2, g45, gJ, g2, gm, gF, g44, g47, g38, g36, g49, g52, gq⟩ := cx_X12_dt (g := g) (B := B) (I := Mc) (J := Jm) (P := Pc) (m := m) (c := k) (lb := nx) (f := w) (rt := rt) (N := N) (L := LL) (t := t) (jo := jo) (ot := ot) (dr := dr) (rn := rn) (v := v) (ga := ga) (bd := nI bd) (de := nI de) (ks := ks) (zs := zs) (cs := cs) (gs := gs) (Ks := Ks) (Y := Y) (O := I (o k + 28)) hM1 (by omega) w7 rt1 hN.symm m34 LL1 LL2 m35 m18 m5 (by omega) rn1 hjo
    (by rw [hN] at m54; exact m54) hYr (fun i hi => by
      have f := (hQ' i hi).2
      unfold FSm at f ⊢
      rw [mu 48 (by omega), mu 49 (by omega), mu 50 (by omega), mu 51 (by omega), mu 52 (by omega)]; exact f) (by rw [mu 46 (by omega)]; exact b3) (by rw [hbd]; omega) (by rw [hbd]; omega) (by rw [mu 44 (by omega)]; exact o3) o1 (fun j hj => by rw [mu 45 (by omega)]; exact (o4 j hj).1.symm) hO d1 (by rw [mu 47 (by omega)]; exact d3) (by rw [mu 38 (by omega)]; exact e3) nx1
  have ml := KM _ ev2
  have cn := chN_l ks 4
  have G : ∀ q, q < m ∨ m + 64 ≤ q → Mf q = Id q := fun q hq => by rw [gq q (by omega) (by omega) (by omega) (by omega) (by omega) (by omega) (by omega) (by omega), mq q hq]
  have Gm : ∀ j, (1 ≤ j ∧ j ≤ 48 ∧ j ≠ 2 ∧ j ≠ 36 ∧ j ≠ 38 ∧ j ≠ 44 ∧ j ≠ 45 ∧ j ≠ 47) → Mf (m + j) = Mc (m + j) := fun j hj => gq _ (by omega) (by omega) (by omega) (by omega) (by omega) (by omega) (by omega) (by omega)
  have Gu : ∀ j, (3 ≤ j ∧ j ≤ 14) ∨ (19 ≤ j ∧ j ≤ 27) ∨ (31 ≤ j ∧ j ≤ 33) ∨ j = 46 ∨ j = 48 → Mf (m + j) = I (m + j) := fun j hj => by rw [Gm j (by omega), mu j (by omega)]
  have nx22 : ∀ q, q < x + 22 → ∀ i, i < 4 → q ≠ fl k i ∧ q ≠ fl k i + 1 := fun q q1 i hi => by have := fo i hi; omega
  have D : ∀ q, q < x ∨ q = x + 4 ∨ x + 14 < q → q ≠ o k + 2 → q ≠ o k + 17 → q ≠ o k + 18 → q < o k + 28 ∨ o k + 32 < q → (∀ i, i < 4 → q ≠ fl k i ∧ q ≠ fl k i + 1) → Id q = I q := fun q q1 q2 q3 q4 q5 q6 => by rw [fI q (by omega) (by omega) (by omega) (by omega) (by omega) q6, cq q (by omega) (by omega) (by omega) (by omega) (by omega)]
  have no20 : ∀ j, j < 20 ∨ 28 ≤ j → j < 33 → ∀ i, i < 4 → o k + j ≠ fl k i ∧ o k + j ≠ fl k i + 1 := fun j j1 j2 i hi => by have := fo i hi; omega
  have mfx : Mf x = va_up (I x) 9 (nI 0) := by rw [G _ (by omega), fI _ (by omega) (by omega) (by omega) (by omega) (by omega) (nx22 _ (by omega)), cx]
  have mf17 : Mf (o k + 17) = va_up (va_up (va_up (va_up (Ic (o k + 17)) 6 (nI (oN dr N))) 11 (nI 0)) 15 (nI de + nI 1)) 9 (nI ((nx + 1) % 65536)) := by rw [G _ (by omega), e17]
  have mfo : ∀ j, j < 17 → j ≠ 2 → Mf (o k + j) = I (o k + j) := fun j j1 j2 => by rw [G _ (by omega), D _ (by omega) (by omega) (by omega) (by omega) (by omega) (no20 j (by omega) (by omega))]
  have mfm : ∀ i, i ≠ 5 → i ≠ 1 → i < 71 → Mf m i = I m i := fun i i1 i2 i3 => by rw [gm, va_up_n _ _ i2, va_up_n _ _ i1, mi i i1 i3]
  have jfq : ∀ q, q ≠ m → Jf q = Jd q := fun q hq => by rw [gJ, sp_up_o hq, mJ, sp_up_o hq]
  have jd : ∀ q, q ≠ x + 1 → q ≠ x + 15 → q ≠ x + 16 → (∀ i, i < 4 → q ≠ fl k i) → Jd q = J q := fun q q1 q2 q3 q4 => by rw [fJ q q1 q2 q3 q4, cJ, sp_up_o q1]
  obtain ⟨so1, so2, so3⟩ := sok
  simp only at so1 so2 so3
  have nde : nI de + nI 1 = nI (de + 1) := nI_add de 1
  refine ⟨_, B, Id, Jd, Pc, Mf, Jf, Pc, n, R, o, fl, _, ρ, cl, ml, by omega, RC_big (φ' := fun j => φ k (s2 j)) (RC_mono h (show K ≤ K + 1 by omega)) hk (Ext_rf B) h.1.1 (fun q q1 q2 => cpq q q2) (fun q q1 q2 q3 q4 q5 => by rw [G q q3, D q (by omega) (by omega) (by omega) (by omega) (by omega) q5]) (fun q q1 q2 q3 q4 q5 => by rw [jfq q (by omega), jd q (by omega) (by omega) (by omega) (fun i hi => (q5 i hi).1)]) ?_ (fun j hj => by rw [mfx, va_up_n _ _ (by omega)]) (fun j hj => mfm j (by omega) (by omega) (by omega)) ?_ ?_ ?_ ?_ ?_ ?_ (Gu 3 (by omega)) (Gu 4 (by omega)) ?_ (fun j hj => by rw [jfq _ (by omega), jfq _ (by omega), jd _ (by omega) (by omega) (by omega) (fun i hi => (nf _ (by omega) (by omega) i hi).1), jd _ (by omega) (by omega) (by omega) (fun i hi => (nf _ (by omega) (by omega) i hi).1)]; exact ⟨rfl, rfl⟩)
    (Nat.le_refl _) (fun _ _ => rfl) (RGr_cg (RG_r h) (Ext_rf B) (mfm 36 (by omega) (by omega) (by omega)) ?_ (Gu 31 (by omega)) (Gu 32 (by omega)) (Gu 33 (by omega))) (fun r hr => by rw [Gu 32 (by omega)]) (VCw_cg (RC_w h hk) (by rw [show Mf (o k) = I (o k) from mfo 0 (by omega) (by omega)]) (mfo 1 (by omega) (by omega)) (Gu 11 (by omega)) (Gu 12 (by omega))) (VCe_cg (RC_e h hk) (mfo 4 (by omega) (by omega)) (mfo 5 (by omega) (by omega)) (fun r hr => Gu r (by omega)))
    (VCs_cg (RC_s h hk) (by rw [mfo 4 (by omega) (by omega)]) (by rw [mfo 4 (by omega) (by omega)]) (fun j hj => mfo j (by omega) (by omega)) (fun r r1 r2 => Gu r (by omega)) (fun j j1 j2 => by rw [jfq _ (by omega), jd _ (by omega) (by omega) (by omega) (fun i hi => (no20 j (by omega) (by omega) i hi).1)]) (by rw [jfq _ (by omega), jd _ (by omega) (by omega) (by omega) (fun i hi => (nf _ (by omega) (by omega) i hi).1)]) (by rw [jfq _ (by omega), jd _ (by omega) (by omega) (by omega) (fun i hi => (nf _ (by omega) (by omega) i hi).1)]))
    (VCm_cg hv.2.2.2.2.1 (mfo 14 (by omega) (by omega)) (mfo 15 (by omega) (by omega)) (mfo 16 (by omega) (by omega)) (mfo 13 (by omega) (by omega)) (fun j j1 j2 => by rw [Gm 15 (by omega), m15' j (by omega)]) (fun j j1 j2 => by rw [Gm 16 (by omega), m16' j (by omega)]) (fun j j1 j2 => by rw [Gm 17 (by omega), m17' j (by omega)]) (by rw [Gm 18 (by omega), m18' _ (by omega)])) ?_ ?_ ?_ ?_ ?_, Ext_rf B, by omega, by omega, fun q hq => by rw [G q (by omega), D q (by omega) (by omega) (by omega) (by omega) (by omega) (nx22 q (by omega))]⟩
  · rw [mfx, gm, va_up_s, va_up_s]
  · rw [jfq _ (by omega), eJ, cJ, sp_up_at, gJ, sp_up_at, mJ, sp_up_at, jd m (by omega) (by omega) (by omega) (fun i hi => (nf _ (by omega) (by omega) i hi).1), (RG_j h).1]
  · intro i hi
    rw [G _ (by omega), fI _ (by omega) (by omega) (by omega) (by omega) (by omega) (nx22 _ (by omega)), Gm 1 (by omega)]; exact jf i hi
  · refine ⟨t + chN ks 4 + jo, by omega, by rw [G _ (by omega), e1', va_up_s], by rw [gm, va_up_n _ _ (by omega), va_up_s], fun i hi => ?_⟩
    rw [G _ (by omega), e3', g2]
    exact joM_cg hjo1 (chM_cg jt 4) i hi
  · refine ⟨fun j j1 j2 => ?_, fun j hj => ?_, fun j hj => ?_⟩
    · rw [G _ (by omega)]; exact z5 j j1 j2
    · rw [jfq _ (by omega)]; exact z15 j hj
    · rw [jfq _ (by omega)]; exact z16 j hj
  · rw [G _ (by omega), D _ (by omega) (by omega) (by omega) (by omega) (by omega) (nx22 _ (by omega))]
  · rw [G _ (by omega), D _ (by omega) (by omega) (by omega) (by omega) (by omega) (nx22 _ (by omega))]
  · intro r j r1 r2 r3 hj
    by_cases u : (3 ≤ r ∧ r ≤ 14) ∨ (19 ≤ r ∧ r ≤ 27) ∨ (31 ≤ r ∧ r ≤ 33) ∨ r = 46 ∨ r = 48
    · rw [Gu r u]
    · by_cases u1 : r = 34 ∨ r = 35 ∨ r = 37 ∨ (39 ≤ r ∧ r ≤ 43)
      · have e : szM r = 1 := by unfold szM; rw [if_neg (by omega), if_neg (by omega), if_neg (by omega), if_neg (by omega), if_neg (by omega), if_neg (by omega), if_neg (by omega), if_neg (by omega), if_neg (by omega)]
        rw [e] at hj
        rw [Gm r (by omega), mo' r j u1 (by omega)]
      · rcases (show r = 15 ∨ r = 16 ∨ r = 17 ∨ r = 18 ∨ r = 28 ∨ r = 29 ∨ r = 30 ∨ r = 36 ∨ r = 38 ∨ r = 44 ∨ r = 45 ∨ r = 47 ∨ r = 49 ∨ r = 50 ∨ r = 51 ∨ r = 52 by omega) with rfl | rfl | rfl | rfl | rfl | rfl | rfl | rfl | rfl | rfl | rfl | rfl | rfl | rfl | rfl | rfl
        · have hj' : j < 320 * k ∨ 320 * k + 320 ≤ j := hj
          rw [Gm 15 (by omega), m15' j (by omega)]
        · have hj' : j < 16 * k ∨ 16 * k + 16 ≤ j := hj
          rw [Gm 16 (by omega), m16' j (by omega)]
        · have hj' : j < 16 * k ∨ 16 * k + 16 ≤ j := hj
          rw [Gm 17 (by omega), m17' j (by omega)]
        · have hj' : j < 2 * k ∨ 2 * k + 2 ≤ j := hj
          rw [Gm 18 (by omega), m18' j (by omega)]
        · have hj' : j < 1 * k ∨ 1 * k + 1 ≤ j := hj
          rw [Gm 28 (by omega), m28, va_up_n _ _ (by omega)]
        · have hj' : j < 250 * k ∨ 250 * k + 250 ≤ j := hj
          rw [Gm 29 (by omega), m29' j (by omega)]
        · have hj' : j < 250 * k ∨ 250 * k + 250 ≤ j := hj
          rw [Gm 30 (by omega), m30' j (by omega)]
        · have hj' : j < 1 * k ∨ 1 * k + 1 ≤ j := hj
          rw [g36, va_up_n _ _ (by omega), mu 36 (by omega)]
        · have hj' : j < 1 * k ∨ 1 * k + 1 ≤ j := hj
          rw [g38, va_up_n _ _ (by omega), mu 38 (by omega)]
        · have hj' : j < 1 * k ∨ 1 * k + 1 ≤ j := hj
          rw [g44, va_up_n _ _ (by omega), mu 44 (by omega)]
        · have hj' : j < 322 * k ∨ 322 * k + 322 ≤ j := hj
          have : oN dr N ≤ 321 := by unfold oN; split <;> (try split) <;> omega
          rw [g45, sgp_out (by omega), mu 45 (by omega)]
        · have hj' : j < 1 * k ∨ 1 * k + 1 ≤ j := hj
          rw [g47, va_up_n _ _ (by omega), mu 47 (by omega)]
        · have hj' : j < 4 * k ∨ 4 * k + 4 ≤ j := hj
          rw [g49 _ j (by omega) hj', mu 49 (by omega)]
        · have hj' : j < 4 * k ∨ 4 * k + 4 ≤ j := hj
          rw [g49 _ j (by omega) hj', mu 50 (by omega)]
        · have hj' : j < 4 * k ∨ 4 * k + 4 ≤ j := hj
          rw [g49 _ j (by omega) hj', mu 51 (by omega)]
        · have hj' : j < 640 * k ∨ 640 * k + 640 ≤ j := hj
          rw [g52 j hj', mu 52 (by omega)]
  · intro r hr
    have t := ro r hr
    have ne : ∀ j, j < 33 → ρ r ≠ o k + j := fun j hj e => by have u := tg j hj; rw [← e] at u; omega
    have n2 := ne 2 (by omega)
    have n17 := ne 17 (by omega)
    have n18 := ne 18 (by omega)
    have n28 := ne 28 (by omega)
    have n29 := ne 29 (by omega)
    have n30 := ne 30 (by omega)
    have n31 := ne 31 (by omega)
    have n32 := ne 32 (by omega)
    rw [G _ (by omega), D _ (by omega) n2 n17 n18 (by omega) (fun i hi => by
      have f := VC_tf hv hi
      exact ⟨fun e => by rw [← e] at f; omega, fun e => by rw [← e] at f; omega⟩)]
  · have oN1 : oN dr N ≤ 321 := by unfold oN; split <;> (try split) <;> omega
    have yr := oY_r (dr := dr) (N := N) (Y := joY jo (nI bd) (chY ks zs cs gs Ks ga LL N Y 4) (I (o k + 28)) N ot) (by omega) (by omega) (joY_r (by omega) (chY_r hYr 4 (fun j hj => (hQ' j hj).1.2.2.2.1)) hO (by rw [hbd]; omega) (by rw [hbd]; omega))
    refine ⟨⟨oN dr N, oN1, ?_, ?_, fun j hj => ?_⟩, ⟨rt, rt1, ?_, ?_⟩, ?_, ⟨(nx + 1) % 65536, by omega, ?_, ?_⟩, ⟨bd, b0, b1, ?_, ?_⟩, ⟨0, by omega, ?_, ?_⟩, ?_, ⟨de + 1, by omega, ?_, ?_, Or.inr ⟨by omega, ?_, ?_⟩⟩, ⟨r1, hr1, ?_, ?_⟩, ?_, ?_, ?_⟩
    · rw [mf17]; simp (disch := omega) only [va_up_s, va_up_n]
    · rw [g44, va_up_s]
    · rw [G _ (by omega), e28 j hj, g45, sgp_in hj]; exact ⟨rfl, yr j hj⟩
    · rw [mf17]; simp (disch := omega) only [va_up_n]; exact r7
    · rw [Gm 34 (by omega)]; exact m34
    · rw [mf17, Gm 35 (by omega), m35]; simp (disch := omega) only [va_up_n]; exact r8
    · rw [mf17, va_up_s]
    · rw [g36, va_up_s]
    · rw [mf17]; simp (disch := omega) only [va_up_n]; rw [rj 10 (by omega)]; exact b2
    · rw [Gu 46 (by omega)]; exact b3
    · rw [mf17]; simp (disch := omega) only [va_up_s, va_up_n]; rfl
    · rw [g47, va_up_s]; rfl
    · rw [mf17, Gm 42 (by omega), m42]; simp (disch := omega) only [va_up_n]; exact r12
    · rw [mf17]; simp (disch := omega) only [va_up_s, va_up_n]; exact nde
    · rw [g38, va_up_s]; exact nde
    · rw [mf17, Gm 43 (by omega), m43]; simp (disch := omega) only [va_up_n]; exact r13.symm
    · rw [Gm 43 (by omega), m43]; exact hwy
    · rw [mf17]; simp (disch := omega) only [va_up_n]; exact r14
    · rw [Gm 37 (by omega)]; exact m37
    · rw [mf17, Gm 39 (by omega), m39]; simp (disch := omega) only [va_up_n]; exact r16'
    · rw [mf17, Gm 40 (by omega), m40]; simp (disch := omega) only [va_up_n]; exact r17
    · rw [mf17, Gm 41 (by omega), m41]; simp (disch := omega) only [va_up_n]; exact r18
  · have mH : ∀ j, 29 ≤ j → j ≤ 32 → Mf (o k + j) = Ic (o k + j) := fun j j1 j2 => by rw [G _ (by omega), fI _ (by omega) (by omega) (by omega) (by omega) (by omega) (no20 j (by omega) (by omega))]
    refine ⟨?_, ?_, ?_, ?_, LL, LL1, LL2, by rw [mH 29 (by omega) (by omega)]; exact c29, by rw [Gm 18 (by omega)]; exact m18⟩
    · rw [Gm 15 (by omega), m15, show o k + 29 + 1 = o k + 30 from rfl, mH 30 (by omega) (by omega), c30]
    · intro j hj
      rw [show o k + 29 + 1 = o k + 30 from rfl, mH 30 (by omega) (by omega), c30]; exact hHr j hj
    · rw [Gm 16 (by omega), m16, show o k + 29 + 2 = o k + 31 from rfl, mH 31 (by omega) (by omega), c31]
    · rw [Gm 17 (by omega), m17, show o k + 29 + 3 = o k + 32 from rfl, mH 32 (by omega) (by omega), c32]
  · intro i hi
    have := fo i hi
    exact ⟨_, _, _, _, _, FSc_cp (eF i hi) (G _ (by omega)) (G _ (by omega)) (jfq _ (by omega)) rfl, gF i hi⟩
  · refine ⟨n2, by omega, ?_, ?_, fun i hi => ?_, fun i j hi hj e => ?_⟩
    · rw [G _ (by omega), fI _ (by omega) (by omega) (by omega) (by omega) (by omega) (no20 2 (by omega) (by omega))]; exact co2
    · rw [Gm 28 (by omega), m28, va_up_s]
    · obtain ⟨f1, f2, f3⟩ := c4 (s2 i) (so2 i hi)
      have f4 := f3.2.1
      show Pc (o k + 3) i = some (φ k (s2 i)) ∧ o k + 33 ≤ φ k (s2 i) ∧ VFr B Mf Pc m R ρ (φ k (s2 i)) (250 * k + i)
      refine ⟨cp i hi, f2, VFr_cg h f3 (Ext_rf B) (Nat.le_refl _) (fun _ _ => rfl) (fun r hr => by rw [Gu 32 (by omega)]) ?_ (by rw [Gm 29 (by omega)]; exact m29 i hi) (by rw [Gm 30 (by omega)]; exact m30 i hi) (cpq _ (by omega))⟩
      rw [G _ (by omega), D _ (by omega) (by omega) (by omega) (by omega) (by omega) (fun q hq => by
        have f := VC_tf hv hq
        have f5 := f3.1
        exact ⟨fun e => by rw [e] at f5; omega, fun e => by rw [e] at f5; omega⟩)]
    · have e2 := c5 _ _ (so2 i hi) (so2 j hj) e
      rcases Nat.lt_trichotomy i j with c | c | c
      · have := so3 i j c hj; omega
      · exact c
      · have := so3 j i c hi; omega
  · intro q hq
    obtain ⟨L2, i, a1, a2, a3, a4⟩ := hq
    rw [Gm 28 (by omega), m28, va_up_s] at a1
    have : n2 = L2 := (nI_eq (by omega) (by omega)).mp a1
    subst this
    exact Or.inl ⟨L, s2 i, l3, l1, so2 i a3, a4⟩
end DD0
