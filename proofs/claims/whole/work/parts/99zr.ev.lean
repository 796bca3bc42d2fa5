/-! ENCODE: a voice, and the joint step -/
theorem sp_tr_cg {F F' : Nat → Int32} {t w1 w2 : Nat} (h : ∀ j, j < t → F j = F' j) : ∀ k j, j < t + 3 * k → sp_tr F t w1 w2 k j = sp_tr F' t w1 w2 k j := by
  intro k
  induction k with
  | zero => intro j hj; exact h j (by omega)
  | succ k ih =>
    intro j hj
    unfold sp_tr
    by_cases e2 : j = t + 3 * k + 2
    · rw [e2, va_up_s, va_up_s]
    · rw [va_up_n _ _ e2, va_up_n _ _ e2]
      by_cases e1 : j = t + 3 * k + 1
      · rw [e1, va_up_s, va_up_s]
      · rw [va_up_n _ _ e1, va_up_n _ _ e1]
        by_cases e0 : j = t + 3 * k
        · rw [e0, va_up_s, va_up_s]
        · rw [va_up_n _ _ e0, va_up_n _ _ e0]
          exact ih j (by omega)
section EV0
variable {g : mm_G} {B : mm_B} {I Ia : mm_TI} {J : mm_TJ} {P : mm_TP} {x m n R K k L w rt em lv nu rd so td s1 s2 : Nat} {o : Nat → Nat} {fl φ : Nat → Nat → Nat} {ρ : Nat → Nat}
theorem en_V (h : RC g B I J P x m n R K o fl φ ρ) (hk : k < n) (hK : K < 600) (hR : R ≤ K) (l2 : I (o k + 2) 1 = nI L) (l3 : I (m + 28) k = nI L) (hl : L < 250) (w1 : w ≤ 640) (w2 : I (o k) 1 = nI w) (w3 : I (m + 11) k = nI w) (w4 : ∀ j, j < w → I (o k + 1) j = I (m + 12) (640 * k + j)) (hw : 160 * (rt + 1) ≤ w)
    (rt1 : rt ≤ 1) (rt2 : I (o k + 4) 10 = nI rt) (rt3 : I (m + 5) k = nI rt) (s11 : s1 ≤ 1) (s12 : I (o k + 4) 11 = nI s1) (s13 : I (m + 7) (2 * k) = nI s1) (s21 : s2 ≤ 1) (s22 : I (o k + 4) 12 = nI s2) (s23 : I (m + 7) (2 * k + 1) = nI s2) (em1 : em ≤ 1) (em2 : I (o k + 4) 13 = nI em) (em3 : I (m + 6) k = nI em) (rd1 : rd ≤ 1) (rd2 : I (o k + 4) 14 = nI rd) (rd3 : I (m + 9) k = nI rd) (lv1 : lv ≤ 32769) (lv2 : I (o k + 4) 15 = nI lv) (lv3 : I (m + 8) k = nI lv) (nu1 : nu < 65536) (nu2 : I (o k + 4) 16 = nI nu) (nu3 : I (m + 10) k = nI nu)
    (q17 : I (o k + 4) 17 = I (m + 14) k) (q18 : I (o k + 4) 18 = I (m + 13) k) (q5 : I (o k + 5) = sg (I (m + 19)) (8 * k) 8) (so1 : so ≤ 2) (so2 : I (m + 20) k = nI so) (so3 : I (o k + 4) 9 = nI (if so = 1 then 1 else 0)) (so4 : so = 1 → I (o k + 10) 0 = I (m + 22) (28 * k + 21) ∧ I (o k + 10) 1 = I (m + 22) (28 * k + 22))
    (htd : td = if rd = 1 ∧ so = 1 then 1 else 0) (en : ENa x (o k) (mm_nx B) (160 * (rt + 1)) w I Ia) (Kc : ENc g B I Ia J P x (o k) k L nu (φ k)) (hvoi : ¬ sp_fP em (Ia (x + 5)) (I (m + 13) k) (160 * (rt + 1)) < nI lv) : JR g mX11_encode mX12_encode [.int (nI k)] K x m B I J P := by
  obtain ⟨hV, hM, hG, hc, hgx⟩ := RG_ly h
  obtain ⟨h8, hx4, hm0⟩ := RG_n h
  obtain ⟨xm, mn⟩ := RC_xm h
  have hv := RC_v h hk
  have mo := hv.1.2.1
  have no := hv.1.2.2.1
  have hC := hv.1.1
  have hPa := hv.1.2.2.2.2.1
  obtain ⟨vm1, vm2, vm3, vm4, -⟩ := hv.2.2.2.2.1
  have v14 : I (o k + 14) = sg (I (m + 15)) (320 * k) 160 := by rw [show 320 * k = 160 * (2 * k) by omega]; exact vm1
  have v15 : I (o k + 15) = sg (I (m + 16)) (16 * k) 8 := by rw [show 16 * k = 8 * (2 * k) by omega]; exact vm3
  have td1 : td ≤ 1 := by rw [htd]; split <;> omega
  have tds : td = 0 ∨ (td = 1 ∧ so = 1) := by rw [htd]; split <;> omega
  obtain ⟨a1, a2, a3, a4, a5⟩ := en
  have A : ∀ j, 2 ≤ j → j ≤ 32 → Ia (o k + j) = I (o k + j) := fun j j1 j2 => a5 _ (by omega) (by omega) (by omega) (by omega) (by omega)
  have AX : ∀ j, 1 ≤ j → j ≤ 21 → j ≠ 5 → Ia (x + j) = I (x + j) := fun j j1 j2 j3 => a5 _ (by omega) (by omega) (by omega) (by omega) (by omega)
  have nx1 : mm_nx (mm_al B 104 0 3) = mm_nx B + 1 := rfl
  have hX1 : Ext B (mm_al B 104 0 3) := Ext_al h.1.1
  obtain ⟨X, hX⟩ : ∃ X, sp_fR em (160 * (rt + 1)) 0 (Ia (x + 5)) (I (m + 13) k) = X := ⟨_, rfl⟩
  obtain ⟨pr, hpr⟩ : ∃ pr, sp_pr X (160 * (rt + 1)) = pr := ⟨_, rfl⟩
  obtain ⟨la, hla⟩ : ∃ la, sp_la pr.1 X (I (o k + 5), I (o k + 11), 0) (160 * (rt + 1)) = la := ⟨_, rfl⟩
  obtain ⟨vV, hvV⟩ : ∃ vV, sp_vV pr.1 la.2.1 (40 * (rt + 1)) s1 s2 (I (o k + 14)) (I (o k + 15), I (x + 6), 0) 4 = vV := ⟨_, rfl⟩
  obtain ⟨Ib, Jb, ef, r1, r2, h14, h12, h15, h16, h5, h11, hpt, h13, j3, h4, t3, t1, z5, z15, z16, fI, fJ⟩ := cx_X2_encV (g := g) (B := mm_al B 104 0 3) (I := Ia) (J := va_up J (mm_nx B) (fun _ => 0)) (P := va_up P (mm_nx B) (fun _ => none)) (x := x) (o := o k) (rt := rt) (em := em) (N := 160 * (rt + 1)) (lv := lv) (nu := nu) (rd := rd) (sp := if so = 1 then 1 else 0) (spr := 2 * td) (w1 := s1) (w2 := s2) (W := Ia (x + 5)) (X := X) (raw := I (m + 13) k) (en := I (m + 14) k) (pr := pr) (la := la) (vV := vV)
    (lyV_al hV (by omega)) (lyC_al hC (by omega)) (ly_G_ext hG hX1) (st_c_lo hc hgx (fun q hq => a5 q (by omega) (by omega) (by omega) (by omega) (by omega))) hgx (by omega) (by rw [nx1]; omega) (fun i hi => by rw [va_up_n _ _ (by omega)]; exact hPa i hi) rt1 (by rw [A 4 (by omega) (by omega)]; exact rt2) rfl (by rw [A 4 (by omega) (by omega)]; exact em2) em1 (by rw [A 4 (by omega) (by omega)]; exact q18) rfl
    (by rw [A 4 (by omega) (by omega)]; exact lv2) rd1 (by split <;> omega) (by rw [A 4 (by omega) (by omega)]; exact rd2) (by rw [A 4 (by omega) (by omega)]; exact so3) (by rw [A 4 (by omega) (by omega)]; exact nu2) (by rw [A 4 (by omega) (by omega)]; exact q17) nu1 (by rw [htd]; by_cases e : so = 1 <;> by_cases e2 : rd = 1 <;> simp [e, e2])
    s11 s21 (by rw [A 4 (by omega) (by omega)]; exact s12) (by rw [A 4 (by omega) (by omega)]; exact s22)
    (by rw [A 14 (by omega) (by omega), v14]; exact sg_z) (by rw [A 14 (by omega) (by omega)]; exact fun j hj => vm2 j hj) hvoi hX hpr (by rw [A 5 (by omega) (by omega), A 11 (by omega) (by omega)]; exact hla) (by rw [A 14 (by omega) (by omega), A 15 (by omega) (by omega), AX 6 (by omega) (by omega) (by omega)]; exact hvV)
  rw [nx1] at ef r1 r2
  simp only [nx1] at fI fJ
  simp only [A 14 (by omega) (by omega)] at h14 h12 hpt h13
  have FI : ∀ q, q ≠ mm_nx B + 1 → q < x ∨ q = x ∨ q = x + 2 ∨ q = x + 20 ∨ q = x + 21 ∨ x + 22 ≤ q → q ≤ o k + 3 ∨ q = o k + 6 ∨ o k + 17 ≤ q → Ib q = Ia q := fun q c0 c1 c2 => fI q c0 (by omega) (by omega) (by omega) (by omega) (by omega) (by unfold VPf; omega) (by omega)
  obtain ⟨Ic, Pc, ap, gx, gr, cl⟩ := Kc _ Ib Jb (by rw [FI _ (by omega) (by omega) (by omega), A 2 (by omega) (by omega)]) ef
  obtain ⟨p1, p2, p3, p4, p5, p6, -, p8⟩ := ap
  have C : ∀ q, q < mm_nx B → q < x ∨ q = x + 2 ∨ q = x + 20 ∨ q = x + 21 ∨ x + 22 ≤ q → q < o k ∨ q = o k + 3 ∨ q = o k + 6 ∨ o k + 17 ≤ q → Ic q = I q := fun q c0 c1 c2 => by
    rw [p6 q c0 (by omega) (by omega), FI q (by omega) (by omega) (by omega), a5 q c0 (by omega) (by omega) (by omega) (by omega)]
  have M : ∀ j, j < 64 → Ic (m + j) = I (m + j) := fun j hj => C _ (by omega) (by omega) (by omega)
  have M0 : Ic m = I m := M 0 (by omega)
  have hX2 : Ext B (mm_al (mm_al B 104 0 3) 201 (6 + 28 + 2 * td + 1) (6 + 28 + 2 * td + 1)) := Ext_tr hX1 (Ext_al (al_z h.1.1))
  obtain ⟨Xm, hXm⟩ : ∃ Xm, sgp (I (m + 53)) 0 (160 * (rt + 1)) (sp_fX em (Ia (x + 5)) (I (m + 13) k)) = Xm := ⟨_, rfl⟩
  have eX : ∀ j, j < 160 * (rt + 1) → Xm j = X j := fun j hj => by
    have e := sgp_in (f := I (m + 53)) (v := sp_fX em (Ia (x + 5)) (I (m + 13) k)) (off := 0) hj
    rw [Nat.zero_add] at e
    rw [← hXm, e, ← hX]; unfold sp_fR; rw [if_pos ⟨by omega, hj⟩]
  obtain ⟨lm, hlm⟩ : ∃ lm, sp_la pr.1 Xm (sg (I (m + 19)) (8 * k) 8, sg (I (m + 26)) (320 * k) 320, 0) (160 * (rt + 1)) = lm := ⟨_, rfl⟩
  obtain ⟨b1, b2, b3⟩ : la.1 = lm.1 ∧ la.2.2 = lm.2.2 ∧ ∀ j, j < 160 * (rt + 1) → la.2.1 j = lm.2.1 j := by
    rw [← hla, ← hlm, sp_la_cg _ eX, ← q5]
    exact sp_la_R _
  obtain ⟨vm, hvm⟩ : ∃ vm, sp_vV pr.1 la.2.1 (40 * (rt + 1)) s1 s2 (I (o k + 14)) (I (o k + 15), I (m + 54), 0) 4 = vm := ⟨_, rfl⟩
  obtain ⟨y1, y2⟩ : vV.1 = vm.1 ∧ vV.2.2 = vm.2.2 := by
    rw [← hvV, ← hvm]; exact sp_vV_Y 4
  obtain ⟨I1, I2, I3, Im, Jm, ml, ⟨⟨e15, e15'⟩, ⟨e27, e27'⟩, ⟨e16, e16'⟩, ⟨emt, e22', e23', e24'⟩, e2, em5, emj, e21, e17, e19, e26, e25, e18, eJ, eq, eJq⟩, hI3, ⟨t31, t33, t2, tm, t29, t30, t28, t10, t14, tq⟩, f53, f12, f13, f11, f2, fm, f31, f32, fq⟩ := cx_X12_encV (g := g) (B := mm_al (mm_al B 104 0 3) 201 (6 + 28 + 2 * td + 1) (6 + 28 + 2 * td + 1)) (I := Ic) (J := Jb) (P := Pc) (m := m) (c := k) (rt := rt) (em := em) (wt := w) (ln := L) (R := R) (nu := nu) (rd := rd) (so := so) (td := td) (n := n) (N := 160 * (rt + 1)) (lv := lv) (w1 := s1) (w2 := s2) (W := Ia (x + 5)) (H0 := I (o k + 14)) (V0 := I (o k + 15)) (X := Xm) (Rr := la.2.1) (raw := I (m + 13) k) (en := I (m + 14) k) (pr := pr) (la := lm) (vV := vm)
    (lyM_ext hM hX2 (fun q q1 q2 => p8 q (by omega) (by omega))) (by rw [M0]; exact hm0) hk h8 rt1 (by rw [M 5 (by omega)]; exact rt3) rfl (by rw [M 6 (by omega)]; exact em3) em1 w1 (by rw [M 11 (by omega)]; exact w3) hw (by rw [M 28 (by omega)]; exact l3) hl (by rw [M 13 (by omega)]) (fun j hj => by rw [M 12 (by omega), a1 j hj, w4 j (by omega)])
    (by rw [M0]; exact (RG_r h).1) (by omega) (by rw [M 10 (by omega)]; exact nu3) nu1 (by rw [M 9 (by omega)]; exact rd3) rd1 (by rw [M 20 (by omega)]; exact so2) so1 htd (by rw [M 8 (by omega)]; exact lv3) (by rw [M 14 (by omega)]) hvoi
    s11 s21 (by rw [M 7 (by omega)]; exact s13) (by rw [M 7 (by omega)]; exact s23) (by rw [M 53 (by omega)]; exact hXm) (by rw [← hpr]; exact sp_pr_cg eX) (by rw [M 19 (by omega), M 26 (by omega)]; exact hlm) (fun j hj => (b3 j hj).symm) (by rw [M 15 (by omega)]; exact v14.symm) (fun j hj => vm2 j hj) (by rw [M 16 (by omega)]; exact v15.symm) (by rw [M 54 (by omega)]; exact hvm)
  have G : ∀ j, j < 53 → j ≠ 0 → j ≠ 2 → j ≠ 11 → j ≠ 12 → j ≠ 13 → j ≠ 31 → j ≠ 32 → I1 (m + j) = I (m + j) := fun j j0 j1 j2 j3 j4 j5 j6 j7 => by
    rw [fq _ (by omega) (by omega) (by omega) (by omega) (by omega) (by omega) (by omega) (by omega), M j (by omega)]
  have G0 : I1 m = va_up (va_up (I m) 5 (nI 1)) 36 (nI (R + 1)) := by rw [fm, M0]
  rw [M 22 (by omega), show 34 + 2 * td = 6 + 28 + 2 * td by omega] at t33
  have H : ∀ q, VMf m q → q ≠ m + 17 → q ≠ m + 18 → q ≠ m + 19 → q ≠ m + 20 → q ≠ m + 21 → q ≠ m + 25 → q ≠ m + 26 → I3 q = I1 q := fun q c0 c1 c2 c3 c4 c5 c6 c7 => by
    rw [hI3, va_up_n _ _ c4, eq q c0 c5 c1 c2 c3 c6 c7]
  have I32 : ∀ q, q ≠ m + 20 → I3 q = I2 q := fun q hq => by rw [hI3, va_up_n _ _ hq]
  have Q : ∀ q, q < m ∨ m + 64 ≤ q → Im q = Ic q := fun q hq => by
    rw [tq q (by omega) (by omega) (by omega) (by omega) (by omega) (by omega) (by omega) (by omega) (by omega), H q (by unfold VMf; omega) (by omega) (by omega) (by omega) (by omega) (by omega) (by omega) (by omega), fq q (by omega) (by omega) (by omega) (by omega) (by omega) (by omega) (by omega) (by omega)]
  have Qm : ∀ j, j < 53 → j = 1 ∨ (3 ≤ j ∧ j ≤ 9) ∨ 34 ≤ j → Im (m + j) = I (m + j) := fun j j0 j1 => by
    rw [tq _ (by omega) (by omega) (by omega) (by omega) (by omega) (by omega) (by omega) (by omega) (by omega), H _ (by unfold VMf; omega) (by omega) (by omega) (by omega) (by omega) (by omega) (by omega) (by omega), G j (by omega) (by omega) (by omega) (by omega) (by omega) (by omega) (by omega) (by omega)]
  have T2 : ∀ j, j = 15 ∨ j = 16 ∨ j = 17 ∨ j = 18 ∨ j = 19 ∨ j = 21 ∨ j = 22 ∨ (25 ≤ j ∧ j ≤ 27) → Im (m + j) = I2 (m + j) := fun j hj => by
    rw [tq _ (by omega) (by omega) (by omega) (by omega) (by omega) (by omega) (by omega) (by omega) (by omega), I32 _ (by omega)]
  have T1 : ∀ j, j = 11 ∨ j = 12 ∨ j = 13 ∨ j = 23 ∨ j = 24 ∨ j = 32 → Im (m + j) = I1 (m + j) := fun j hj => by
    rw [tq _ (by omega) (by omega) (by omega) (by omega) (by omega) (by omega) (by omega) (by omega) (by omega), H _ (by unfold VMf; omega) (by omega) (by omega) (by omega) (by omega) (by omega) (by omega) (by omega)]
  have U : ∀ j, j = 10 ∨ j = 14 ∨ (28 ≤ j ∧ j ≤ 30) ∨ j = 33 → I3 (m + j) = I (m + j) := fun j hj => by
    rw [H _ (by unfold VMf; omega) (by omega) (by omega) (by omega) (by omega) (by omega) (by omega) (by omega), G j (by omega) (by omega) (by omega) (by omega) (by omega) (by omega) (by omega) (by omega)]
  rw [U 10 (by omega)] at t10
  rw [U 14 (by omega)] at t14
  rw [U 28 (by omega)] at t28
  rw [U 29 (by omega)] at t29
  rw [U 30 (by omega)] at t30
  rw [U 33 (by omega)] at t33
  rw [H _ (by unfold VMf; omega) (by omega) (by omega) (by omega) (by omega) (by omega) (by omega) (by omega), f31, bx_uu, M 31 (by omega)] at t31
  rw [M 32 (by omega)] at f32
  rw [M 12 (by omega)] at f12
  rw [M 13 (by omega)] at f13
  rw [M 11 (by omega)] at f11
  rw [M 2 (by omega)] at f2
  rw [I32 _ (by omega), e2, f2] at t2
  rw [I32 m (by omega)] at tm
  rw [G 21 (by omega) (by omega) (by omega) (by omega) (by omega) (by omega) (by omega) (by omega)] at e21
  rw [G 17 (by omega) (by omega) (by omega) (by omega) (by omega) (by omega) (by omega) (by omega)] at e17
  rw [G 19 (by omega) (by omega) (by omega) (by omega) (by omega) (by omega) (by omega) (by omega)] at e19
  rw [G 26 (by omega) (by omega) (by omega) (by omega) (by omega) (by omega) (by omega) (by omega)] at e26
  rw [G 25 (by omega) (by omega) (by omega) (by omega) (by omega) (by omega) (by omega) (by omega)] at e25
  rw [G 18 (by omega) (by omega) (by omega) (by omega) (by omega) (by omega) (by omega) (by omega)] at e18
  have i20 : Im (m + 20) = va_up (I (m + 20)) k (nI 1) := by rw [tq _ (by omega) (by omega) (by omega) (by omega) (by omega) (by omega) (by omega) (by omega) (by omega), hI3, va_up_s, M 20 (by omega)]
  have im : ∀ j, j ≠ 1 → j ≠ 5 → j < 71 → Im m j = va_up (I m) 36 (nI (R + 1)) j := fun j j1 j2 j3 => by
    rw [tm, va_up_n _ _ j1, va_up_n _ _ j2, emj j j2 (by omega), G0]
    by_cases e : j = 36
    · subst e; rw [va_up_s, va_up_s]
    · rw [va_up_n _ _ e, va_up_n _ _ j2, va_up_n _ _ e]
  have i4 : Im (o k + 4) = va_up (va_up (va_up (va_up (va_up (I (o k + 4)) 18 (Ia (x + 5) (160 * (rt + 1) - 1))) 9 (nI 1)) 8 (nI rt)) 17 (I (m + 14) k + nI 1)) 16 (nI ((nu + 1) % 65536)) := by rw [Q _ (by omega), p6 _ (by omega) (by omega) (by omega), h4, A 4 (by omega) (by omega)]
  have ix0 : Im x = va_up (I x) 9 (nI 0) := by rw [Q x (by omega), gx, FI x (by omega) (by omega) (by omega), a4]
  have fo : ∀ q, q < mm_nx B → q < x ∨ x + 22 ≤ q → q < m ∨ m + 64 ≤ q → q < o k ∨ o k + 17 ≤ q → Im q = I q := fun q q0 q1 q2 q3 => by rw [Q q q2, C q q0 (by omega) (by omega)]
  have jm : ∀ q, q ≠ m → q ≠ m + 23 → q ≠ m + 24 → q < m + 59 ∨ m + 63 < q → Jm q = Jb q := fun q c0 c1 c2 c3 => by rw [eJq q c0 c1 c2 c3]; exact sp_up_o c0
  have jb : ∀ q, q < mm_nx B → q < x + 1 ∨ x + 22 ≤ q → q < o k + 7 ∨ o k + 10 < q → Jb q = J q := fun q q0 q1 q2 => by rw [fJ q (by omega) (by omega) (by omega) (by omega) (by omega) q2, va_up_n _ _ (by omega)]
  obtain ⟨F, hF⟩ : ∃ F, sp_ful (sp_row 1 (nI rt) (nI nu) 28 (2 * td) (sp_fP em (Ia (x + 5)) (I (m + 13) k) (160 * (rt + 1))) pr.1 (fun i j => I2 (m + 22) (28 * k + 7 * i + j)) (I (m + 22) (28 * k + 21) - nI 20) (I (m + 22) (28 * k + 22))) (6 + 28 + 2 * td) = F := ⟨_, rfl⟩
  rw [hF] at t33
  have hF8 : ∀ q, b8 (F q) = F q := fun q => by rw [← hF]; exact sp_ful_b8 (fun j => sp_row_b8 _ _ _ _ _ _ _ _ _ _ _) q
  have pk : ∀ i j, i < 4 → j < 7 → Ib (o k + 7 + i) j = I2 (m + 22) (28 * k + 7 * i + j) := fun i j hi hj => by
    obtain ⟨c0, c1, c2, c3, c4, c5, c6, -⟩ := hpt i hi
    obtain ⟨d0, d1, d2, d3, d4, d5, d6, -⟩ := emt i hi
    rcases (show j = 0 ∨ j = 1 ∨ j = 2 ∨ j = 3 ∨ j = 4 ∨ j = 5 ∨ j = 6 by omega) with rfl | rfl | rfl | rfl | rfl | rfl | rfl
    · exact c0.trans d0.symm
    · exact c1.trans d1.symm
    · exact c2.trans d2.symm
    · exact c3.trans d3.symm
    · exact c4.trans d4.symm
    · exact c5.trans d5.symm
    · exact c6.trans d6.symm
  have hnr : ∀ q, q < 6 + 28 + 2 * td + 1 → Im (mm_nx B + 1) q = F q := fun q hq => by
    rw [Q _ (by omega), gr, ← hF]
    have e : Ib (mm_nx B + 1) q = sp_ful (sp_row 1 (nI rt) (nI nu) 28 (2 * td) (sp_fP em (Ia (x + 5)) (I (m + 13) k) (160 * (rt + 1))) pr.1 (fun i => Ib (o k + 7 + i)) (Ia (o k + 10) 0 - nI 20) (Ia (o k + 10) 1)) (6 + 28 + 2 * td) q := by
      unfold sp_ful
      by_cases c : q < 6 + 28 + 2 * td
      · rw [if_pos c]; exact r1 q c
      · rw [if_neg c, show q = 6 + 28 + 2 * td by omega]; exact r2
    rw [e]
    refine sp_ful_cg (fun j hj => sp_row_cg (vo := 1) (bd := 28) (spr := 2 * td) rfl ?_ (fun i j hi hj => pk i j hi hj) j hj) q (by omega)
    rcases tds with e | ⟨e, e2⟩
    · left; omega
    · obtain ⟨s1, s2⟩ := so4 e2
      exact Or.inr ⟨by omega, by rw [A 10 (by omega) (by omega), s1], by rw [A 10 (by omega) (by omega), s2]⟩
  have b16 : ∀ q, o k + 5 ≤ q → q ≤ o k + 16 → Im q = Ib q := fun q c1 c2 => by rw [Q _ (by omega), p6 _ (by omega) (by omega) (by omega)]
  refine ⟨_, _, Ic, Jb, Pc, Im, Jm, Pc, n, R + 1, o, fl, _, _, cl, ml, by omega, RC_mono (en_fin (F := F) (nu := nu) h hk l3 hl (by omega) p3 p4 p5 p8 (by rw [Q _ (by omega)]; exact p1) hnr (fun q _ => hF8 q) (by rw [Q _ (by omega), p2, va_up_s]) t28 t29 t30 (by rw [t31, show 34 + 2 * td = 6 + 28 + 2 * td by omega]) (by rw [T1 32 (by omega)]; exact f32) t33 (by rw [im 36 (by omega) (by omega) (by omega), va_up_s])
    fo (fun q q0 q1 q2 q3 => by rw [jm q (by omega) (by omega) (by omega) (by omega), jb q q0 (by omega) (by omega)]) ?_ (fun j hj => by rw [ix0, va_up_n _ _ (by omega)]) (fun j hj => by rw [im j (by omega) (by omega) (by omega), va_up_n _ _ (by omega)]) ?_ (fun j hj => by rw [Q _ (by omega), C _ (by omega) (by omega) (by omega)]) (fun j hj => Qm j (by omega) (by omega)) ?_ ?_ ?_ ?_
    (fun j hj => by rw [T2 15 (by omega), e15' j hj, G 15 (by omega) (by omega) (by omega) (by omega) (by omega) (by omega) (by omega) (by omega)]) (fun j hj => by rw [T2 16 (by omega), e16' j hj, G 16 (by omega) (by omega) (by omega) (by omega) (by omega) (by omega) (by omega) (by omega)]) (fun j hj => by rw [T2 17 (by omega), e17, sgp_out (by omega)]) (fun j hj => by rw [T2 18 (by omega), e18, va_up_n _ _ hj]) ?_ ?_ ?_ ?_) (by omega), hX2, by show mm_nx B + 2 ≤ _; omega, by show mm_sl B + 3 + _ ≤ _; omega, fun q hq => fo q (by omega) (by omega) (by omega) (by omega)⟩
  · rw [ix0, tm, va_up_s, va_up_s]
  · rw [jm _ (by omega) (by omega) (by omega) (by omega), j3, va_up_n _ _ (by omega), eJ, sp_up_at, jb m (by omega) (by omega) (by omega), (RG_j h).1, b2, y2]
  · have e1 : Im (x + 1) = va_up (I (x + 1)) 2 (nI 16) := by rw [Q _ (by omega), p6 _ (by omega) (by omega) (by omega), t1, AX 1 (by omega) (by omega) (by omega)]
    have e3 : Im (x + 3) = va_up (sp_tr (va_up (va_up (va_up (I (x + 3)) 0 (nI 1)) 1 (nI 3)) 2 (nI 4)) 3 s1 s2 4) 15 (nI 15) := by rw [Q _ (by omega), p6 _ (by omega) (by omega) (by omega), t3, AX 3 (by omega) (by omega) (by omega)]
    refine ⟨16, by omega, by rw [e1, va_up_s], by rw [tm, va_up_n _ _ (by omega), va_up_s], fun i hi => ?_⟩
    rw [e3, t2]
    by_cases c : i = 15
    · subst c; rw [va_up_s, va_up_s]
    · rw [va_up_n _ _ c, va_up_n _ _ c]
      refine sp_tr_cg (fun j hj => ?_) 4 i (by omega)
      rcases (show j = 0 ∨ j = 1 ∨ j = 2 by omega) with rfl | rfl | rfl <;> simp (disch := omega) only [va_up_s, va_up_n]
  · refine ⟨fun j j1 j2 => ?_, fun j hj => ?_, fun j hj => ?_⟩
    · rw [Q _ (by omega), p6 _ (by omega) (by omega) (by omega)]; exact z5 j j1 j2
    · rw [jm _ (by omega) (by omega) (by omega) (by omega)]; exact z15 j hj
    · rw [jm _ (by omega) (by omega) (by omega) (by omega)]; exact z16 j hj
  · intro r j r1 r2 hj
    rcases (show r = 10 ∨ r = 11 ∨ r = 12 ∨ r = 13 ∨ r = 14 ∨ r = 15 ∨ r = 16 ∨ r = 17 ∨ r = 18 ∨ r = 19 ∨ r = 20 ∨ r = 21 ∨ r = 22 ∨ r = 23 ∨ r = 24 ∨ r = 25 ∨ r = 26 ∨ r = 27 ∨ (r ≤ 9) by omega) with rfl | rfl | rfl | rfl | rfl | rfl | rfl | rfl | rfl | rfl | rfl | rfl | rfl | rfl | rfl | rfl | rfl | rfl | e
    · have hj' : j < 1 * k ∨ 1 * k + 1 ≤ j := hj
      rw [t10, va_up_n _ _ (by omega)]
    · have hj' : j < 1 * k ∨ 1 * k + 1 ≤ j := hj
      rw [T1 11 (by omega), f11, va_up_n _ _ (by omega)]
    · have hj' : j < 640 * k ∨ 640 * k + 640 ≤ j := hj
      rw [T1 12 (by omega), f12, sgp_out (by omega)]
    · have hj' : j < 1 * k ∨ 1 * k + 1 ≤ j := hj
      rw [T1 13 (by omega), f13, va_up_n _ _ (by omega)]
    · have hj' : j < 1 * k ∨ 1 * k + 1 ≤ j := hj
      rw [t14, va_up_n _ _ (by omega)]
    · have hj' : j < 320 * k ∨ 320 * k + 320 ≤ j := hj
      rw [T2 15 (by omega), e15' j (by omega), G 15 (by omega) (by omega) (by omega) (by omega) (by omega) (by omega) (by omega) (by omega)]
    · have hj' : j < 16 * k ∨ 16 * k + 16 ≤ j := hj
      rw [T2 16 (by omega), e16' j (by omega), G 16 (by omega) (by omega) (by omega) (by omega) (by omega) (by omega) (by omega) (by omega)]
    · have hj' : j < 16 * k ∨ 16 * k + 16 ≤ j := hj
      rw [T2 17 (by omega), e17, sgp_out (by omega)]
    · have hj' : j < 2 * k ∨ 2 * k + 2 ≤ j := hj
      rw [T2 18 (by omega), e18, va_up_n _ _ (by omega)]
    · have hj' : j < 8 * k ∨ 8 * k + 8 ≤ j := hj
      rw [T2 19 (by omega), e19, sgp_out (by omega)]
    · have hj' : j < 1 * k ∨ 1 * k + 1 ≤ j := hj
      rw [i20, va_up_n _ _ (by omega)]
    · have hj' : j < 8 * k ∨ 8 * k + 8 ≤ j := hj
      rw [T2 21 (by omega), e21, sgp_out (by omega)]
    · have hj' : j < 28 * k ∨ 28 * k + 28 ≤ j := hj
      rw [T2 22 (by omega), e22' j (by omega), G 22 (by omega) (by omega) (by omega) (by omega) (by omega) (by omega) (by omega) (by omega)]
    · rw [T1 23 (by omega), G 23 (by omega) (by omega) (by omega) (by omega) (by omega) (by omega) (by omega) (by omega)]
    · rw [T1 24 (by omega), G 24 (by omega) (by omega) (by omega) (by omega) (by omega) (by omega) (by omega) (by omega)]
    · have hj' : j < 1 * k ∨ 1 * k + 1 ≤ j := hj
      rw [T2 25 (by omega), e25, va_up_n _ _ (by omega)]
    · have hj' : j < 320 * k ∨ 320 * k + 320 ≤ j := hj
      rw [T2 26 (by omega), e26, sgp_out (by omega)]
    · have hj' : j < 640 * k ∨ 640 * k + 640 ≤ j := hj
      rw [T2 27 (by omega), e27' j (by omega), G 27 (by omega) (by omega) (by omega) (by omega) (by omega) (by omega) (by omega) (by omega)]
    · rw [Qm r (by omega) (by omega)]
  · intro j hj
    rw [e23' j hj, e24' j hj, sp_up_o (by omega), sp_up_o (by omega), jb _ (by omega) (by omega) (by omega), jb _ (by omega) (by omega) (by omega)]
    exact ⟨rfl, rfl⟩
  · have io : Im (o k) = va_up (I (o k)) 1 (nI (w - 160 * (rt + 1))) := by rw [Q _ (by omega), p6 _ (by omega) (by omega) (by omega), FI _ (by omega) (by omega) (by omega), a2]
    have io1 : Im (o k + 1) = Ia (o k + 1) := by rw [Q _ (by omega), p6 _ (by omega) (by omega) (by omega), FI _ (by omega) (by omega) (by omega)]
    refine ⟨w - 160 * (rt + 1), by omega, by rw [io, va_up_s], by rw [T1 11 (by omega), f11, va_up_s], fun j hj => ?_⟩
    rw [io1, a3 j hj, w4 _ (by omega), T1 12 (by omega), f12, sgp_in hj]
    congr 1; omega
  · refine ⟨⟨rt, rt1, ?_, ?_⟩, ⟨s1, s11, ?_, ?_⟩, ⟨s2, s21, ?_, ?_⟩, ⟨em, em1, ?_, ?_⟩, ⟨rd, rd1, ?_, ?_⟩, ⟨lv, lv1, ?_, ?_⟩, ⟨(nu + 1) % 65536, by omega, ?_, ?_⟩, ?_, ?_, ?_⟩
    · rw [i4]; simp (disch := omega) only [va_up_n]; exact rt2
    · rw [Qm 5 (by omega) (by omega)]; exact rt3
    · rw [i4]; simp (disch := omega) only [va_up_n]; exact s12
    · rw [Qm 7 (by omega) (by omega)]; exact s13
    · rw [i4]; simp (disch := omega) only [va_up_n]; exact s22
    · rw [Qm 7 (by omega) (by omega)]; exact s23
    · rw [i4]; simp (disch := omega) only [va_up_n]; exact em2
    · rw [Qm 6 (by omega) (by omega)]; exact em3
    · rw [i4]; simp (disch := omega) only [va_up_n]; exact rd2
    · rw [Qm 9 (by omega) (by omega)]; exact rd3
    · rw [i4]; simp (disch := omega) only [va_up_n]; exact lv2
    · rw [Qm 8 (by omega) (by omega)]; exact lv3
    · rw [i4, va_up_s]
    · rw [t10, va_up_s]
    · rw [i4, t14, va_up_n _ _ (by omega), va_up_s, va_up_s]
    · rw [i4, T1 13 (by omega), f13, va_up_s]; simp (disch := omega) only [va_up_s, va_up_n]
    · rw [b16 _ (by omega) (by omega), h5, T2 19 (by omega), e19, sg_sgp (by rw [← hlm]; exact sp_la_D sg_z _)]; exact b1
  · refine ⟨1, by omega, by rw [i20, va_up_s], by rw [i4]; simp (disch := omega) only [va_up_s, va_up_n]; rfl, fun _ => ⟨rt, rt1, ?_, ?_, ?_, ?_, ?_, ?_, ?_, ?_⟩⟩
    · rw [i4]; simp (disch := omega) only [va_up_s, va_up_n]
    · rw [T2 25 (by omega), e25, va_up_s]
    · intro i j hi hj
      rw [b16 _ (by omega) (by omega), T2 22 (by omega)]; exact pk i j hi hj
    · intro i hi
      obtain ⟨-, -, -, -, -, -, -, c7, c8⟩ := hpt i hi
      obtain ⟨-, -, -, -, -, -, -, d7, d8⟩ := emt i hi
      rw [jm _ (by omega) (by omega) (by omega) (by omega)]
      exact ⟨c7.trans d7.symm, c8.trans d8.symm⟩
    · intro i hi
      obtain ⟨d0, d1, -⟩ := emt i hi
      obtain ⟨c1, c2, c3, -⟩ := vk_P_e (sp_vH la.2.1 (40 * (rt + 1)) s1 s2 (I (o k + 14)) i) (sg la.2.1 (40 * (rt + 1) * i) (40 * (rt + 1))) (40 * (rt + 1)) s1
      rw [T2 22 (by omega)]
      exact ⟨_, _, c1, c2, c3, d0, d1⟩
    · intro j hj
      rw [b16 _ (by omega) (by omega), h16, T2 21 (by omega), e21, sgp_in hj]
    · intro j hj
      rw [b16 _ (by omega) (by omega), h11, T2 26 (by omega), e26, sgp_in (by omega)]
      exact ⟨b3 j hj, by rw [← hla]; exact sp_la_r _ j hj⟩
    · intro i j hi hj
      rw [b16 _ (by omega) (by omega), h12 i (by omega) j hj, T2 27 (by omega), e27 i hi j hj]
      exact ⟨rfl, sp_vH_r (by omega) (fun j hj => vm2 j hj) i j hj⟩
  · obtain ⟨c1, c2, -⟩ := vk_P_e (sp_vH la.2.1 (40 * (rt + 1)) s1 s2 (I (o k + 14)) 3) (sg la.2.1 (40 * (rt + 1) * 3) (40 * (rt + 1))) (40 * (rt + 1)) s1
    have i14 : Im (o k + 14) = sp_vH la.2.1 (40 * (rt + 1)) s1 s2 (I (o k + 14)) 4 := by rw [b16 _ (by omega) (by omega), h14]
    refine ⟨?_, ?_, ?_, ?_, _, c1, c2, by rw [b16 _ (by omega) (by omega)]; exact h13, by rw [T2 18 (by omega), e18, va_up_s]⟩
    · rw [T2 15 (by omega), show 160 * (2 * k) = 320 * k by omega, e15]; exact i14
    · intro j hj
      rw [show o k + 13 + 1 = o k + 14 from rfl, i14]; exact sp_vH_r (by omega) (fun j hj => vm2 j hj) 4 j hj
    · rw [T2 16 (by omega), show 8 * (2 * k) = 16 * k by omega, e16, show o k + 13 + 2 = o k + 15 from rfl, b16 _ (by omega) (by omega), h15]; exact y1
    · rw [T2 17 (by omega), show 8 * (2 * k) = 16 * k by omega, e17, sg_sgp (by rw [← hpr]; exact sp_pr_z), show o k + 13 + 3 = o k + 16 from rfl, b16 _ (by omega) (by omega), h16]
theorem jo_encode {c : Int32} : JO g mX11_encode mX12_encode [.int c] := by
  refine jo_m2 fun K x m B I J P n R o fl φ ρ hK hR h => ?_
  obtain ⟨hV, hM, -⟩ := RG_ly h
  obtain ⟨h8, hx4, hm0⟩ := RG_n h
  obtain ⟨xm, mn⟩ := RC_xm h
  rcases cd_cases h8 c with ⟨k, hk, rfl⟩ | hc
  · have hv := RC_v h hk
    have no := hv.1.2.2.1
    obtain ⟨w, w1, w2, w3, w4⟩ := RC_w h hk
    obtain ⟨⟨rt, rt1, rt2, rt3⟩, ⟨s1, s11, s12, s13⟩, ⟨s2, s21, s22, s23⟩, ⟨em, em1, em2, em3⟩, ⟨rd, rd1, rd2, rd3⟩, ⟨lv, lv1, lv2, lv3⟩, ⟨nu, nu1, nu2, nu3⟩, q17, q18, q5⟩ := RC_e h hk
    obtain ⟨so, so1, so2, so3, so4⟩ := RC_s h hk
    obtain ⟨L, c1, l2, l3, c4, c5⟩ := RC_l h hk
    by_cases hw : w < 160 * (rt + 1)
    · exact Or.inl ⟨_, _, cl_encode_s (CA_of h hk) w2 w1 rt1 rt2 hw, fun I1 h1 => ml_encode_s (MA_of h hk (h1 _ (by omega))) (by rw [h1 _ (by omega)]; exact w3) w1 rt1 (by rw [h1 _ (by omega)]; exact rt3) hw⟩
    · by_cases hu : L = 250
      · subst hu
        exact Or.inl ⟨_, _, cl_encode_u (CA_of h hk) w2 w1 rt1 rt2 (by omega) l2, fun I1 h1 => ml_encode_u (MA_of h hk (h1 _ (by omega))) (by rw [h1 _ (by omega)]; exact w3) w1 rt1 (by rw [h1 _ (by omega)]; exact rt3) (by omega) (by rw [h1 _ (by omega)]; exact l3)⟩
      · right
        obtain ⟨Ia, en, Kc⟩ := cx_encode (g := g) (J := J) (φ := φ k) (CA_of h hk) w2 w1 rt1 rt2 (by omega) l2 (by omega) nu2 no (fun q hq => ⟨(c4 q hq).1, (c4 q hq).2.2.1, (c4 q hq).2.2.2.1⟩)
        have so4' : so = 1 → I (o k + 10) 0 = I (m + 22) (28 * k + 21) ∧ I (o k + 10) 1 = I (m + 22) (28 * k + 22) := fun e => by
          obtain ⟨sr, -, -, -, pk, -⟩ := so4 e
          exact ⟨pk 3 0 (by omega) (by omega), pk 3 1 (by omega) (by omega)⟩
        by_cases hs : sp_fP em (Ia (x + 5)) (I (m + 13) k) (160 * (rt + 1)) < nI lv
        · exact en_S h hk hK hR l2 l3 (by omega) w1 w2 w3 w4 (by omega) rt1 rt2 rt3 em1 em2 em3 rd1 rd2 rd3 lv2 lv3 nu1 nu2 nu3 q17 q18 so1 so2 so3 so4' rfl en Kc hs
        · exact en_V h hk hK hR l2 l3 (by omega) w1 w2 w3 w4 (by omega) rt1 rt2 rt3 s11 s12 s13 s21 s22 s23 em1 em2 em3 rd1 rd2 rd3 lv1 lv2 lv3 nu1 nu2 nu3 q17 q18 q5 so1 so2 so3 so4' rfl en Kc hs
  · exact Or.inl ⟨_, _, cl_encode_f hV hx4 hc, fun I1 h1 => ml_encode_f hM (by rw [h1 _ (by omega)]; exact hm0) hc⟩
end EV0
