/-! ENCODE: a silence -/
def JR (g : mm_G) (Mc Mm : mm_M) (as : List Value) (K x m : Nat) (B : mm_B) (I : mm_TI) (J : mm_TJ) (P : mm_TP) : Prop :=
  ∃ (r : Int32) (B1 : mm_B) (I1 : mm_TI) (J1 : mm_TJ) (P1 : mm_TP) (I2 : mm_TI) (J2 : mm_TJ) (P2 : mm_TP) (n' R' : Nat) (o' : Nat → Nat) (fl' φ' : Nat → Nat → Nat) (ρ' : Nat → Nat), Ct g Mc (.ref x :: as) B I J P (some (.int r), B1, I1, J1, P1) ∧ Ct g Mm (.ref m :: as) B1 I1 J1 P1 (some (.int r), B1, I2, J2, P2) ∧ R' ≤ K + 1 ∧ RC g B1 I2 J2 P2 x m n' R' (K + 1) o' fl' φ' ρ' ∧ Ext B B1 ∧ mm_nx B1 ≤ mm_nx B + 100 ∧ mm_sl B1 ≤ mm_sl B + 10000 ∧ ∀ q, q < x → I2 q = I q
/-- what the class's call still owes once its frame is coded -/
def ENc (g : mm_G) (B : mm_B) (I Ia : mm_TI) (J : mm_TJ) (P : mm_TP) (x o k L nu : Nat) (φ : Nat → Nat) : Prop := ∀ (ln : Nat) (Ib : mm_TI) (Jb : mm_TJ), Ib (o + 2) = I (o + 2) → Ct g mX2_encodeFrame [.ref (o + 4)] (mm_al B 104 0 3) Ia (va_up J (mm_nx B) (fun _ => 0)) (va_up P (mm_nx B) (fun _ => none)) (some (.ref (mm_nx B + 1)), mm_al (mm_al B 104 0 3) 201 ln ln, Ib, Jb, va_up (va_up P (mm_nx B) (fun _ => none)) (mm_nx B + 1) (fun _ => none)) →
      ∃ (Ic : mm_TI) (Pc : mm_TP), APc x o L (mm_nx B) (nI nu) (some (mm_nx B + 1)) none φ Ib Ic Jb Jb P Pc ∧ Ic x = Ib x ∧ Ic (mm_nx B + 1) = Ib (mm_nx B + 1) ∧ Ct g mX11_encode [.ref x, .int (nI k)] B I J P (some (.int (nI nu)), mm_al (mm_al B 104 0 3) 201 ln ln, Ic, Jb, Pc)
section ES0
variable {g : mm_G} {B : mm_B} {I Ia : mm_TI} {J : mm_TJ} {P : mm_TP} {x m n R K k L w rt em lv nu rd so td : Nat} {o : Nat → Nat} {fl φ : Nat → Nat → Nat} {ρ : Nat → Nat}
theorem en_S (h : RC g B I J P x m n R K o fl φ ρ) (hk : k < n) (hK : K < 600) (hR : R ≤ K) (l2 : I (o k + 2) 1 = nI L) (l3 : I (m + 28) k = nI L) (hl : L < 250) (w1 : w ≤ 640) (w2 : I (o k) 1 = nI w) (w3 : I (m + 11) k = nI w) (w4 : ∀ j, j < w → I (o k + 1) j = I (m + 12) (640 * k + j)) (hw : 160 * (rt + 1) ≤ w)
    (rt1 : rt ≤ 1) (rt2 : I (o k + 4) 10 = nI rt) (rt3 : I (m + 5) k = nI rt) (em1 : em ≤ 1) (em2 : I (o k + 4) 13 = nI em) (em3 : I (m + 6) k = nI em) (rd1 : rd ≤ 1) (rd2 : I (o k + 4) 14 = nI rd) (rd3 : I (m + 9) k = nI rd) (lv2 : I (o k + 4) 15 = nI lv) (lv3 : I (m + 8) k = nI lv) (nu1 : nu < 65536) (nu2 : I (o k + 4) 16 = nI nu) (nu3 : I (m + 10) k = nI nu)
    (q17 : I (o k + 4) 17 = I (m + 14) k) (q18 : I (o k + 4) 18 = I (m + 13) k) (so1 : so ≤ 2) (so2 : I (m + 20) k = nI so) (so3 : I (o k + 4) 9 = nI (if so = 1 then 1 else 0)) (so4 : so = 1 → I (o k + 10) 0 = I (m + 22) (28 * k + 21) ∧ I (o k + 10) 1 = I (m + 22) (28 * k + 22))
    (htd : td = if rd = 1 ∧ so = 1 then 1 else 0) (en : ENa x (o k) (mm_nx B) (160 * (rt + 1)) w I Ia) (Kc : ENc g B I Ia J P x (o k) k L nu (φ k)) (hsil : sp_fP em (Ia (x + 5)) (I (m + 13) k) (160 * (rt + 1)) < nI lv) : JR g mX11_encode mX12_encode [.int (nI k)] K x m B I J P := by
  obtain ⟨hV, hM, -⟩ := RG_ly h
  obtain ⟨h8, hx4, hm0⟩ := RG_n h
  obtain ⟨xm, mn⟩ := RC_xm h
  have hv := RC_v h hk
  have mo := hv.1.2.1
  have no := hv.1.2.2.1
  have hC := hv.1.1
  have hPa := hv.1.2.2.2.2.1
  obtain ⟨vm1, vm2, vm3, vm4, LL, vm5, vm6, vm7, vm8⟩ := hv.2.2.2.2.1
  have v14 : I (o k + 14) = sg (I (m + 15)) (160 * (2 * k)) 160 := vm1
  have v15 : I (o k + 15) = sg (I (m + 16)) (8 * (2 * k)) 8 := vm3
  have v16 : I (o k + 16) = sg (I (m + 17)) (8 * (2 * k)) 8 := vm4
  have td1 : td ≤ 1 := by rw [htd]; split <;> omega
  have tds : td = 0 ∨ (td = 1 ∧ so = 1) := by rw [htd]; split <;> omega
  obtain ⟨a1, a2, a3, a4, a5⟩ := en
  have A : ∀ j, 2 ≤ j → j ≤ 32 → Ia (o k + j) = I (o k + j) := fun j j1 j2 => a5 _ (by omega) (by omega) (by omega) (by omega) (by omega)
  have AX : ∀ j, 1 ≤ j → j ≤ 21 → j ≠ 5 → Ia (x + j) = I (x + j) := fun j j1 j2 j3 => a5 _ (by omega) (by omega) (by omega) (by omega) (by omega)
  have nx1 : mm_nx (mm_al B 104 0 3) = mm_nx B + 1 := rfl
  have hX1 : Ext B (mm_al B 104 0 3) := Ext_al h.1.1
  obtain ⟨Ib, Jb, ef, r1, r2, h14, h15, h16, j3, h4, t3, t1, z5, z15, z16, fI, fJ⟩ := cx_X2_encS (g := g) (B := mm_al B 104 0 3) (I := Ia) (J := va_up J (mm_nx B) (fun _ => 0)) (P := va_up P (mm_nx B) (fun _ => none)) (x := x) (o := o k) (rt := rt) (em := em) (N := 160 * (rt + 1)) (lv := lv) (nu := nu) (rd := rd) (sp := if so = 1 then 1 else 0) (spr := 2 * td) (W := Ia (x + 5)) (raw := I (m + 13) k) (en := I (m + 14) k)
    (lyV_al hV (by omega)) (lyC_al hC (by omega)) (by omega) (by rw [nx1]; omega) (fun i hi => by rw [va_up_n _ _ (by omega)]; exact hPa i hi) rt1 (by rw [A 4 (by omega) (by omega)]; exact rt2) rfl (by rw [A 4 (by omega) (by omega)]; exact em2) em1 (by rw [A 4 (by omega) (by omega)]; exact q18) rfl
    (by rw [A 4 (by omega) (by omega)]; exact lv2) rd1 (by split <;> omega) (by rw [A 4 (by omega) (by omega)]; exact rd2) (by rw [A 4 (by omega) (by omega)]; exact so3) (by rw [A 4 (by omega) (by omega)]; exact nu2) (by rw [A 4 (by omega) (by omega)]; exact q17) nu1 (by rw [htd]; by_cases e : so = 1 <;> by_cases e2 : rd = 1 <;> simp [e, e2])
    (by rw [A 14 (by omega) (by omega), v14]; exact sg_z) (by rw [A 15 (by omega) (by omega), v15]; exact sg_z) (by rw [A 16 (by omega) (by omega), v16]; exact sg_z) hsil
  rw [nx1] at ef r1 r2
  simp only [nx1] at fI fJ
  rw [A 14 (by omega) (by omega), A 15 (by omega) (by omega), AX 6 (by omega) (by omega) (by omega)] at h14 h15 j3
  obtain ⟨Ic, Pc, ap, gx, gr, cl⟩ := Kc _ Ib Jb (by rw [fI _ (by omega) (by omega) (by omega) (by omega) (by omega) (by omega) (by omega) (by omega), A 2 (by omega) (by omega)]) ef
  obtain ⟨p1, p2, p3, p4, p5, p6, -, p8⟩ := ap
  have C : ∀ q, q < mm_nx B → q ≠ x → q ≠ x + 1 → q ≠ x + 3 → q < x + 5 ∨ x + 14 < q → q ≠ o k → q ≠ o k + 1 → q ≠ o k + 2 → q ≠ o k + 4 → q ≠ o k + 14 → q ≠ o k + 15 → q ≠ o k + 16 → Ic q = I q := fun q c0 c1 c2 c3 c4 c5 c6 c7 c8 c9 c10 c11 => by
    rw [p6 q c0 c1 c7, fI q (by omega) c8 c9 c10 c11 c2 c3 c4, a5 q c0 c1 (by omega) c5 c6]
  have M : ∀ j, j < 64 → Ic (m + j) = I (m + j) := fun j hj => C _ (by omega) (by omega) (by omega) (by omega) (by omega) (by omega) (by omega) (by omega) (by omega) (by omega) (by omega) (by omega)
  have M0 : Ic m = I m := M 0 (by omega)
  have hX : Ext B (mm_al (mm_al B 104 0 3) 201 (6 + 2 + 2 * td + 1) (6 + 2 + 2 * td + 1)) := Ext_tr hX1 (Ext_al (al_z h.1.1))
  obtain ⟨I2, Im, Jm, ml, ⟨t31, t33, t2, tm, t29, t30, t28, t10, t14, tq⟩, u15, u16, u17, uJ, u12, u13, u11, u2, um, u31, u32, u20, uq⟩ := cx_X12_encS (g := g) (B := mm_al (mm_al B 104 0 3) 201 (6 + 2 + 2 * td + 1) (6 + 2 + 2 * td + 1)) (I := Ic) (J := Jb) (P := Pc) (m := m) (c := k) (rt := rt) (em := em) (wt := w) (ln := L) (R := R) (nu := nu) (rd := rd) (so := so) (td := td) (n := n) (N := 160 * (rt + 1)) (lv := lv) (W := Ia (x + 5)) (raw := I (m + 13) k) (en := I (m + 14) k)
    (lyM_ext hM hX (fun q q1 q2 => p8 q (by omega) (by omega))) (by rw [M0]; exact hm0) hk h8 rt1 (by rw [M 5 (by omega)]; exact rt3) rfl (by rw [M 6 (by omega)]; exact em3) em1 w1 (by rw [M 11 (by omega)]; exact w3) hw (by rw [M 28 (by omega)]; exact l3) hl (by rw [M 13 (by omega)]) (fun j hj => by rw [M 12 (by omega), a1 j hj, w4 j (by omega)])
    (by rw [M0]; exact (RG_r h).1) (by omega) (by rw [M 10 (by omega)]; exact nu3) nu1 (by rw [M 9 (by omega)]; exact rd3) rd1 (by rw [M 20 (by omega)]; exact so2) so1 htd (by rw [M 8 (by omega)]; exact lv3) (by rw [M 14 (by omega)]) hsil (fun i => Ia (o k + 7 + i))
  rw [M 15 (by omega), M 16 (by omega), M 54 (by omega), ← v14, ← v15] at u15 u16 uJ
  rw [M 17 (by omega)] at u17
  rw [M 12 (by omega)] at u12
  rw [M 13 (by omega)] at u13
  rw [M 11 (by omega)] at u11
  rw [M 2 (by omega)] at u2
  rw [M0] at um
  rw [M 31 (by omega)] at u31
  rw [M 32 (by omega)] at u32
  rw [M 20 (by omega)] at u20
  rw [M 22 (by omega), show 8 + 2 * td = 6 + 2 + 2 * td by omega] at t33
  obtain ⟨y1, y2, y3, -⟩ := sp_hu_Y (ix := fun _ => 0) (H := I (o k + 14)) (V := I (o k + 15)) (Y := I (x + 6)) (Y' := I (m + 54)) (pk := sp_fP em (Ia (x + 5)) (I (m + 13) k) (160 * (rt + 1))) (z := nu) (sb := 40 * (rt + 1)) (t := 0) 4
  obtain ⟨z1, z2⟩ := sp_hu_z0 (ix := fun _ => 0) (H := I (o k + 14)) (V := I (o k + 15)) (Y := I (m + 54)) (pk := sp_fP em (Ia (x + 5)) (I (m + 13) k) (160 * (rt + 1))) (z := nu) (sb := 40 * (rt + 1)) (t := 0) (by rw [v14]; exact sg_z) (by rw [v15]; exact sg_z) 4
  have hr16 := sp_hu_r (ix := fun _ => 0) (H := I (o k + 14)) (V := I (o k + 15)) (Y := I (m + 54)) (pk := sp_fP em (Ia (x + 5)) (I (m + 13) k) (160 * (rt + 1))) (z := nu) (sb := 40 * (rt + 1)) (t := 0) (by omega) (fun j hj => vm2 j hj) 4
  rw [y1] at h14
  rw [y2] at h15
  rw [y3] at j3
  generalize hhu : sp_hu (fun _ => 0) (sp_fP em (Ia (x + 5)) (I (m + 13) k) (160 * (rt + 1))) nu (40 * (rt + 1)) (I (o k + 14), I (o k + 15), I (m + 54), 0) 4 = hu at *
  generalize hF : sp_ful _ (6 + 2 + 2 * td) = F at t33
  have Q : ∀ q, q < m ∨ m + 64 ≤ q → Im q = Ic q := fun q hq => by
    rw [tq q (by omega) (by omega) (by omega) (by omega) (by omega) (by omega) (by omega) (by omega) (by omega), uq q (by omega) (by omega) (by omega) (by omega) (by omega) (by omega) (by omega) (by omega) (by omega) (by omega) (by omega) (by omega) (by omega) (by omega)]
  have Qm : ∀ j, j < 53 → j ≠ 0 → j ≠ 2 → j ≠ 10 → j ≠ 11 → j ≠ 12 → j ≠ 13 → j ≠ 14 → j ≠ 15 → j ≠ 16 → j ≠ 17 → j ≠ 20 → j < 28 ∨ 33 < j → Im (m + j) = I (m + j) := fun j j0 j1 j2 j3 j4 j5 j6 j7 j8 j9 j10 j11 j12 => by
    rw [tq _ (by omega) (by omega) (by omega) (by omega) (by omega) (by omega) (by omega) (by omega) (by omega), uq _ (by omega) (by omega) (by omega) (by omega) (by omega) (by omega) (by omega) (by omega) (by omega) (by omega) (by omega) (by omega) (by omega) (by omega), M j (by omega)]
  have T2 : ∀ j, j = 11 ∨ j = 12 ∨ j = 13 ∨ j = 15 ∨ j = 16 ∨ j = 17 ∨ j = 20 ∨ j = 32 → Im (m + j) = I2 (m + j) := fun j hj => tq _ (by omega) (by omega) (by omega) (by omega) (by omega) (by omega) (by omega) (by omega) (by omega)
  have U : ∀ j, j = 10 ∨ j = 14 ∨ j = 28 ∨ j = 29 ∨ j = 30 ∨ j = 33 → I2 (m + j) = I (m + j) := fun j hj => by
    rw [uq _ (by omega) (by omega) (by omega) (by omega) (by omega) (by omega) (by omega) (by omega) (by omega) (by omega) (by omega) (by omega) (by omega) (by omega), M j (by omega)]
  rw [U 10 (by omega)] at t10
  rw [U 14 (by omega)] at t14
  rw [U 28 (by omega)] at t28
  rw [U 29 (by omega)] at t29
  rw [U 30 (by omega)] at t30
  rw [U 33 (by omega)] at t33
  rw [u31, bx_uu] at t31
  rw [u2] at t2
  rw [um] at tm
  have i4 : Im (o k + 4) = va_up (va_up (va_up (va_up (va_up (I (o k + 4)) 18 (Ia (x + 5) (160 * (rt + 1) - 1))) 9 (nI 0)) 8 (nI rt)) 17 (I (m + 14) k + nI 1)) 16 (nI ((nu + 1) % 65536)) := by rw [Q _ (by omega), p6 _ (by omega) (by omega) (by omega), h4, A 4 (by omega) (by omega)]
  have ix0 : Im x = va_up (I x) 9 (nI 0) := by rw [Q x (by omega), gx, fI x (by omega) (by omega) (by omega) (by omega) (by omega) (by omega) (by omega) (by omega), a4]
  have fo : ∀ q, q < mm_nx B → q < x ∨ x + 22 ≤ q → q < m ∨ m + 64 ≤ q → q < o k ∨ o k + 17 ≤ q → Im q = I q := fun q q0 q1 q2 q3 => by rw [Q q q2, C q q0 (by omega) (by omega) (by omega) (by omega) (by omega) (by omega) (by omega) (by omega) (by omega) (by omega) (by omega)]
  have jm : ∀ q, q ≠ m → Jm q = Jb q := fun q hq => by rw [uJ]; exact sp_up_o hq
  have jb : ∀ q, q < mm_nx B → q ≠ x + 1 → q ≠ x + 15 → q ≠ x + 16 → Jb q = J q := fun q q0 q1 q2 q3 => by rw [fJ q (by omega) q1 q2 q3, va_up_n _ _ (by omega)]
  have hF8 : ∀ q, b8 (F q) = F q := fun q => by rw [← hF]; exact sp_ful_b8 (fun j => sp_row_b8 _ _ _ _ _ _ _ _ _ _ _) q
  have hnr : ∀ q, q < 6 + 2 + 2 * td + 1 → Im (mm_nx B + 1) q = F q := fun q hq => by
    rw [Q _ (by omega), gr, ← hF]
    have e : Ib (mm_nx B + 1) q = sp_ful (sp_row 0 (nI rt) (nI nu) 2 (2 * td) (sp_fP em (Ia (x + 5)) (I (m + 13) k) (160 * (rt + 1))) (fun _ => 0) (fun i => Ia (o k + 7 + i)) (Ia (o k + 10) 0 - nI 20) (Ia (o k + 10) 1)) (6 + 2 + 2 * td) q := by
      unfold sp_ful
      by_cases c : q < 6 + 2 + 2 * td
      · rw [if_pos c]; exact r1 q c
      · rw [if_neg c, show q = 6 + 2 + 2 * td by omega]; exact r2
    rw [e]
    refine sp_ful_cg (fun j hj => sp_row_cg (vo := 0) (bd := 2) (spr := 2 * td) rfl ?_ (fun _ _ _ _ => rfl) j hj) q (by omega)
    rcases tds with e | ⟨e, e2⟩
    · left; omega
    · obtain ⟨s1, s2⟩ := so4 e2
      exact Or.inr ⟨by omega, by rw [A 10 (by omega) (by omega), s1], by rw [A 10 (by omega) (by omega), s2]⟩
  refine ⟨_, _, Ic, Jb, Pc, Im, Jm, Pc, n, R + 1, o, fl, _, _, cl, ml, by omega, RC_mono (en_fin (F := F) (nu := nu) h hk l3 hl (by omega) p3 p4 p5 p8 (by rw [Q _ (by omega)]; exact p1) hnr (fun q _ => hF8 q) (by rw [Q _ (by omega), p2, va_up_s]) t28 t29 t30 (by rw [t31, show 8 + 2 * td = 6 + 2 + 2 * td by omega]) (by rw [T2 32 (by omega)]; exact u32) t33 (by rw [tm]; simp (disch := omega) only [va_up_s, va_up_n])
    fo (fun q q0 q1 q2 q3 => by rw [jm q (by omega), jb q q0 (by omega) (by omega) (by omega)]) ?_ (fun j hj => by rw [ix0, va_up_n _ _ (by omega)]) (fun j hj => by rw [tm]; simp (disch := omega) only [va_up_n]) ?_ (fun j hj => by rw [Q _ (by omega), C _ (by omega) (by omega) (by omega) (by omega) (by omega) (by omega) (by omega) (by omega) (by omega) (by omega) (by omega) (by omega)]) (fun j hj => Qm j (by omega) (by omega) (by omega) (by omega) (by omega) (by omega) (by omega) (by omega) (by omega) (by omega) (by omega) (by omega) (by omega)) ?_ ?_ ?_ (fun j hj => by rw [jm _ (by omega), jm _ (by omega), jb _ (by omega) (by omega) (by omega) (by omega), jb _ (by omega) (by omega) (by omega) (by omega)]; exact ⟨rfl, rfl⟩)
    (fun j hj => by rw [T2 15 (by omega), u15, sgp_out (by omega)]) (fun j hj => by rw [T2 16 (by omega), u16, sgp_out (by omega)]) (fun j hj => by rw [T2 17 (by omega), u17, sgp_out (by omega)]) (fun j hj => by rw [Qm 18 (by omega) (by omega) (by omega) (by omega) (by omega) (by omega) (by omega) (by omega) (by omega) (by omega) (by omega) (by omega) (by omega)]) ?_ ?_ ?_ ?_) (by omega), hX, by show mm_nx B + 2 ≤ _; omega, by show mm_sl B + 3 + _ ≤ _; omega, fun q hq => fo q (by omega) (by omega) (by omega) (by omega)⟩
  · rw [ix0, tm, va_up_s, va_up_s]
  · rw [jm _ (by omega), j3, va_up_n _ _ (by omega), uJ, sp_up_at, jb m (by omega) (by omega) (by omega) (by omega), (RG_j h).1]
  · have e1 : Im (x + 1) = va_up (I (x + 1)) 2 (nI 4) := by rw [Q _ (by omega), p6 _ (by omega) (by omega) (by omega), t1, AX 1 (by omega) (by omega) (by omega)]
    have e3 : Im (x + 3) = va_up (va_up (va_up (va_up (I (x + 3)) 0 (nI 1)) 1 (nI 2)) 2 (nI 14)) 3 (nI 15) := by rw [Q _ (by omega), p6 _ (by omega) (by omega) (by omega), t3, AX 3 (by omega) (by omega) (by omega)]
    refine ⟨4, by omega, by rw [e1, va_up_s], by rw [tm, va_up_n _ _ (by omega), va_up_s], fun i hi => ?_⟩
    rw [e3, t2]
    rcases (show i = 0 ∨ i = 1 ∨ i = 2 ∨ i = 3 by omega) with rfl | rfl | rfl | rfl <;> simp (disch := omega) only [va_up_s, va_up_n]
  · refine ⟨fun j j1 j2 => ?_, fun j hj => ?_, fun j hj => ?_⟩
    · rw [Q _ (by omega), p6 _ (by omega) (by omega) (by omega)]; exact z5 j j1 j2
    · rw [jm _ (by omega)]; exact z15 j hj
    · rw [jm _ (by omega)]; exact z16 j hj
  · intro r j r1 r2 hj
    rcases (show r = 10 ∨ r = 11 ∨ r = 12 ∨ r = 13 ∨ r = 14 ∨ r = 15 ∨ r = 16 ∨ r = 17 ∨ r = 20 ∨ (r ≠ 10 ∧ r ≠ 11 ∧ r ≠ 12 ∧ r ≠ 13 ∧ r ≠ 14 ∧ r ≠ 15 ∧ r ≠ 16 ∧ r ≠ 17 ∧ r ≠ 20) by omega) with rfl | rfl | rfl | rfl | rfl | rfl | rfl | rfl | rfl | e
    · have hj' : j < 1 * k ∨ 1 * k + 1 ≤ j := hj
      rw [t10, va_up_n _ _ (by omega)]
    · have hj' : j < 1 * k ∨ 1 * k + 1 ≤ j := hj
      rw [T2 11 (by omega), u11, va_up_n _ _ (by omega)]
    · have hj' : j < 640 * k ∨ 640 * k + 640 ≤ j := hj
      rw [T2 12 (by omega), u12, sgp_out (by omega)]
    · have hj' : j < 1 * k ∨ 1 * k + 1 ≤ j := hj
      rw [T2 13 (by omega), u13, va_up_n _ _ (by omega)]
    · have hj' : j < 1 * k ∨ 1 * k + 1 ≤ j := hj
      rw [t14, va_up_n _ _ (by omega)]
    · have hj' : j < 320 * k ∨ 320 * k + 320 ≤ j := hj
      rw [T2 15 (by omega), u15, sgp_out (by omega)]
    · have hj' : j < 16 * k ∨ 16 * k + 16 ≤ j := hj
      rw [T2 16 (by omega), u16, sgp_out (by omega)]
    · have hj' : j < 16 * k ∨ 16 * k + 16 ≤ j := hj
      rw [T2 17 (by omega), u17, sgp_out (by omega)]
    · have hj' : j < 1 * k ∨ 1 * k + 1 ≤ j := hj
      rw [T2 20 (by omega), u20, va_up_n _ _ (by omega)]
    · rw [Qm r (by omega) (by omega) (by omega) (by omega) (by omega) (by omega) (by omega) (by omega) (by omega) (by omega) (by omega) (by omega) (by omega)]
  · have io : Im (o k) = va_up (I (o k)) 1 (nI (w - 160 * (rt + 1))) := by rw [Q _ (by omega), p6 _ (by omega) (by omega) (by omega), fI _ (by omega) (by omega) (by omega) (by omega) (by omega) (by omega) (by omega) (by omega), a2]
    have io1 : Im (o k + 1) = Ia (o k + 1) := by rw [Q _ (by omega), p6 _ (by omega) (by omega) (by omega), fI _ (by omega) (by omega) (by omega) (by omega) (by omega) (by omega) (by omega) (by omega)]
    refine ⟨w - 160 * (rt + 1), by omega, by rw [io, va_up_s], by rw [T2 11 (by omega), u11, va_up_s], fun j hj => ?_⟩
    rw [io1, a3 j hj, w4 _ (by omega), T2 12 (by omega), u12, sgp_in hj]
    congr 1; omega
  · obtain ⟨-, ⟨e1, e2, e3, e4⟩, ⟨f1, f2, f3, f4⟩, -, -, ⟨lw, g2, g3, g4⟩, -, -, -, g5⟩ := RC_e h hk
    refine ⟨⟨rt, rt1, ?_, ?_⟩, ⟨e1, e2, ?_, ?_⟩, ⟨f1, f2, ?_, ?_⟩, ⟨em, em1, ?_, ?_⟩, ⟨rd, rd1, ?_, ?_⟩, ⟨lw, g2, ?_, ?_⟩, ⟨(nu + 1) % 65536, by omega, ?_, ?_⟩, ?_, ?_, ?_⟩
    · rw [i4]; simp (disch := omega) only [va_up_n]; exact rt2
    · rw [Qm 5 (by omega) (by omega) (by omega) (by omega) (by omega) (by omega) (by omega) (by omega) (by omega) (by omega) (by omega) (by omega) (by omega)]; exact rt3
    · rw [i4]; simp (disch := omega) only [va_up_n]; exact e3
    · rw [Qm 7 (by omega) (by omega) (by omega) (by omega) (by omega) (by omega) (by omega) (by omega) (by omega) (by omega) (by omega) (by omega) (by omega)]; exact e4
    · rw [i4]; simp (disch := omega) only [va_up_n]; exact f3
    · rw [Qm 7 (by omega) (by omega) (by omega) (by omega) (by omega) (by omega) (by omega) (by omega) (by omega) (by omega) (by omega) (by omega) (by omega)]; exact f4
    · rw [i4]; simp (disch := omega) only [va_up_n]; exact em2
    · rw [Qm 6 (by omega) (by omega) (by omega) (by omega) (by omega) (by omega) (by omega) (by omega) (by omega) (by omega) (by omega) (by omega) (by omega)]; exact em3
    · rw [i4]; simp (disch := omega) only [va_up_n]; exact rd2
    · rw [Qm 9 (by omega) (by omega) (by omega) (by omega) (by omega) (by omega) (by omega) (by omega) (by omega) (by omega) (by omega) (by omega) (by omega)]; exact rd3
    · rw [i4]; simp (disch := omega) only [va_up_n]; exact g3
    · rw [Qm 8 (by omega) (by omega) (by omega) (by omega) (by omega) (by omega) (by omega) (by omega) (by omega) (by omega) (by omega) (by omega) (by omega)]; exact g4
    · rw [i4, va_up_s]
    · rw [t10, va_up_s]
    · rw [i4, t14, va_up_n _ _ (by omega), va_up_s, va_up_s]
    · rw [i4, T2 13 (by omega), u13, va_up_s]; simp (disch := omega) only [va_up_s, va_up_n]
    · rw [Q _ (by omega), C _ (by omega) (by omega) (by omega) (by omega) (by omega) (by omega) (by omega) (by omega) (by omega) (by omega) (by omega) (by omega), Qm 19 (by omega) (by omega) (by omega) (by omega) (by omega) (by omega) (by omega) (by omega) (by omega) (by omega) (by omega) (by omega) (by omega)]; exact g5
  · refine ⟨2, by omega, by rw [T2 20 (by omega), u20, va_up_s], by rw [i4]; simp (disch := omega) only [va_up_s, va_up_n]; rfl, fun e => absurd e (by omega)⟩
  · have i14 : Im (o k + 14) = hu.1 := by rw [Q _ (by omega), p6 _ (by omega) (by omega) (by omega), h14]
    have i15 : Im (o k + 15) = hu.2.1 := by rw [Q _ (by omega), p6 _ (by omega) (by omega) (by omega), h15]
    have i16 : Im (o k + 16) = fun _ => 0 := by rw [Q _ (by omega), p6 _ (by omega) (by omega) (by omega), h16]
    have i13 : Im (o k + 13) = I (o k + 13) := by rw [Q _ (by omega), C _ (by omega) (by omega) (by omega) (by omega) (by omega) (by omega) (by omega) (by omega) (by omega) (by omega) (by omega) (by omega)]
    refine ⟨?_, ?_, ?_, ?_, LL, vm5, vm6, by rw [i13]; exact vm7, by rw [Qm 18 (by omega) (by omega) (by omega) (by omega) (by omega) (by omega) (by omega) (by omega) (by omega) (by omega) (by omega) (by omega) (by omega)]; exact vm8⟩
    · rw [T2 15 (by omega), u15, sg_sgp z1]; exact i14
    · intro j hj
      rw [show o k + 13 + 1 = o k + 14 from rfl, i14]; exact hr16 j hj
    · rw [T2 16 (by omega), u16, sg_sgp z2]; exact i15
    · rw [T2 17 (by omega), u17, sg_sgp (fun _ _ => rfl)]; exact i16
end ES0
