/-! LINES: again and feed, joint -/
section AJ0
variable {g : mm_G} {B B' : mm_B} {I I1 I2 : mm_TI} {J J1 : mm_TJ} {P P1 : mm_TP} {x m n R R' K k L f : Nat} {o : Nat → Nat} {fl φ : Nat → Nat → Nat} {ρ ρ' : Nat → Nat} {v w : Int32} {p1 p2 : Option Nat}
theorem VCl_ap (h : RC g B I J P x m n R K o fl φ ρ) (hk : k < n) (l3 : I (m + 28) k = nI L) (l1 : L < 250) (hf : f = mm_nx B) (hB : Ext B B') (ap : APc x (o k) L f v p1 p2 (φ k) I I1 J J1 P P1) (e2 : ∀ q, m + 64 ≤ q → I2 q = I1 q) (h28 : I2 (m + 28) = va_up (I (m + 28)) k (nI (L + 1))) (h29 : I2 (m + 29) = va_up (I (m + 29)) (250 * k + L) v) (h30 : I2 (m + 30) = va_up (I (m + 30)) (250 * k + L) w)
    (hR : R ≤ R') (hρ : ∀ r, r < R → ρ' r = ρ r) (h32 : ∀ r, r < R → I2 (m + 32) r = I (m + 32) r) (vf : VFr B' I2 P1 m R' ρ' f (250 * k + L)) : VCl B' I2 P1 m (o k) R' (va_up (φ k) L f) ρ' k := by
  obtain ⟨xm, mn⟩ := RC_xm h
  have mo := (RC_v h hk).1.2.1
  have no := (RC_v h hk).1.2.2.1
  obtain ⟨L', c1, c2, c3, c4, c5⟩ := RC_l h hk
  obtain rfl : L = L' := (nI_eq (by omega) (by omega)).mp (l3.symm.trans c3)
  obtain ⟨a1, a2, a3, a4, a5, a6, a7, a8⟩ := ap
  refine ⟨L + 1, by omega, by rw [e2 _ (by omega), a2, va_up_s], by rw [h28, va_up_s], fun i hi => ?_, fun i j hi hj e => ?_⟩
  · by_cases e : i = L
    · subst e
      rw [va_up_s]
      refine ⟨by rw [a5 i (by omega), va_up_s], by omega, vf⟩
    · obtain ⟨d1, d2, d3⟩ := c4 i (by omega)
      have dn := d3.2.1
      rw [va_up_n _ _ e]
      refine ⟨by rw [a5 i hi, va_up_n _ _ e], d2, VFr_cg h d3 hB hR hρ h32 (by rw [e2 _ (by omega), a6 _ (by omega) (by omega) (by omega)]) (by rw [h29, va_up_n _ _ (by omega)]) (by rw [h30, va_up_n _ _ (by omega)]) (a8 _ (by omega) (by omega))⟩
  · by_cases e1 : i = L
    · by_cases e3 : j = L
      · omega
      · rw [e1, va_up_s, va_up_n _ _ e3] at e
        have := (c4 j (by omega)).2.2.2.1; omega
    · by_cases e3 : j = L
      · rw [e3, va_up_s, va_up_n _ _ e1] at e
        have := (c4 i (by omega)).2.2.2.1; omega
      · rw [va_up_n _ _ e1, va_up_n _ _ e3] at e
        exact c5 i j (by omega) (by omega) e
theorem VCp_ap {q : Nat} (l3 : I (m + 28) k = nI L) (l1 : L < 250) (hf : f = mm_nx B) (h28 : I2 (m + 28) = va_up (I (m + 28)) k (nI (L + 1))) (h : VCp I2 m (va_up (φ k) L f) k q) : VCp I m (φ k) k q ∨ mm_nx B ≤ q := by
  obtain ⟨L2, i, d1, d2, d3, d4⟩ := h
  rw [h28, va_up_s] at d1
  have : L + 1 = L2 := (nI_eq (by omega) (by omega)).mp d1
  subst this
  by_cases e : i = L
  · rw [e, va_up_s] at d4; right; omega
  · rw [va_up_n _ _ e] at d4
    exact Or.inl ⟨L, i, l3, by omega, by omega, d4⟩
end AJ0
section AJ1
variable {g : mm_G} {c i : Int32}
theorem jo_again : JO g mX11_again mX12_again [.int c, .int i] := by
  refine jo_m2 fun K x m B I J P n R o fl φ ρ hK hR h => ?_
  obtain ⟨hV, hM, -⟩ := RG_ly h
  obtain ⟨h8, hx4, hm0⟩ := RG_n h
  obtain ⟨xm, mn⟩ := RC_xm h
  rcases fr_cases h c i with ⟨k, j, L, hk, hj, l1, rfl, rfl, l2, l3, p1, p2, v, ct, ctm⟩ | ⟨ct, ctm⟩
  · have mo := (RC_v h hk).1.2.1
    have no := (RC_v h hk).1.2.2.1
    obtain ⟨L', c1, c2, c3, c4, c5⟩ := RC_l h hk
    obtain rfl : L = L' := (nI_eq (by omega) (by omega)).mp (l3.symm.trans c3)
    by_cases hu : L = 250
    · subst hu
      exact Or.inl ⟨_, _, cl_again_u (CA_of h hk) l2 hj p1 v.1, fun I1 h1 => ml_again_u (MA_of h hk (h1 _ (by omega))) (by rw [h1 _ (by omega)]; exact l3) hj⟩
    · right
      have hl : L < 250 := by omega
      have ro := fun r hr => RC_row h (r := r) hr
      obtain ⟨I1, J1, P1, ap, gx, cl⟩ := cx_again (g := g) (J := J) (φ := φ k) (CA_of h hk) l2 hl hj no (fun q hq => ⟨(c4 q hq).1, (c4 q hq).2.2.1, (c4 q hq).2.2.2.1, by have := (c4 q hq).2.1; omega⟩) rfl rfl rfl (by
        rcases fr_row h v with ⟨e1, e2, e3⟩ | ⟨r, s, r1, r2, r3, r4, r5, r6, r7, r8, ⟨t1, t2, t3, t4, t5⟩ | ⟨t1, t2, t3, t4, t5⟩⟩
        · exact Or.inl ⟨e2, e3⟩
        · exact Or.inr (Or.inl ⟨_, t2, t4, t3⟩)
        · exact Or.inr (Or.inr ⟨_, t2, t3, t4⟩))
      have ap' := ap
      obtain ⟨a1, a2, a3, a4, a5, a6, a7, a8⟩ := ap'
      have hM1 : lyM (mm_al B 104 0 3) P1 m := lyM_ext hM (Ext_al h.1.1) (fun q q1 q2 => a8 q (by omega) (by omega))
      have ma : MA (mm_al B 104 0 3) I1 P1 m n k := ⟨hM1, by rw [a6 m (by omega) (by omega) (by omega)]; exact hm0, h8, hk⟩
      have ml := ml_again_t (g := g) (J := J1) ma (by rw [a6 _ (by omega) (by omega) (by omega)]; exact l3) hl hj rfl rfl
      rw [a6 (m + 29) (by omega) (by omega) (by omega), a6 (m + 30) (by omega) (by omega) (by omega), a6 (m + 28) (by omega) (by omega) (by omega)] at ml
      generalize hI2 : mo_st (va_up (va_up (va_up I1 (m + 29) (va_up (I (m + 29)) (250 * k + L) (I (m + 29) (250 * k + j)))) (m + 30) (va_up (I (m + 30)) (250 * k + L) (I (m + 30) (250 * k + j)))) (m + 28) (va_up (I (m + 28)) k (nI (L + 1)))) m (nI 0) = I2 at ml
      have g2 : ∀ q, q ≠ m → q < m + 28 ∨ m + 30 < q → I2 q = I1 q := fun q q1 q2 => by rw [← hI2]; exact (va_up_n _ _ q1).trans ((va_up_n _ _ (by omega)).trans ((va_up_n _ _ (by omega)).trans (va_up_n _ _ (by omega))))
      have h28 : I2 (m + 28) = va_up (I (m + 28)) k (nI (L + 1)) := by rw [← hI2]; exact (va_up_n _ _ (by omega)).trans (va_up_s _ _ _)
      have h29 : I2 (m + 29) = va_up (I (m + 29)) (250 * k + L) (I (φ k j) 0) := by
        rw [← hI2, v.2.2.1]; refine (va_up_n _ _ (by omega)).trans ?_
        rw [va_up_n _ _ (by omega), va_up_n _ _ (by omega), va_up_s]
      have h30 : I2 (m + 30) = va_up (I (m + 30)) (250 * k + L) (I (m + 30) (250 * k + j)) := by
        rw [← hI2]; refine (va_up_n _ _ (by omega)).trans ?_
        rw [va_up_n _ _ (by omega), va_up_s]
      have fm : I2 m = va_up (I m) 1 (nI 0) := by
        rw [← hI2]; refine (va_up_s _ _ _).trans ?_
        rw [va_up_n _ _ (by omega), va_up_n _ _ (by omega), va_up_n _ _ (by omega), a6 m (by omega) (by omega) (by omega)]
      have fx : I2 x = va_up (I x) 9 (nI 0) := by rw [g2 x (by omega) (by omega), gx]
      have fo : ∀ q, q < mm_nx B → q ≠ x → q ≠ m → q ≠ o k + 2 → q < m + 28 ∨ m + 30 < q → I2 q = I q := fun q q0 q1 q2 q3 q4 => by rw [g2 q q2 q4, a6 q q0 q1 q3]
      have f32 : ∀ r, r < R → I2 (m + 32) r = I (m + 32) r := fun r _ => by rw [fo (m + 32) (by omega) (by omega) (by omega) (by omega) (by omega)]
      have tg2 := VC_tg (RC_v h hk) (k := 2) (by omega)
      have vf : VFr (mm_al B 104 0 3) I2 P1 m R ρ (mm_nx B) (250 * k + L) := by
        refine ⟨al_Ts, by rw [al_x]; omega, by rw [g2 _ (by omega) (by omega), h29, va_up_s, a1], ?_⟩
        rw [h30, va_up_s, a3, a4]
        rcases v.2.2.2 with e | ⟨r, r1, r2, r3⟩
        · exact Or.inl e
        · refine Or.inr ⟨r, r1, r2, ?_⟩
          rw [f32 r r1]; exact r3
      have hl' := VCl_ap h hk l3 hl rfl (Ext_al h.1.1) ap (fun q hq => g2 q (by omega) (by omega)) h28 h29 h30 (Nat.le_refl _) (fun _ _ => rfl) f32 vf
      refine ⟨_, _, I1, J1, P1, I2, J1, P1, n, R, o, fl, _, ρ, cl, ml, by omega, RC_mono (RC_ln h hk (Ext_al h.1.1) (al_z h.1.1) (fun q q1 q2 q3 => a8 q q1 q2) (fun q q1 q2 q3 q4 q5 q6 => fo q q1 q2 q3 q4 (by omega)) a7 (by rw [fx, fm, va_up_s, va_up_s]) (fun i hi => by rw [fx, va_up_n _ _ (by omega)]) (fun i hi => by rw [fm, va_up_n _ _ (by omega)]) (RGp_cg (RG_p h) (by rw [fx, va_up_n _ _ (by omega)]) (by rw [fm, va_up_n _ _ (by omega)]) (fo _ (by omega) (by omega) (by omega) (by omega) (by omega)) (fo _ (by omega) (by omega) (by omega) (by omega) (by omega))) (fun r i r1 r2 ri => ?_) (Nat.le_refl _) (fun _ _ => rfl) (RGr_cg (RG_r h) (Ext_al h.1.1) (by rw [fm, va_up_n _ _ (by omega)]) (fun r hr => ?_) (fo _ (by omega) (by omega) (by omega) (by omega) (by omega)) (fo _ (by omega) (by omega) (by omega) (by omega) (by omega)) (fo _ (by omega) (by omega) (by omega) (by omega) (by omega))) f32 hl' (fun q hq => VCp_ap l3 hl rfl h28 hq)) (by omega), Ext_al h.1.1, by rw [al_x]; omega, by show mm_sl B + 3 ≤ _; omega, fun q hq => fo q (by omega) (by omega) (by omega) (by omega) (by omega)⟩
      · have : r = 28 ∨ r = 29 ∨ r = 30 := by omega
        rcases this with rfl | rfl | rfl
        · have ri' : i < 1 * k ∨ 1 * k + 1 ≤ i := ri
          rw [h28, va_up_n _ _ (by omega)]
        · have ri' : i < 250 * k ∨ 250 * k + 250 ≤ i := ri
          rw [h29, va_up_n _ _ (by omega)]
        · have ri' : i < 250 * k ∨ 250 * k + 250 ≤ i := ri
          rw [h30, va_up_n _ _ (by omega)]
      · have := ro r hr
        exact fo _ (by omega) (by omega) (by omega) (fun e => by rw [e] at this; omega) (by omega)
  · exact Or.inl ⟨_, _, cl_again_f hV ct, fun I1 h1 => ml_again_f hM (ctm I1 h1)⟩
theorem jo_feed {lb : Int32} : JO g mX11_feed mX12_feed [.int c, .int lb] := by
  refine jo_m2 fun K x m B I J P n R o fl φ ρ hK hR h => ?_
  obtain ⟨hV, hM, -⟩ := RG_ly h
  obtain ⟨h8, hx4, hm0⟩ := RG_n h
  obtain ⟨xm, mn⟩ := RC_xm h
  rcases cd_cases h8 c with ⟨k, hk, rfl⟩ | hc
  · rcases in_cases (lo := 0) (hi := 65535) (by omega) (by omega) lb with ⟨lb, -, b2, rfl⟩ | hb
    · have mo := (RC_v h hk).1.2.1
      have no := (RC_v h hk).1.2.2.1
      obtain ⟨L, c1, l2, l3, c4, c5⟩ := RC_l h hk
      by_cases hu : L = 250
      · subst hu
        exact Or.inl ⟨_, _, cl_feed_u (CA_of h hk) b2 l2, fun I1 h1 => ml_feed_u (MA_of h hk (h1 _ (by omega))) b2 (by rw [h1 _ (by omega)]; exact l3)⟩
      · right
        have hl : L < 250 := by omega
        have ro := fun r hr => RC_row h (r := r) hr
        obtain ⟨t, t1, t2, t3, t4⟩ := RG_p h
        obtain ⟨I1, J1, P1, ap, af, gx, cl⟩ := cx_feed (g := g) (J := J) (φ := φ k) (CA_of h hk) b2 l2 hl no (fun q hq => ⟨(c4 q hq).1, (c4 q hq).2.2.1, (c4 q hq).2.2.2.1⟩) t2 t1 (fun q hq => (t4 q hq).2)
        have ap' := ap
        obtain ⟨a1, a2, a3, a4, a5, a6, a7, a8⟩ := ap'
        have hX : Ext B (mm_al (mm_al B 104 0 3) 201 t t) := Ext_tr (Ext_al h.1.1) (Ext_al (al_z h.1.1))
        have nx1 : mm_nx (mm_al B 104 0 3) = mm_nx B + 1 := rfl
        have nx2 : mm_nx (mm_al (mm_al B 104 0 3) 201 t t) = mm_nx B + 2 := rfl
        have hM1 : lyM (mm_al (mm_al B 104 0 3) 201 t t) P1 m := lyM_ext hM hX (fun q q1 q2 => a8 q (by omega) (by omega))
        have ma : MA (mm_al (mm_al B 104 0 3) 201 t t) I1 P1 m n k := ⟨hM1, by rw [a6 m (by omega) (by omega) (by omega)]; exact hm0, h8, hk⟩
        obtain ⟨I2, h31, h32', h33, h29, h30, h28, fm, g2, ml⟩ := cx_mfeed (g := g) (J := J1) (R := R) ma b2 (by rw [a6 _ (by omega) (by omega) (by omega)]; exact l3) hl (by rw [a6 _ (by omega) (by omega) (by omega)]; exact t3) t1 (by rw [a6 _ (by omega) (by omega) (by omega)]; exact (RG_r h).1) (by omega)
        rw [a6 _ (by omega) (by omega) (by omega)] at h31 h32' h29 h30 h28 fm
        rw [a6 (m + 33) (by omega) (by omega) (by omega), a6 (m + 3) (by omega) (by omega) (by omega)] at h33
        have fx : I2 x = va_up (va_up (I x) 9 (nI 0)) 6 (nI 0) := by rw [g2 x (by omega) (by omega), gx]
        have fo : ∀ q, q < mm_nx B → q ≠ x → q ≠ m → q ≠ o k + 2 → q < m + 28 ∨ m + 33 < q → I2 q = I q := fun q q0 q1 q2 q3 q4 => by rw [g2 q q2 q4, a6 q q0 q1 q3]
        have f32 : ∀ r, r < R → I2 (m + 32) r = I (m + 32) r := fun r _ => by rw [h32', va_up_n _ _ (by omega)]
        have tg2 := VC_tg (RC_v h hk) (k := 2) (by omega)
        have vr : VRw (mm_al (mm_al B 104 0 3) 201 t t) I2 m R (mm_nx B + 1) := by
          refine ⟨by omega, by rw [nx2]; omega, t, t1, al_Ns, by rw [h31, va_up_s], fun q hq => ?_, Or.inl ⟨by rw [h32', va_up_s], al_Ts, fun q hq => ?_⟩⟩
          · rw [g2 _ (by omega) (by omega), af q hq, h33, sgp_in hq]; exact (t4 q hq).1
          · rw [g2 _ (by omega) (by omega), af q hq]; exact (t4 q hq).2
        have hr := RGr_new (RG_r h) hX (by rw [fm, va_up_n _ _ (by omega), va_up_n _ _ (by omega), va_up_s]) (fun r hr => by
          have := ro r hr
          exact fo _ (by omega) (by omega) (by omega) (fun e => by rw [e] at this; omega) (by omega)) (fun r hr => by rw [h31, va_up_n _ _ (by omega)]) f32 (fun q hq => by rw [h33, sgp_out (by omega)]) vr (fun r hr e => by have := ro r hr; omega)
        have vf : VFr (mm_al (mm_al B 104 0 3) 201 t t) I2 P1 m (R + 1) (va_up ρ R (mm_nx B + 1)) (mm_nx B) (250 * k + L) := by
          refine ⟨(al_T (by rw [nx1]; omega)).trans al_Ts, by rw [nx2]; omega, by rw [g2 _ (by omega) (by omega), h29, va_up_s, a1], Or.inr ⟨R, by omega, by rw [h30, va_up_s], Or.inl ⟨by rw [h32', va_up_s], by rw [va_up_s]; exact a3, a4⟩⟩⟩
        have hl' := VCl_ap (R' := R + 1) (ρ' := va_up ρ R (mm_nx B + 1)) h hk l3 hl rfl hX ap (fun q hq => g2 q (by omega) (by omega)) h28 h29 h30 (by omega) (fun r hr => va_up_n _ _ (by omega)) f32 vf
        refine ⟨_, _, I1, J1, P1, I2, J1, P1, n, R + 1, o, fl, _, _, cl, ml, by omega, RC_mono (RC_ln h hk hX (al_z (al_z h.1.1)) (fun q q1 q2 q3 => a8 q q1 q2) (fun q q1 q2 q3 q4 q5 q6 => fo q q1 q2 q3 q4 (by omega)) a7 (by rw [fx, fm, va_up_n _ _ (by omega), va_up_s, va_up_s]) (fun i hi => by rw [fx, va_up_n _ _ (by omega), va_up_n _ _ (by omega)]) (fun i hi => by rw [fm, va_up_n _ _ (by omega), va_up_n _ _ (by omega), va_up_n _ _ (by omega)]) ⟨0, by omega, by rw [fx, va_up_s], by rw [fm, va_up_n _ _ (by omega), va_up_s], fun i hi => absurd hi (by omega)⟩ (fun r i r1 r2 ri => ?_) (by omega) (fun r hr => va_up_n _ _ (by omega)) hr f32 hl' (fun q hq => VCp_ap l3 hl rfl h28 hq)) (by omega), hX, by rw [nx2]; omega, by show mm_sl B + 3 + t ≤ _; omega, fun q hq => fo q (by omega) (by omega) (by omega) (by omega) (by omega)⟩
        have : r = 28 ∨ r = 29 ∨ r = 30 := by omega
        rcases this with rfl | rfl | rfl
        · have ri' : i < 1 * k ∨ 1 * k + 1 ≤ i := ri
          rw [h28, va_up_n _ _ (by omega)]
        · have ri' : i < 250 * k ∨ 250 * k + 250 ≤ i := ri
          rw [h29, va_up_n _ _ (by omega)]
        · have ri' : i < 250 * k ∨ 250 * k + 250 ≤ i := ri
          rw [h30, va_up_n _ _ (by omega)]
    · exact Or.inl ⟨_, _, cl_feed_b (CA_of h hk) hb, fun I1 h1 => ml_feed_b (MA_of h hk (h1 _ (by omega))) hb⟩
  · exact Or.inl ⟨_, _, cl_feed_f hV hx4 hc, fun I1 h1 => ml_feed_f hM (by rw [h1 _ (by omega)]; exact hm0) hc⟩
end AJ1
