/-! FRAMES: what changes them, joint -/
section FJ0
variable {g : mm_G} {B : mm_B} {I : mm_TI} {J : mm_TJ} {P : mm_TP} {x m n R K k : Nat} {o : Nat → Nat} {fl φ : Nat → Nat → Nat} {ρ : Nat → Nat}
/-- frame j got a new row -/
theorem RC_nw {j L r w sh t : Nat} {F : Nat → Int32} {I2 : mm_TI} {J1 : mm_TJ} {P1 : mm_TP} (h : RC g B I J P x m n R K o fl φ ρ) (hk : k < n) (l3 : I (m + 28) k = nI L) (l1 : L ≤ 250) (hj : j < L) (v : VFr B I P m R ρ (φ k j) (250 * k + j)) (hof : o k + 33 ≤ φ k j) (hw : w ≤ 64) (hF : ∀ i, i < w → F i = I (m + 33) (64 * r + i))
    (hty : (sh = 0 ∧ t = 201 ∧ ∀ i, i < w → b8 (F i) = F i) ∨ (sh = 1 ∧ t = 202 ∧ ∀ i, i < w → -256 ≤ (F i).toInt ∧ (F i).toInt ≤ 255)) (hJ : ∀ q, q < mm_nx B → J1 q = J q) (hP : ∀ q, q < mm_nx B → q ≠ φ k j → P1 q = P q) (hPf : (sh = 0 ∧ P1 (φ k j) 1 = some (mm_nx B) ∧ P1 (φ k j) 2 = none) ∨ (sh = 1 ∧ P1 (φ k j) 1 = none ∧ P1 (φ k j) 2 = some (mm_nx B)))
    (hN : MNr m R w sh (250 * k + j) (fun i => va_up (vz I x) (mm_nx B) F (m + 33) (64 * r + i)) (va_up (vz I x) (mm_nx B) F) I2) : RC g (mm_al B t w w) I2 J1 P1 x m n (R + 1) K o fl φ (va_up ρ R (mm_nx B)) ∧ ∀ q, q < x → I2 q = I q := by
  obtain ⟨xm, mn⟩ := RC_xm h
  have mo := (RC_v h hk).1.2.1
  obtain ⟨n1, n2, n3, n4, n5, n6⟩ := hN
  have f1 : ∀ q, q ≠ x → q ≠ mm_nx B → va_up (vz I x) (mm_nx B) F q = I q := fun q q1 q2 => (va_up_n _ _ q2).trans (va_up_n _ _ q1)
  rw [f1 _ (by omega) (by omega)] at n1 n2 n3 n4 n5
  have n3' : I2 (m + 33) = sgp (I (m + 33)) (64 * R) w (fun i => I (m + 33) (64 * r + i)) := by rw [n3]
  have fo : ∀ q, q ≠ x → q ≠ m → q < m + 30 ∨ m + 33 < q → q ≠ mm_nx B → I2 q = I q := fun q q1 q2 q3 q4 => by rw [n6 q q2 q3, f1 q q1 q4]
  have fx : I2 x = va_up (I x) 9 (nI 0) := by rw [n6 x (by omega) (by omega), va_up_n _ _ (by omega)]; exact va_up_s _ _ _
  have fn : I2 (mm_nx B) = F := by rw [n6 _ (by omega) (by omega), va_up_s]
  have ro := fun r hr => RC_row h (r := r) hr
  have vr : VRw (mm_al B t w w) I2 m R (mm_nx B) := by
    refine ⟨by omega, by rw [al_x]; omega, w, hw, al_Ns, by rw [n1, va_up_s], fun i hi => ?_, ?_⟩
    · rw [fn, n3', sgp_in hi]; exact hF i hi
    · rw [n2, va_up_s, al_Ts, fn]
      rcases hty with ⟨a, b, c⟩ | ⟨a, b, c⟩
      · exact Or.inl ⟨by rw [a], b, c⟩
      · exact Or.inr ⟨by rw [a], b, c⟩
  have hr := RGr_new (RG_r h) (Ext_al (t := t) (k := w) (sl := w) h.1.1) (by rw [n5, va_up_n _ _ (by omega), va_up_s]) (fun r hr => by have := ro r hr; exact fo _ (by omega) (by omega) (by omega) (by omega)) (fun r hr => by rw [n1, va_up_n _ _ (by omega)]) (fun r hr => by rw [n2, va_up_n _ _ (by omega)]) (fun q hq => by rw [n3', sgp_out (by omega)]) vr (fun r hr e => by have := ro r hr; omega)
  have vn := v.2.1
  refine ⟨RC_fr h hk l3 l1 hj (Ext_al h.1.1) (al_z h.1.1) hP (fun q q1 q2 q3 q4 q5 => fo q q2 q3 (by omega) (by omega)) hJ (by rw [fx, n5, va_up_s, va_up_s]) (fun i hi => by rw [fx, va_up_n _ _ (by omega)]) (fun i hi => by rw [n5, va_up_n _ _ (by omega), va_up_n _ _ (by omega)]) (fun q hq => by rw [n4, va_up_n _ _ hq]) (by omega) (fun r hr => va_up_n _ _ (by omega)) hr (fun r hr => by rw [n2, va_up_n _ _ (by omega)]) ?_, fun q hq => fo q (by omega) (by omega) (by omega) (by omega)⟩
  refine ⟨(al_T (by omega)).trans v.1, by rw [al_x]; omega, ?_, Or.inr ⟨R, by omega, by rw [n4, va_up_s], ?_⟩⟩
  · rw [fo (φ k j) (by omega) (by omega) (by omega) (by omega), fo (m + 29) (by omega) (by omega) (by omega) (by omega)]; exact v.2.2.1
  · rw [n2, va_up_s, va_up_s]
    rcases hPf with ⟨a, b, c⟩ | ⟨a, b, c⟩
    · exact Or.inl ⟨by rw [a], b, c⟩
    · exact Or.inr ⟨by rw [a], b, c⟩
end FJ0
section FJ1
variable {g : mm_G} {c i : Int32}
theorem jo_lose : JO g mX11_lose mX12_lose [.int c, .int i] := by
  refine jo_m2 fun K x m B I J P n R o fl φ ρ hK hR h => ?_
  obtain ⟨hV, hM, -⟩ := RG_ly h
  obtain ⟨h8, hx4, hm0⟩ := RG_n h
  obtain ⟨xm, mn⟩ := RC_xm h
  rcases fr_cases h c i with ⟨k, j, L, hk, hj, l1, rfl, rfl, l2, l3, p1, p2, v, ct, ctm⟩ | ⟨ct, ctm⟩
  · right
    have mo := (RC_v h hk).1.2.1
    have ro := fun r hr => RC_row h (r := r) hr
    have v0 : ∀ q, q ≠ x → vz I x q = I q := fun q hq => va_up_n _ _ hq
    have cl := cl_lose_t (g := g) hV v.1 ct
    generalize hP1 : va_up P (φ k j) (va_up (va_up (P (φ k j)) 1 none) 2 none) = P1 at cl
    have hM1 : lyM B P1 m := lyM_ext hM (Ext_rf B) (fun q q1 q2 => by rw [← hP1, va_up_n _ _ (by omega)])
    have ma : MA B (vz I x) P1 m n k := ⟨hM1, by rw [v0 m (by omega)]; exact hm0, h8, hk⟩
    have ml := ml_lose_t (g := g) (J := J) ma (by rw [v0 _ (by omega)]; exact l3) l1 hj
    generalize hI2 : mo_st (va_up (vz I x) (m + 30) (va_up (vz I x (m + 30)) (250 * k + j) (nI 0))) m (nI 0) = I2 at ml
    have fx : I2 x = va_up (I x) 9 (nI 0) := by rw [← hI2]; exact (va_up_n _ _ (by omega)).trans ((va_up_n _ _ (by omega)).trans (va_up_s _ _ _))
    have fm : I2 m = va_up (I m) 1 (nI 0) := by
      rw [← hI2]; refine (va_up_s _ _ _).trans ?_
      rw [va_up_n _ _ (by omega), v0 _ (by omega)]
    have f30 : I2 (m + 30) = va_up (I (m + 30)) (250 * k + j) (nI 0) := by
      rw [← hI2]; refine (va_up_n _ _ (by omega)).trans ?_
      rw [va_up_s, v0 _ (by omega)]
    have fo : ∀ q, q ≠ x → q ≠ m → q ≠ m + 30 → I2 q = I q := fun q q1 q2 q3 => by rw [← hI2]; exact (va_up_n _ _ q2).trans ((va_up_n _ _ q3).trans (v0 _ q1))
    refine ⟨_, B, _, J, P1, I2, J, P1, n, R, o, fl, φ, ρ, cl, ml, by omega, RC_mono (RC_fr h hk l3 l1 hj (Ext_rf B) h.1.1 (fun q _ hq => by rw [← hP1, va_up_n _ _ hq]) (fun q q1 q2 q3 q4 q5 => fo q q2 q3 (by omega)) (fun _ _ => rfl) (by rw [fx, fm, va_up_s, va_up_s]) (fun i hi => by rw [fx, va_up_n _ _ (by omega)]) (fun i hi => by rw [fm, va_up_n _ _ (by omega)]) (fun q hq => by rw [f30, va_up_n _ _ hq]) (Nat.le_refl _) (fun _ _ => rfl) (RGr_cg (RG_r h) (Ext_rf B) (by rw [fm, va_up_n _ _ (by omega)]) (fun r hr => by have := ro r hr; exact fo _ (by omega) (by omega) (by omega)) (fo _ (by omega) (by omega) (by omega)) (fo _ (by omega) (by omega) (by omega)) (fo _ (by omega) (by omega) (by omega))) (fun r hr => by rw [fo (m + 32) (by omega) (by omega) (by omega)]) ?_) (by omega), Ext_rf B, by omega, by omega, fun q hq => fo q (by omega) (by omega) (by omega)⟩
    refine ⟨v.1, v.2.1, by rw [fo (φ k j) (by omega) (by omega) (by omega), fo (m + 29) (by omega) (by omega) (by omega)]; exact v.2.2.1, Or.inl ⟨by rw [f30, va_up_s], by rw [← hP1, va_up_s, va_up_n _ _ (by omega), va_up_s], by rw [← hP1, va_up_s, va_up_s]⟩⟩
  · exact Or.inl ⟨_, _, cl_lose_f hV ct, fun I1 h1 => ml_lose_f hM (ctm I1 h1)⟩
theorem jo_cut {w : Int32} : JO g mX11_cut mX12_cut [.int c, .int i, .int w] := by
  refine jo_m2 fun K x m B I J P n R o fl φ ρ hK hR h => ?_
  obtain ⟨hV, hM, -⟩ := RG_ly h
  obtain ⟨h8, hx4, hm0⟩ := RG_n h
  obtain ⟨xm, mn⟩ := RC_xm h
  rcases fr_cases h c i with ⟨k, j, L, hk, hj, l1, rfl, rfl, l2, l3, p1, p2, v, ct, ctm⟩ | ⟨ct, ctm⟩
  · have mo := (RC_v h hk).1.2.1
    have vn := v.2.1
    have ma : ∀ I1 : mm_TI, (∀ q, q ≠ x → I1 q = I q) → MA B I1 P m n k := fun I1 h1 => MA_of h hk (h1 _ (by omega))
    rcases fr_row h v with ⟨e1, e2, e3⟩ | ⟨r, s, r1, r2, r3, r4, r5, r6, r7, r8, hh⟩
    · exact Or.inl ⟨_, _, cl_cut_0 hV v.1 e2 e3 ct, fun I1 h1 => ml_cut_0 (ma I1 h1) (by rw [h1 _ (by omega)]; exact l3) l1 hj (by rw [h1 _ (by omega)]; exact e1)⟩
    · rcases in_cases (lo := 0) (hi := s) (by omega) (by omega) w with ⟨w, -, hw, rfl⟩ | hw
      · right
        have v1 : ∀ (F : Nat → Int32) q, q ≠ x → q ≠ mm_nx B → va_up (vz I x) (mm_nx B) F q = I q := fun F q q1 q2 => (va_up_n _ _ q2).trans (va_up_n _ _ q1)
        have hRm := (RG_r h).1
        rcases hh with ⟨t1, t2, t3, t4, t5⟩ | ⟨t1, t2, t3, t4, t5⟩
        · obtain ⟨F, hF, cl⟩ := cx_cut1 (g := g) (J := J) hV v.1 vn (show ρ r ≠ x by omega) t2 t4 r8 r4 r3 hw t5 ct
          generalize hP1 : va_up (va_up P (mm_nx B) (fun _ => none)) (φ k j) (va_up (P (φ k j)) 1 (some (mm_nx B))) = P1 at cl
          have fP : ∀ q, q ≠ φ k j → q ≠ mm_nx B → P1 q = P q := fun q q1 q2 => by rw [← hP1, va_up_n _ _ q1, va_up_n _ _ q2]
          have hM1 : lyM (mm_al B 201 w w) P1 m := lyM_ext hM (Ext_al h.1.1) (fun q q1 q2 => fP q (by omega) (by omega))
          have ma1 : MA (mm_al B 201 w w) (va_up (vz I x) (mm_nx B) F) P1 m n k := ⟨hM1, by rw [v1 F m (by omega) (by omega)]; exact hm0, h8, hk⟩
          obtain ⟨I2, mN, ml⟩ := cx_mcut (g := g) (J := va_up J (mm_nx B) (fun _ => 0)) (w := w) (sh := 0) ma1 (by rw [v1 F _ (by omega) (by omega)]; exact l3) l1 hj r1 (show R < 4300 by omega) r3 (by rw [v1 F _ (by omega) (by omega)]; exact r2) (by rw [v1 F _ (by omega) (by omega)]; exact r5) (by rw [v1 F _ (by omega) (by omega)]; exact t1) (by omega) (by rw [v1 F _ (by omega) (by omega)]; exact hRm) hw
          have rc := RC_nw (t := 201) (J1 := va_up J (mm_nx B) (fun _ => 0)) h hk l3 l1 hj v p2 (by omega) (fun i hi => by rw [hF i hi, r6 i (by omega)]) (Or.inl ⟨rfl, rfl, fun i hi => by rw [hF i hi]; exact t5 i (by omega)⟩) (fun q hq => va_up_n _ _ (by omega)) (fun q q1 q2 => fP q q2 (by omega)) (Or.inl ⟨rfl, by rw [← hP1, va_up_s, va_up_s], by rw [← hP1, va_up_s, va_up_n _ _ (by omega)]; exact t3⟩) mN
          exact ⟨_, _, _, _, P1, I2, _, P1, n, R + 1, o, fl, φ, _, cl, ml, by omega, RC_mono rc.1 (by omega), Ext_al h.1.1, by rw [al_x]; omega, by show mm_sl B + w ≤ _; omega, rc.2⟩
        · obtain ⟨F, hF, cl⟩ := cx_cut2 (g := g) (J := J) hV v.1 vn (show ρ r ≠ x by omega) t2 t3 t4 r8 r4 r3 hw t5 ct
          generalize hP1 : va_up (va_up P (mm_nx B) (fun _ => none)) (φ k j) (va_up (P (φ k j)) 2 (some (mm_nx B))) = P1 at cl
          have fP : ∀ q, q ≠ φ k j → q ≠ mm_nx B → P1 q = P q := fun q q1 q2 => by rw [← hP1, va_up_n _ _ q1, va_up_n _ _ q2]
          have hM1 : lyM (mm_al B 202 w w) P1 m := lyM_ext hM (Ext_al h.1.1) (fun q q1 q2 => fP q (by omega) (by omega))
          have ma1 : MA (mm_al B 202 w w) (va_up (vz I x) (mm_nx B) F) P1 m n k := ⟨hM1, by rw [v1 F m (by omega) (by omega)]; exact hm0, h8, hk⟩
          obtain ⟨I2, mN, ml⟩ := cx_mcut (g := g) (J := va_up J (mm_nx B) (fun _ => 0)) (w := w) (sh := 1) ma1 (by rw [v1 F _ (by omega) (by omega)]; exact l3) l1 hj r1 (show R < 4300 by omega) r3 (by rw [v1 F _ (by omega) (by omega)]; exact r2) (by rw [v1 F _ (by omega) (by omega)]; exact r5) (by rw [v1 F _ (by omega) (by omega)]; exact t1) (by omega) (by rw [v1 F _ (by omega) (by omega)]; exact hRm) hw
          have rc := RC_nw (t := 202) (J1 := va_up J (mm_nx B) (fun _ => 0)) h hk l3 l1 hj v p2 (by omega) (fun i hi => by rw [hF i hi, r6 i (by omega)]) (Or.inr ⟨rfl, rfl, fun i hi => by rw [hF i hi]; exact t5 i (by omega)⟩) (fun q hq => va_up_n _ _ (by omega)) (fun q q1 q2 => fP q q2 (by omega)) (Or.inr ⟨rfl, by rw [← hP1, va_up_s, va_up_n _ _ (by omega)]; exact t2, by rw [← hP1, va_up_s, va_up_s]⟩) mN
          exact ⟨_, _, _, _, P1, I2, _, P1, n, R + 1, o, fl, φ, _, cl, ml, by omega, RC_mono rc.1 (by omega), Ext_al h.1.1, by rw [al_x]; omega, by show mm_sl B + w ≤ _; omega, rc.2⟩
      · left
        have mlb := fun I1 h1 => ml_cut_b (g := g) (J := J) (r := r) (ma I1 h1) (by rw [h1 _ (by omega)]; exact l3) l1 hj (by omega) r3 (by rw [h1 _ (by omega)]; exact r2) (by rw [h1 _ (by omega)]; exact r5) hw
        rcases hh with ⟨t1, t2, t3, t4, t5⟩ | ⟨t1, t2, t3, t4, t5⟩
        · exact ⟨_, _, cl_cut_b hV v.1 (fun I => ct_hasRow_1 v.1 t2 t4) (Or.inr (Or.inl ⟨_, t2, t4, r4⟩)) hw ct, mlb⟩
        · exact ⟨_, _, cl_cut_b hV v.1 (fun I => ct_hasRow_2 v.1 t2 t3 t4) (Or.inr (Or.inr ⟨_, t2, t3, t4, r4⟩)) hw ct, mlb⟩
  · exact Or.inl ⟨_, _, cl_cut_f hV ct, fun I1 h1 => ml_cut_f hM (ctm I1 h1)⟩
theorem jo_shorts : JO g mX11_shorts mX12_shorts [.int c, .int i] := by
  refine jo_m2 fun K x m B I J P n R o fl φ ρ hK hR h => ?_
  obtain ⟨hV, hM, -⟩ := RG_ly h
  obtain ⟨h8, hx4, hm0⟩ := RG_n h
  obtain ⟨xm, mn⟩ := RC_xm h
  rcases fr_cases h c i with ⟨k, j, L, hk, hj, l1, rfl, rfl, l2, l3, p1, p2, v, ct, ctm⟩ | ⟨ct, ctm⟩
  · have mo := (RC_v h hk).1.2.1
    have vn := v.2.1
    have ma : ∀ I1 : mm_TI, (∀ q, q ≠ x → I1 q = I q) → MA B I1 P m n k := fun I1 h1 => MA_of h hk (h1 _ (by omega))
    rcases fr_row h v with ⟨e1, e2, e3⟩ | ⟨r, s, r1, r2, r3, r4, r5, r6, r7, r8, ⟨t1, t2, t3, t4, t5⟩ | ⟨t1, t2, t3, t4, t5⟩⟩
    · exact Or.inl ⟨_, _, cl_shorts_0 hV v.1 e2 ct, fun I1 h1 => ml_shorts_0 (ma I1 h1) (by rw [h1 _ (by omega)]; exact l3) l1 hj (by rw [h1 _ (by omega)]; exact e1)⟩
    · right
      have v1 : ∀ (F : Nat → Int32) q, q ≠ x → q ≠ mm_nx B → va_up (vz I x) (mm_nx B) F q = I q := fun F q q1 q2 => (va_up_n _ _ q2).trans (va_up_n _ _ q1)
      have hRm := (RG_r h).1
      have cl := cl_shorts_t (g := g) (J := J) hV v.1 vn (show ρ r ≠ x by omega) t2 t4 r8 r4 r3 t5 ct
      generalize hF' : sgp (fun _ => (0 : Int32)) 0 s (I (ρ r)) = F at cl
      have hF : ∀ i, i < s → F i = I (ρ r) i := fun i hi => by
        have := sgp_in (f := fun _ => (0 : Int32)) (v := I (ρ r)) (off := 0) (len := s) hi
        rw [Nat.zero_add] at this; rw [← hF']; exact this
      generalize hP1 : va_up (va_up P (mm_nx B) (fun _ => none)) (φ k j) (va_up (va_up (P (φ k j)) 2 (some (mm_nx B))) 1 none) = P1 at cl
      have fP : ∀ q, q ≠ φ k j → q ≠ mm_nx B → P1 q = P q := fun q q1 q2 => by rw [← hP1, va_up_n _ _ q1, va_up_n _ _ q2]
      have hM1 : lyM (mm_al B 202 s s) P1 m := lyM_ext hM (Ext_al h.1.1) (fun q q1 q2 => fP q (by omega) (by omega))
      have ma1 : MA (mm_al B 202 s s) (va_up (vz I x) (mm_nx B) F) P1 m n k := ⟨hM1, by rw [v1 F m (by omega) (by omega)]; exact hm0, h8, hk⟩
      obtain ⟨I2, mN, ml⟩ := cx_mshorts (g := g) (J := va_up J (mm_nx B) (fun _ => 0)) ma1 (by rw [v1 F _ (by omega) (by omega)]; exact l3) l1 hj r1 (show R < 4300 by omega) r3 (by rw [v1 F _ (by omega) (by omega)]; exact r2) (by rw [v1 F _ (by omega) (by omega)]; exact r5) (by rw [v1 F _ (by omega) (by omega)]; exact t1) (by rw [v1 F _ (by omega) (by omega)]; exact hRm)
      have rc := RC_nw (t := 202) (J1 := va_up J (mm_nx B) (fun _ => 0)) h hk l3 l1 hj v p2 (by omega) (fun i hi => by rw [hF i hi, r6 i (by omega)]) (Or.inr ⟨rfl, rfl, fun i hi => by rw [hF i hi]; have := b8_r (I (ρ r) i); rw [t5 i hi] at this; omega⟩) (fun q hq => va_up_n _ _ (by omega)) (fun q q1 q2 => fP q q2 (by omega)) (Or.inr ⟨rfl, by rw [← hP1, va_up_s, va_up_s], by rw [← hP1, va_up_s, va_up_n _ _ (by omega), va_up_s]⟩) mN
      exact ⟨_, _, _, _, P1, I2, _, P1, n, R + 1, o, fl, φ, _, cl, ml, by omega, RC_mono rc.1 (by omega), Ext_al h.1.1, by rw [al_x]; omega, by show mm_sl B + s ≤ _; omega, rc.2⟩
    · exact Or.inl ⟨_, _, cl_shorts_0 hV v.1 t2 ct, fun I1 h1 => ml_shorts_s (r := r) (ma I1 h1) (by rw [h1 _ (by omega)]; exact l3) l1 hj (by omega) (by rw [h1 _ (by omega)]; exact r2) (by rw [h1 _ (by omega)]; exact t1)⟩
  · exact Or.inl ⟨_, _, cl_shorts_f hV ct, fun I1 h1 => ml_shorts_f hM (ctm I1 h1)⟩
/-- a place of a row was written -/
theorem RC_rw {B : mm_B} {I : mm_TI} {J : mm_TJ} {P : mm_TP} {x m n R K k j L r q : Nat} {o : Nat → Nat} {fl φ : Nat → Nat → Nat} {ρ : Nat → Nat} {v : Int32} {I2 : mm_TI} (h : RC g B I J P x m n R K o fl φ ρ) (hk : k < n) (l3 : I (m + 28) k = nI L) (l1 : L ≤ 250) (hj : j < L) (vf : VFr B I P m R ρ (φ k j) (250 * k + j)) (hr : r < R) (hq : q < mm_N B (ρ r)) (hv : (mm_T B (ρ r) = 201 ∧ b8 v = v) ∨ (mm_T B (ρ r) = 202 ∧ -256 ≤ v.toInt ∧ v.toInt ≤ 255))
    (e2 : I2 = mo_st (va_up (va_up (vz I x) (ρ r) (va_up (I (ρ r)) q v)) (m + 33) (va_up (va_up (vz I x) (ρ r) (va_up (I (ρ r)) q v) (m + 33)) (64 * r + q) v)) m (nI 0)) : RC g B I2 J P x m n R K o fl φ ρ ∧ ∀ q, q < x → I2 q = I q := by
  obtain ⟨xm, mn⟩ := RC_xm h
  have mo := (RC_v h hk).1.2.1
  have ro := fun r hr => RC_row h (r := r) hr
  have rr := ro r hr
  have v1 : ∀ q', q' ≠ x → q' ≠ ρ r → va_up (vz I x) (ρ r) (va_up (I (ρ r)) q v) q' = I q' := fun q' q1 q2 => (va_up_n _ _ q2).trans (va_up_n _ _ q1)
  have fo : ∀ q', q' ≠ x → q' ≠ m → q' ≠ m + 33 → q' ≠ ρ r → I2 q' = I q' := fun q' a b c d => by rw [e2]; exact (va_up_n _ _ b).trans ((va_up_n _ _ c).trans (v1 _ a d))
  have fx : I2 x = va_up (I x) 9 (nI 0) := by rw [e2]; exact (va_up_n _ _ (by omega)).trans ((va_up_n _ _ (by omega)).trans ((va_up_n _ _ (by omega)).trans (va_up_s _ _ _)))
  have fm : I2 m = va_up (I m) 1 (nI 0) := by
    rw [e2]; refine (va_up_s _ _ _).trans ?_
    rw [va_up_n _ _ (by omega), v1 _ (by omega) (by omega)]
  have f33 : I2 (m + 33) = va_up (I (m + 33)) (64 * r + q) v := by
    rw [e2]; refine (va_up_n _ _ (by omega)).trans ?_
    rw [va_up_s, v1 _ (by omega) (by omega)]
  have fr : I2 (ρ r) = va_up (I (ρ r)) q v := by rw [e2]; refine (va_up_n _ _ (by omega)).trans ?_; rw [va_up_n _ _ (by omega), va_up_s]
  have frm : φ k j ≠ ρ r := fun e => by have := vf.1; rw [e] at this; omega
  have pj := (RC_v h hk)
  obtain ⟨L', a1, a2, a3, a4, a5⟩ := RC_l h hk
  have : L' = L := (nI_eq (by omega) (by omega)).mp (a3.symm.trans l3)
  subst this
  have p2 := (a4 j hj).2.1
  refine ⟨RC_fr h hk l3 l1 hj (Ext_rf B) h.1.1 (fun _ _ _ => rfl) (fun q' q1 q2 q3 q4 q5 => fo q' q2 q3 (by omega) (q5 r hr)) (fun _ _ => rfl) (by rw [fx, fm, va_up_s, va_up_s]) (fun i hi => by rw [fx, va_up_n _ _ (by omega)]) (fun i hi => by rw [fm, va_up_n _ _ (by omega)]) (fun q' _ => by rw [fo (m + 30) (by omega) (by omega) (by omega) (by omega)]) (Nat.le_refl _) (fun _ _ => rfl) (RGr_w (RG_r h) hr (by rw [fm, va_up_n _ _ (by omega)]) (fun s hs e => by
      have := ro s hs
      exact fo _ (by omega) (by omega) (by omega) (fun e2 => e ((RG_r h).2.2 s r hs hr e2))) hq fr (fo _ (by omega) (by omega) (by omega) (by omega)) (fo _ (by omega) (by omega) (by omega) (by omega)) f33 hv) (fun s hs => by rw [fo (m + 32) (by omega) (by omega) (by omega) (by omega)]) (VFr_cg h vf (Ext_rf B) (Nat.le_refl _) (fun _ _ => rfl) (fun s hs => by rw [fo (m + 32) (by omega) (by omega) (by omega) (by omega)]) (by rw [fo _ (by omega) (by omega) (by omega) frm]) (by rw [fo (m + 29) (by omega) (by omega) (by omega) (by omega)]) (by rw [fo (m + 30) (by omega) (by omega) (by omega) (by omega)]) rfl), fun q' hq' => fo q' (by omega) (by omega) (by omega) (by omega)⟩
theorem jo_damage {q w : Int32} : JO g mX11_damage mX12_damage [.int c, .int i, .int q, .int w] := by
  refine jo_mk fun K x m B I J P n R o fl φ ρ hK hR h => ?_
  obtain ⟨hV, hM, -⟩ := RG_ly h
  obtain ⟨h8, hx4, hm0⟩ := RG_n h
  obtain ⟨xm, mn⟩ := RC_xm h
  rcases fr_cases h c i with ⟨k, j, L, hk, hj, l1, rfl, rfl, l2, l3, p1, p2, v, ct, ctm⟩ | ⟨ct, ctm⟩
  · have mo := (RC_v h hk).1.2.1
    have ma : ∀ I1 : mm_TI, (∀ q, q ≠ x → I1 q = I q) → MA B I1 P m n k := fun I1 h1 => MA_of h hk (h1 _ (by omega))
    rcases in_cases (lo := 1) (hi := 255) (by omega) (by omega) w with ⟨w, w1, w2, rfl⟩ | hw
    · rcases fr_row h v with ⟨e1, e2, e3⟩ | ⟨r, s, r1, r2, r3, r4, r5, r6, r7, r8, hh⟩
      · exact Or.inl ⟨_, _, cl_damage_0 hV v.1 e2 e3 w1 w2 ct, fun I1 h1 => ml_damage_0 (ma I1 h1) (by rw [h1 _ (by omega)]; exact l3) l1 hj w1 w2 (by rw [h1 _ (by omega)]; exact e1)⟩
      · rcases nn_cases (b := s) (by omega) q with ⟨q, hq, rfl⟩ | hq
        · right
          have v1 : ∀ (F : Nat → Int32) q', q' ≠ x → q' ≠ ρ r → va_up (vz I x) (ρ r) F q' = I q' := fun F q' q1 q2 => (va_up_n _ _ q2).trans (va_up_n _ _ q1)
          rcases hh with ⟨t1, t2, t3, t4, t5⟩ | ⟨t1, t2, t3, t4, t5⟩
          · have rc := RC_rw (q := q) h hk l3 l1 hj v r1 (by omega) (Or.inl ⟨t4, b8_b8 (I (ρ r) q ^^^ nI w)⟩) rfl
            exact ⟨_, _, J, _, J, cl_damage_1 hV v.1 (by omega) t2 t4 r4 r3 hq w1 w2 ct, ml_damage_1 (s := s) (MA_of h hk (v1 _ _ (by omega) (by omega))) (by rw [v1 _ _ (by omega) (by omega)]; exact l3) l1 hj w1 w2 (by omega) r3 (by rw [v1 _ _ (by omega) (by omega)]; exact r2) (by rw [v1 _ _ (by omega) (by omega)]; exact r5) hq (by rw [v1 _ _ (by omega) (by omega)]; exact t1) (by rw [v1 _ _ (by omega) (by omega)]; exact (r6 q hq).symm), rc.1, rc.2⟩
          · have x9 := xr_9 (k := w) (t5 q hq).1 (t5 q hq).2 w2
            have rc := RC_rw (q := q) h hk l3 l1 hj v r1 (by omega) (Or.inr ⟨t4, x9⟩) rfl
            exact ⟨_, _, J, _, J, cl_damage_2 hV v.1 (by omega) t2 t3 t4 r4 r3 hq (t5 q hq) w1 w2 ct, ml_damage_2 (s := s) (MA_of h hk (v1 _ _ (by omega) (by omega))) (by rw [v1 _ _ (by omega) (by omega)]; exact l3) l1 hj w1 w2 (by omega) r3 (by rw [v1 _ _ (by omega) (by omega)]; exact r2) (by rw [v1 _ _ (by omega) (by omega)]; exact r5) hq (by rw [v1 _ _ (by omega) (by omega)]; exact t1) (by rw [v1 _ _ (by omega) (by omega)]; exact (r6 q hq).symm), rc.1, rc.2⟩
        · left
          have mlb := fun I1 h1 => ml_damage_n (g := g) (J := J) (r := r) (ma I1 h1) (by rw [h1 _ (by omega)]; exact l3) l1 hj w1 w2 (by omega) r3 (by rw [h1 _ (by omega)]; exact r2) (by rw [h1 _ (by omega)]; exact r5) hq
          rcases hh with ⟨t1, t2, t3, t4, t5⟩ | ⟨t1, t2, t3, t4, t5⟩
          · exact ⟨_, _, cl_damage_n hV v.1 (fun I => ct_hasRow_1 v.1 t2 t4) (Or.inr (Or.inl ⟨_, t2, t4, r4⟩)) hq w1 w2 ct, mlb⟩
          · exact ⟨_, _, cl_damage_n hV v.1 (fun I => ct_hasRow_2 v.1 t2 t3 t4) (Or.inr (Or.inr ⟨_, t2, t3, t4, r4⟩)) hq w1 w2 ct, mlb⟩
    · exact Or.inl ⟨_, _, cl_damage_b hV v.1 hw ct, fun I1 h1 => ml_damage_b (ma I1 h1) (by rw [h1 _ (by omega)]; exact l3) l1 hj hw⟩
  · exact Or.inl ⟨_, _, cl_damage_f hV ct, fun I1 h1 => ml_damage_f hM (ctm I1 h1)⟩
theorem jo_resum : JO g mX11_resum mX12_resum [.int c, .int i] := by
  refine jo_mk fun K x m B I J P n R o fl φ ρ hK hR h => ?_
  obtain ⟨hV, hM, -⟩ := RG_ly h
  obtain ⟨h8, hx4, hm0⟩ := RG_n h
  obtain ⟨xm, mn⟩ := RC_xm h
  rcases fr_cases h c i with ⟨k, j, L, hk, hj, l1, rfl, rfl, l2, l3, p1, p2, v, ct, ctm⟩ | ⟨ct, ctm⟩
  · have mo := (RC_v h hk).1.2.1
    have ma : ∀ I1 : mm_TI, (∀ q, q ≠ x → I1 q = I q) → MA B I1 P m n k := fun I1 h1 => MA_of h hk (h1 _ (by omega))
    rcases fr_row h v with ⟨e1, e2, e3⟩ | ⟨r, s, r1, r2, r3, r4, r5, r6, r7, r8, ⟨t1, t2, t3, t4, t5⟩ | ⟨t1, t2, t3, t4, t5⟩⟩
    · exact Or.inl ⟨_, _, cl_resum_0 hV v.1 e2 ct, fun I1 h1 => ml_resum_0 (ma I1 h1) (by rw [h1 _ (by omega)]; exact l3) l1 hj (by rw [h1 _ (by omega)]; exact e1)⟩
    · by_cases hs : s = 0
      · subst hs
        exact Or.inl ⟨_, _, cl_resum_e hV v.1 t2 t4 r4 ct, fun I1 h1 => ml_resum_e (r := r) (ma I1 h1) (by rw [h1 _ (by omega)]; exact l3) l1 hj (by omega) (by rw [h1 _ (by omega)]; exact r2) (by rw [h1 _ (by omega)]; exact t1) (by rw [h1 _ (by omega)]; exact r5)⟩
      · right
        obtain ⟨w, rfl⟩ : ∃ w, s = w + 1 := ⟨s - 1, by omega⟩
        have v1 : ∀ (F : Nat → Int32) q', q' ≠ x → q' ≠ ρ r → va_up (vz I x) (ρ r) F q' = I q' := fun F q' q1 q2 => (va_up_n _ _ q2).trans (va_up_n _ _ q1)
        have rc := RC_rw (q := w) h hk l3 l1 hj v r1 (by omega) (Or.inl ⟨t4, b8_b8 (sp_xs (I (ρ r)) w)⟩) rfl
        exact ⟨_, _, J, _, J, cl_resum_t hV v.1 (by omega) t2 t4 r4 (by omega) ct, ml_resum_t (r := r) (MA_of h hk (v1 _ _ (by omega) (by omega))) (by rw [v1 _ _ (by omega) (by omega)]; exact l3) l1 hj (by omega) (by omega) (by rw [v1 _ _ (by omega) (by omega)]; exact r2) (by rw [v1 _ _ (by omega) (by omega)]; exact t1) (by rw [v1 _ _ (by omega) (by omega)]; exact r5) (fun i hi => by rw [v1 _ _ (by omega) (by omega)]; exact (r6 i (by omega)).symm), rc.1, rc.2⟩
    · exact Or.inl ⟨_, _, cl_resum_0 hV v.1 t2 ct, fun I1 h1 => ml_resum_s (r := r) (ma I1 h1) (by rw [h1 _ (by omega)]; exact l3) l1 hj (by omega) (by rw [h1 _ (by omega)]; exact r2) (by rw [h1 _ (by omega)]; exact t1)⟩
  · exact Or.inl ⟨_, _, cl_resum_f hV ct, fun I1 h1 => ml_resum_f hM (ctm I1 h1)⟩
end FJ1
