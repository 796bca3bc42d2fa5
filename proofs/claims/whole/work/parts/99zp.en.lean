/-! ENCODE: joint -/
theorem b8_ite {c : Prop} [Decidable c] {a b : Int32} (h1 : b8 a = a) (h2 : b8 b = b) : b8 (if c then a else b) = if c then a else b := by
  by_cases h : c
  · rw [if_pos h]; exact h1
  · rw [if_neg h]; exact h2
theorem ite_cg {c : Prop} [Decidable c] {a b a' b' : Int32} (h1 : c → a = a') (h2 : ¬ c → b = b') : (if c then a else b) = if c then a' else b' := by
  by_cases h : c
  · rw [if_pos h, if_pos h]; exact h1 h
  · rw [if_neg h, if_neg h]; exact h2 h
theorem sp_pb_b8 (f : Nat → Int32) (j : Nat) : b8 (sp_pb f j) = sp_pb f j := by
  unfold sp_pb
  exact b8_ite (b8_b8 _) (b8_ite (b8_b8 _) (b8_ite (b8_b8 _) (b8_ite (b8_b8 _) (b8_b8 _))))
theorem sp_row_b8 (vo : Nat) (rt nu : Int32) (bd spr : Nat) (pk : Int32) (ix : Nat → Int32) (pf : Nat → Nat → Int32) (sl sh : Int32) (k : Nat) : b8 (sp_row vo rt nu bd spr pk ix pf sl sh k) = sp_row vo rt nu bd spr pk ix pf sl sh k := by
  unfold sp_row
  exact b8_ite (b8_b8 _) (b8_ite (b8_b8 _) (b8_ite (b8_b8 _) (b8_ite (b8_b8 _) (b8_ite (b8_b8 _) (b8_ite (b8_b8 _) (b8_ite (b8_ite (b8_b8 _) (b8_ite (sp_pb_b8 _ _) (b8_ite (b8_b8 _) (b8_b8 _)))) (b8_ite (b8_b8 _) (b8_ite (b8_b8 _) (b8_ite (b8_b8 _) (b8_b8 _))))))))))
theorem sp_ful_b8 {row : Nat → Int32} {L : Nat} (h : ∀ k, b8 (row k) = row k) (k : Nat) : b8 (sp_ful row L k) = sp_ful row L k := by
  unfold sp_ful
  split
  · exact h k
  · exact b8_b8 _
theorem sp_ful_cg {row row' : Nat → Int32} {L : Nat} (h : ∀ k, k < L → row k = row' k) (k : Nat) (hk : k ≤ L) : sp_ful row L k = sp_ful row' L k := by
  unfold sp_ful
  split
  · rename_i e; exact h k e
  · rw [sp_xs_cg L h]
theorem sp_pb_cg {f f' : Nat → Int32} (h : ∀ k, k < 7 → f k = f' k) (j : Nat) : sp_pb f j = sp_pb f' j := by
  unfold sp_pb
  rw [h 0 (by omega), h 1 (by omega), h 2 (by omega), h 3 (by omega), h 4 (by omega), h 5 (by omega), h 6 (by omega)]
theorem sp_row_cg {vo bd spr : Nat} {rt nu pk sl sh sl' sh' : Int32} {ix : Nat → Int32} {pf pf' : Nat → Nat → Int32} (hbd : bd = if vo = 1 then 28 else 2) (hs : spr = 0 ∨ spr = 2 ∧ sl = sl' ∧ sh = sh') (hp : ∀ i k, i < 4 → k < 7 → pf i k = pf' i k) (k : Nat) (hk : k < 6 + bd + spr) : sp_row vo rt nu bd spr pk ix pf sl sh k = sp_row vo rt nu bd spr pk ix pf' sl' sh' k := by
  unfold sp_row
  refine ite_cg (fun _ => rfl) (fun k0 => ite_cg (fun _ => rfl) (fun k1 => ite_cg (fun _ => rfl) (fun k2 => ite_cg (fun _ => rfl) (fun k3 => ite_cg (fun _ => rfl) (fun k4 => ite_cg (fun _ => rfl) (fun k5 => ite_cg (fun hv => ite_cg (fun _ => rfl) (fun c1 => ite_cg (fun c2 => ?_) (fun c2 => ite_cg (fun c3 => ?_) (fun c3 => ?_)))) (fun hv => ite_cg (fun _ => rfl) (fun c1 => ite_cg (fun _ => rfl) (fun c2 => ite_cg (fun c3 => ?_) (fun c3 => ?_))))))))))
  · exact sp_pb_cg (fun j hj => hp _ j (by omega) hj) _
  · rw [if_pos hv] at hbd
    rcases hs with h0 | ⟨_, h1, h2⟩
    · omega
    · rw [h1]
  · rw [if_pos hv] at hbd
    rcases hs with h0 | ⟨_, h1, h2⟩
    · omega
    · rw [h2]
  · rw [if_neg hv] at hbd
    rcases hs with h0 | ⟨_, h1, h2⟩
    · omega
    · rw [h1]
  · rw [if_neg hv] at hbd
    rcases hs with h0 | ⟨_, h1, h2⟩
    · omega
    · rw [h2]
section EN0
variable {g : mm_G} {B : mm_B} {I I' : mm_TI} {J J' : mm_TJ} {P P' : mm_TP} {x m n R K k L ln nu : Nat} {o : Nat → Nat} {fl φ : Nat → Nat → Nat} {ρ : Nat → Nat} {F : Nat → Int32}
theorem en_fin (h : RC g B I J P x m n R K o fl φ ρ) (hk : k < n) (l3 : I (m + 28) k = nI L) (hl : L < 250) (hln : ln ≤ 64)
    (hP1 : P' (mm_nx B) 1 = some (mm_nx B + 1)) (hP2 : P' (mm_nx B) 2 = none) (hPl : ∀ q, q < L + 1 → P' (o k + 3) q = some (va_up (φ k) L (mm_nx B) q)) (hP : ∀ q, q < mm_nx B → q ≠ o k + 3 → P' q = P q)
    (n0 : I' (mm_nx B) 0 = nI nu) (nr : ∀ q, q < ln → I' (mm_nx B + 1) q = F q) (nb : ∀ q, q < ln → b8 (F q) = F q)
    (h2 : I' (o k + 2) 1 = nI (L + 1)) (h28 : I' (m + 28) = va_up (I (m + 28)) k (nI (L + 1))) (h29 : I' (m + 29) = va_up (I (m + 29)) (250 * k + L) (nI nu)) (h30 : I' (m + 30) = va_up (I (m + 30)) (250 * k + L) (nI (R + 1)))
    (h31 : I' (m + 31) = va_up (I (m + 31)) R (nI ln)) (h32 : I' (m + 32) = va_up (I (m + 32)) R (nI 0)) (h33 : I' (m + 33) = sgp (I (m + 33)) (64 * R) ln F) (m36 : I' m 36 = nI (R + 1))
    (hI : ∀ q, q < mm_nx B → q < x ∨ x + 22 ≤ q → q < m ∨ m + 64 ≤ q → q < o k ∨ o k + 17 ≤ q → I' q = I q) (hJ : ∀ q, q < mm_nx B → q < x ∨ x + 22 ≤ q → q < m ∨ m + 64 ≤ q → q < o k ∨ o k + 17 ≤ q → J' q = J q)
    (hst : I' x 9 = I' m 1) (hx : ∀ j, j = 4 ∨ j = 6 ∨ j = 8 → I' x j = I x j) (hm : ∀ j, j = 0 ∨ j = 7 ∨ j = 9 → I' m j = I m j) (hj : J' (x + 1) 3 = J' m 2)
    (hxx : ∀ j, j = 2 ∨ j = 20 ∨ j = 21 → I' (x + j) = I (x + j)) (hmm : ∀ j, j = 1 ∨ j = 3 ∨ j = 4 ∨ (34 ≤ j ∧ j ≤ 52) → I' (m + j) = I (m + j)) (ht : RGt I' x m) (hz : RGz I' J' x)
    (hs : ∀ r j, 5 ≤ r → r ≤ 27 → j < szM r * k ∨ szM r * k + szM r ≤ j → I' (m + r) j = I (m + r) j) (hsJ : ∀ j, j < 4 * k ∨ 4 * k + 4 ≤ j → J' (m + 23) j = J (m + 23) j ∧ J' (m + 24) j = J (m + 24) j)
    (e15 : ∀ j, j < 320 * k ∨ 320 * k + 160 ≤ j → I' (m + 15) j = I (m + 15) j) (e16 : ∀ j, j < 16 * k ∨ 16 * k + 8 ≤ j → I' (m + 16) j = I (m + 16) j) (e17 : ∀ j, j < 16 * k ∨ 16 * k + 8 ≤ j → I' (m + 17) j = I (m + 17) j) (e18 : ∀ j, j ≠ 2 * k → I' (m + 18) j = I (m + 18) j)
    (pw : VCw I' m (o k) k) (pe : VCe I' m (o k) k) (ps : VCs I' J' m (o k) k) (p1 : VCm I' m (o k + 13) (2 * k)) :
    RC g (mm_al (mm_al B 104 0 3) 201 ln ln) I' J' P' x m n (R + 1) K o fl (va_up φ k (va_up (φ k) L (mm_nx B))) (va_up ρ R (mm_nx B + 1)) := by
  obtain ⟨xm, mn⟩ := RC_xm h
  have hv := RC_v h hk
  have mo := hv.1.2.1
  have no := hv.1.2.2.1
  have ro := fun r hr => RC_row h (r := r) hr
  have nx1 : mm_nx (mm_al B 104 0 3) = mm_nx B + 1 := rfl
  have nx2 : mm_nx (mm_al (mm_al B 104 0 3) 201 ln ln) = mm_nx B + 2 := rfl
  have hX : Ext B (mm_al (mm_al B 104 0 3) 201 ln ln) := Ext_tr (Ext_al h.1.1) (Ext_al (al_z h.1.1))
  have f32 : ∀ r, r < R → I' (m + 32) r = I (m + 32) r := fun r _ => by rw [h32, va_up_n _ _ (by omega)]
  have tg : ∀ j, j < 33 → mm_T B (o k + j) ≠ 104 ∧ mm_T B (o k + j) ≠ 201 ∧ mm_T B (o k + j) ≠ 202 := fun j hj => by
    have := VC_tg hv hj; exact ⟨this.1, this.2.1, this.2.2.1⟩
  have vr : VRw (mm_al (mm_al B 104 0 3) 201 ln ln) I' m R (mm_nx B + 1) :=
    ⟨by omega, by rw [nx2]; omega, ln, hln, al_Ns, by rw [h31, va_up_s], fun q hq => by rw [nr q hq, h33, sgp_in hq], Or.inl ⟨by rw [h32, va_up_s], al_Ts, fun q hq => by rw [nr q hq]; exact nb q hq⟩⟩
  have ou : ∀ q, m + 64 ≤ q → q < mm_nx B → (∀ j, j < 33 → q ≠ o k + j) → I' q = I q := fun q q1 q2 q3 => hI q q2 (by omega) (by omega) (by
    by_cases c : q < o k
    · exact Or.inl c
    · right
      by_cases d : q < o k + 33
      · exact absurd (show q = o k + (q - o k) by omega) (q3 _ (by omega))
      · omega)
  have hr := RGr_new (RG_r h) hX m36 (fun r hr => by
    have := ro r hr
    exact ou _ (by omega) (by omega) (fun j hj e => by have t := tg j hj; rw [← e] at t; omega)) (fun r hr => by rw [h31, va_up_n _ _ (by omega)]) f32 (fun q hq => by rw [h33, sgp_out (by omega)]) vr (fun r hr e => by have := ro r hr; omega)
  have vf : VFr (mm_al (mm_al B 104 0 3) 201 ln ln) I' P' m (R + 1) (va_up ρ R (mm_nx B + 1)) (mm_nx B) (250 * k + L) :=
    ⟨(al_T (by rw [nx1]; omega)).trans al_Ts, by rw [nx2]; omega, by rw [h29, va_up_s, n0], Or.inr ⟨R, by omega, by rw [h30, va_up_s], Or.inl ⟨by rw [h32, va_up_s], by rw [va_up_s]; exact hP1, hP2⟩⟩⟩
  obtain ⟨L', c1, c2, c3, c4, c5⟩ := RC_l h hk
  obtain rfl : L = L' := (nI_eq (by omega) (by omega)).mp (l3.symm.trans c3)
  have hl' : VCl (mm_al (mm_al B 104 0 3) 201 ln ln) I' P' m (o k) (R + 1) (va_up (φ k) L (mm_nx B)) (va_up ρ R (mm_nx B + 1)) k := by
    refine ⟨L + 1, by omega, h2, by rw [h28, va_up_s], fun i hi => ?_, fun i j hi hj e => ?_⟩
    · by_cases e : i = L
      · subst e
        rw [va_up_s]
        exact ⟨by rw [hPl i (by omega), va_up_s], by omega, vf⟩
      · obtain ⟨d1, d2, d3⟩ := c4 i (by omega)
        have dn := d3.2.1
        rw [va_up_n _ _ e]
        refine ⟨by rw [hPl i hi, va_up_n _ _ e], d2, VFr_cg h d3 hX (by omega) (fun r hr => va_up_n _ _ (by omega)) f32 (by rw [ou _ (by omega) (by omega) (fun j hj => by omega)]) (by rw [h29, va_up_n _ _ (by omega)]) (by rw [h30, va_up_n _ _ (by omega)]) (hP _ (by omega) (by omega))⟩
    · by_cases e1 : i = L
      · by_cases e3 : j = L
        · omega
        · rw [e1, va_up_s, va_up_n _ _ e3] at e
          have := (c4 j (by omega)).2.2.2.1; omega
      · by_cases e3 : j = L
        · rw [e3, va_up_s, va_up_n _ _ e1] at e
          have := (c4 i (by omega)).2.2.2.1; omega
        · rw [va_up_n _ _ e1, va_up_n _ _ e3] at e
          exact c5 i j (by omega) (by omega) e
  have hs' : ∀ r j, 5 ≤ r → r ≤ 52 → r < 31 ∨ 33 < r → j < szM r * k ∨ szM r * k + szM r ≤ j → I' (m + r) j = I (m + r) j := fun r j r1 r2 r3 hj => by
    by_cases c : r ≤ 27
    · exact hs r j r1 c hj
    · rcases (show r = 28 ∨ r = 29 ∨ r = 30 ∨ 34 ≤ r by omega) with rfl | rfl | rfl | e
      · have hj' : j < 1 * k ∨ 1 * k + 1 ≤ j := hj
        rw [h28, va_up_n _ _ (by omega)]
      · have hj' : j < 250 * k ∨ 250 * k + 250 ≤ j := hj
        rw [h29, va_up_n _ _ (by omega)]
      · have hj' : j < 250 * k ∨ 250 * k + 250 ≤ j := hj
        rw [h30, va_up_n _ _ (by omega)]
      · rw [hmm r (by omega)]
  have d17 : ∀ j, 17 ≤ j → j ≤ 32 → I' (o k + j) = I (o k + j) := fun j j1 j2 => hI _ (by omega) (by omega) (by omega) (by omega)
  refine RC_big h hk hX (al_z (al_z h.1.1)) hP (fun q q1 q2 q3 q4 q5 => hI q q1 q2 q3 (by omega)) (fun q q1 q2 q3 q4 q5 => hJ q q1 q2 q3 (by omega)) hst hx hm hj (fun i hi => by rw [hxx 2 (by omega), hmm 1 (by omega)]; exact (RG_j h).2 i hi) ht hz (hxx 20 (by omega)) (hxx 21 (by omega)) (hmm 3 (by omega)) (hmm 4 (by omega)) hs' hsJ (by omega) (fun r hr => va_up_n _ _ (by omega)) hr f32 pw pe ps p1
    (VCd_cg (RC_d h hk) (d17 17 (by omega) (by omega)) (d17 28 (by omega) (by omega)) (fun r r1 r2 => hmm r (by omega))) ?_ ?_ hl' (fun q hq => VCp_ap l3 hl rfl h28 hq)
  · exact VCm_cg hv.2.2.2.2.2.2.1 (d17 30 (by omega) (by omega)) (d17 31 (by omega) (by omega)) (d17 32 (by omega) (by omega)) (d17 29 (by omega) (by omega)) (fun j j1 j2 => e15 j (by omega)) (fun j j1 j2 => e16 j (by omega)) (fun j j1 j2 => e17 j (by omega)) (e18 _ (by omega))
  · refine VCf_cg h hk hX (fun i hi => ?_) (fun r r1 r2 => hmm r (by omega))
    obtain ⟨t1, t2⟩ := VC_tf hv hi
    have q1 := RC_nx h (q := fl k i) (by omega)
    have q2 := RC_nx h (q := fl k i + 1) (by omega)
    have mf := (h.2.2.1.2.1 k i hk hi).1
    have ow := fl_own h hk hi
    exact ⟨hI _ q1 (by omega) (by omega) (by omega), hI _ q2 (by omega) (by omega) (by omega), hJ _ q1 (by omega) (by omega) (by omega), hP _ q1 (by omega)⟩
end EN0
