/-! CODER, joint -/
theorem sg_0f {f : Nat → Int32} {a n : Nat} (h : ∀ k, k < n → f (a + k) = 0) : (fun _ => (0 : Int32)) = sg f a n := by
  funext k
  unfold sg
  by_cases e : k < n
  · rw [if_pos e, h k e]
  · rw [if_neg e]
section CJ0
variable {g : mm_G}
/-- a coder fresh from its constructor, on both sides -/
theorem VC_new {B : mm_B} {I : mm_TI} {J : mm_TJ} {P : mm_TP} {x m z n R K r : Nat} {φ ρ : Nat → Nat} {I0 : mm_TI} (hn : n < 8) (hr : r ≤ 1) (hz : mm_nx B = z) (hmz : m + 64 ≤ z) (nc : NewC z (x + 1) (x + 4) (x + 17) (nI r) I P) (nm : NewM m n (nI r) I0 I) (hP : P (x + 19) n = some z) : VC (als B lX0) I J P x m z R K (fun i => z + 20 + 2 * i) φ ρ n := by
  obtain ⟨c1, c2, c3, c4, c5, c6, c7, c8, c9, c10, c11, c12, c13, c14, c15, c16, c17, c18, c19, c20, c21, c22, c23⟩ := nc
  obtain ⟨m1, m2, m3, m4, m5, m6, m7, m8, m9, m10, m11, m12⟩ := nm
  have hC : lyC (als B lX0) P x z := by
    refine ⟨ly_T_als hz (by decide), ly_N_als hz (by decide), c11, ?_⟩
    have key : ∀ r ∈ lyC_O, P (z + r.1) r.2.1 = some (x + r.2.2) := by
      intro r hr
      simp only [lyC_O, List.mem_cons, List.not_mem_nil, or_false] at hr
      rcases hr with rfl | rfl | rfl | rfl | rfl | rfl | rfl | rfl | rfl
      · exact c12
      · exact c13
      · exact c14
      · exact c15
      · exact c16
      · exact c17
      · exact c18
      · exact c19
      · exact c20
    exact fun i k j t e => key _ (List.mem_of_getElem? e)
  have e0 : ∀ k, k = 6 ∨ (8 ≤ k ∧ k ≤ 11) ∨ k = 13 ∨ k = 14 ∨ k = 20 ∨ k = 28 ∨ (35 ≤ k ∧ k ≤ 42) ∨ k = 44 ∨ k = 47 → I (m + k) n = nI 0 := fun k hk => by rw [m2 k hk, va_up_s]
  have z4 : ∀ k, k ≠ 10 → I (z + 4) k = nI 0 := fun k hk => by rw [c3, va_up_n _ _ hk]; rfl
  have z17 : ∀ k, k ≠ 10 → k ≠ 7 → I (z + 17) k = nI 0 := fun k h1 h2 => by rw [c7, va_up_n _ _ h2, va_up_n _ _ h1]; rfl
  have m15 : ∀ s, s = 2 * n ∨ s = 2 * n + 1 → ∀ k, k < 160 → I (m + 15) (160 * s + k) = 0 := fun s hs k hk => by
    rw [m6]
    rcases hs with rfl | rfl
    · rw [sgp_out (by omega), sgp_in hk]; rfl
    · rw [sgp_in hk]; rfl
  have m16 : ∀ q, q = 16 ∨ q = 17 → ∀ s, s = 2 * n ∨ s = 2 * n + 1 → ∀ k, k < 8 → I (m + q) (8 * s + k) = 0 := fun q hq s hs k hk => by
    rw [m7 q hq]
    rcases hs with rfl | rfl
    · rw [sgp_out (by omega), sgp_in hk]; rfl
    · rw [sgp_in hk]; rfl
  have r0 : r16 (0 : Int32) := by constructor <;> decide
  have mem : ∀ b s, s = 2 * n ∨ s = 2 * n + 1 → I b 3 = nI 40 → (∀ i, 1 ≤ i → i ≤ 3 → I (b + i) = fun _ => 0) → VCm I m b s := fun b s hs h3 hb => by
    refine ⟨?_, fun k _ => by rw [hb 1 (by omega) (by omega)]; exact r0, ?_, ?_, 40, by omega, by omega, h3, ?_⟩
    · rw [hb 1 (by omega) (by omega)]; exact sg_0f (m15 s hs)
    · rw [hb 2 (by omega) (by omega)]; exact sg_0f (m16 16 (by omega) s hs)
    · rw [hb 3 (by omega) (by omega)]; exact sg_0f (m16 17 (by omega) s hs)
    · rw [m8]
      rcases hs with rfl | rfl
      · rw [va_up_n _ _ (by omega), va_up_s]
      · rw [va_up_s]
  refine ⟨⟨hC, hmz, by rw [als_x, hz]; exact Nat.le_refl _, hP, c21, c22, fun i hi => ?_⟩, ⟨0, by omega, by rw [c1]; rfl, e0 11 (by omega), fun j hj => absurd hj (by omega)⟩, ⟨⟨r, hr, by rw [c3, va_up_s], by rw [m1 5 (by omega), va_up_s]⟩, ⟨0, by omega, z4 _ (by omega), by rw [m5, va_up_n _ _ (by omega), va_up_s]⟩, ⟨0, by omega, z4 _ (by omega), by rw [m5, va_up_s]⟩, ⟨0, by omega, z4 _ (by omega), e0 6 (by omega)⟩, ⟨0, by omega, z4 _ (by omega), e0 9 (by omega)⟩, ⟨0, by omega, z4 _ (by omega), e0 8 (by omega)⟩, ⟨0, by omega, z4 _ (by omega), e0 10 (by omega)⟩, by rw [z4 _ (by omega), e0 14 (by omega)], by rw [z4 _ (by omega), e0 13 (by omega)], ?_⟩, ⟨0, by omega, e0 20 (by omega), z4 _ (by omega), fun e => absurd e (by omega)⟩, mem _ _ (Or.inl rfl) c5 c6, ⟨⟨0, by omega, z17 _ (by omega) (by omega), e0 44 (by omega), fun j hj => absurd hj (by omega)⟩, ⟨r, hr, by rw [c7, va_up_s], by rw [m1 34 (by omega), va_up_s]⟩, by rw [z17 _ (by omega) (by omega), e0 35 (by omega)], ⟨0, by omega, z17 _ (by omega) (by omega), e0 36 (by omega)⟩, ⟨2000, by omega, by omega, by rw [c7, va_up_n _ _ (by omega), va_up_s], by rw [m4, va_up_s]⟩, ⟨0, by omega, z17 _ (by omega) (by omega), e0 47 (by omega)⟩, by rw [z17 _ (by omega) (by omega), e0 42 (by omega)], ⟨0, by omega, z17 _ (by omega) (by omega), e0 38 (by omega), Or.inl ⟨rfl, by rw [m3, va_up_s]⟩⟩, ⟨0, by omega, z17 _ (by omega) (by omega), e0 37 (by omega)⟩, by rw [z17 _ (by omega) (by omega), e0 39 (by omega)], by rw [z17 _ (by omega) (by omega), e0 40 (by omega)], by rw [z17 _ (by omega) (by omega), e0 41 (by omega)]⟩, mem _ _ (Or.inr rfl) c9 c10, fun i hi => ?_, ⟨0, by omega, by rw [c2]; rfl, e0 28 (by omega), fun i hi => absurd hi (by omega), fun i j hi => absurd hi (by omega)⟩⟩
  · have : i = 0 ∨ i = 1 ∨ i = 2 ∨ i = 3 := by omega
    rcases this with rfl | rfl | rfl | rfl
    · exact ⟨als_t (i := 20) hz rfl rfl rfl, als_t (i := 21) hz rfl rfl rfl⟩
    · exact ⟨als_t (i := 22) hz rfl rfl rfl, als_t (i := 23) hz rfl rfl rfl⟩
    · exact ⟨als_t (i := 24) hz rfl rfl rfl, als_t (i := 25) hz rfl rfl rfl⟩
    · exact ⟨als_t (i := 26) hz rfl rfl rfl, als_t (i := 27) hz rfl rfl rfl⟩
  · rw [c4]; exact sg_0f (fun k hk => by rw [m9 19 (by omega), sgp_in hk]; rfl)
  · have tg : mm_T (als B lX0) (z + 20 + 2 * i) = 103 ∧ mm_T (als B lX0) (z + 20 + 2 * i + 1) = 200 := by
      have : i = 0 ∨ i = 1 ∨ i = 2 ∨ i = 3 := by omega
      rcases this with rfl | rfl | rfl | rfl
      · exact ⟨als_t (i := 20) hz rfl rfl rfl, als_t (i := 21) hz rfl rfl rfl⟩
      · exact ⟨als_t (i := 22) hz rfl rfl rfl, als_t (i := 23) hz rfl rfl rfl⟩
      · exact ⟨als_t (i := 24) hz rfl rfl rfl, als_t (i := 25) hz rfl rfl rfl⟩
      · exact ⟨als_t (i := 26) hz rfl rfl rfl, als_t (i := 27) hz rfl rfl rfl⟩
    refine ⟨0, 0, 0, 0, fun _ => 0, ⟨tg.1, by rw [show z + 20 + 2 * i + 1 = z + 21 + 2 * i by omega]; exact c23 i hi, tg.2, by omega, c8 i hi, fun e => absurd e (by omega), fun e => absurd e (by omega), fun e => absurd e (by omega), fun e => absurd e (by omega)⟩, ⟨by omega, by rw [m10, sgp_in hi], fun e => absurd e (by omega), fun e => absurd e (by omega), fun e => absurd e (by omega), fun e => absurd e (by omega)⟩⟩
theorem jo_coder {r : Int32} : JO g mX11_coder mX12_coder [.int r] := by
  refine jo_m2 fun K x m B I J P n R o fl φ ρ hK hR h => ?_
  obtain ⟨hV, hM, -⟩ := RG_ly h
  obtain ⟨h8, hx4, hm0⟩ := RG_n h
  obtain ⟨xm, mn⟩ := RC_xm h
  rcases in_cases (lo := 0) (hi := 1) (by omega) (by omega) r with ⟨r, -, r1, rfl⟩ | hr
  · by_cases hu : n = 8
    · subst hu
      exact Or.inl ⟨_, _, cl_coder_u hV r1 hx4, fun I1 h1 => ml_coder_u hM r1 (by rw [h1 _ (by omega)]; exact hm0)⟩
    · right
      have hn : n < 8 := by omega
      obtain ⟨I1, J1, P1, cl, nc, gx, p19, g1, j1, q1⟩ := cx_coder (g := g) (J := J) hV r1 hx4 hn (by omega) h.1.1
      have hX := als_Ext lX0 B h.1.1
      have hM1 : lyM (als B lX0) P1 m := lyM_ext hM hX.1 (fun q a b => q1 q (by omega) (by omega))
      obtain ⟨I2, nm, ml⟩ := cx_mcoder (g := g) (I := I1) (J := J1) (n := n) hM1 r1 (by rw [g1 m (by omega) (by omega)]; exact hm0) hn
      have nm' := nm
      obtain ⟨m1, m2, m3, m4, m5, m6, m7, m8, m9, m10, m11, m12⟩ := nm'
      have ro := fun r hr => RC_row h (r := r) hr
      have fo : ∀ q, q < mm_nx B → q ≠ x → q < m ∨ (m + 1 ≤ q ∧ q ≤ m + 4) ∨ q = m + 12 ∨ (m + 22 ≤ q ∧ q ≤ m + 27) ∨ (m + 29 ≤ q ∧ q ≤ m + 33) ∨ q = m + 45 ∨ m + 48 < q → I2 q = I q := fun q a b c => by rw [m12 q c, g1 q a b]
      have fx : I2 x = va_up (va_up (I x) 9 (nI 0)) 4 (nI (n + 1)) := by rw [m12 x (by omega), gx]
      have fm : I2 m = va_up (va_up (I m) 0 (nI (n + 1))) 1 (nI 0) := by rw [m11, g1 m (by omega) (by omega)]
      have gm : ∀ k, k < 64 → I1 (m + k) = I (m + k) := fun k hk => g1 _ (by omega) (by omega)
      have onx : ∀ d, d < n → o d + 33 ≤ mm_nx B := fun d hd => (RC_v h hd).1.2.2.1
      have fnx : ∀ d i, d < n → i < 4 → fl d i + 1 < mm_nx B := fun d i hd hi => RC_nx h (q := fl d i + 1) (by have := VC_tf (RC_v h hd) hi; omega)
      generalize hz : mm_nx B = z at *
      have nc' : NewC z (x + 1) (x + 4) (x + 17) (nI r) I2 P1 := by
        obtain ⟨c1, c2, c3, c4, c5, c6, c7, c8, c9, c10, c11⟩ := nc
        have vI : ∀ q, z ≤ q → I2 q = I1 q := fun q hq => m12 q (by omega)
        exact ⟨by rw [vI _ (by omega)]; exact c1, by rw [vI _ (by omega)]; exact c2, by rw [vI _ (by omega)]; exact c3, by rw [vI _ (by omega)]; exact c4, by rw [vI _ (by omega)]; exact c5, fun i a b => by rw [vI _ (by omega)]; exact c6 i a b, by rw [vI _ (by omega)]; exact c7, fun i a => by rw [vI _ (by omega)]; exact c8 i a, by rw [vI _ (by omega)]; exact c9, fun i a b => by rw [vI _ (by omega)]; exact c10 i a b, c11⟩
      have nx2 : mm_nx (als B lX0) = z + 33 := by rw [als_x, hz]; rfl
      have vc := VC_new (J := J1) (R := R) (K := K) (φ := φ n) (ρ := ρ) hn r1 hz (by omega) nc' nm (by rw [p19, va_up_s])
      refine ⟨_, _, I1, J1, P1, I2, J1, P1, n + 1, R, va_up o n z, va_up fl n (fun i => z + 20 + 2 * i), φ, ρ, cl, ml, by omega, RC_mono (RC_go h n hX.1.1 hX.1.2.1 (RCg_mk h hX.1 hX.2 (lyV_ext (P := va_up P (x + 19) (P1 (x + 19))) (lyV_P19 hV) hX.1 (fun q a b => ?_)) hM1 (fun q hq => fo q (by omega) (by omega) (by omega)) ⟨by omega, by rw [fx, va_up_s], by rw [fm, va_up_n _ _ (by omega), va_up_s]⟩ ⟨by rw [j1 _ (by omega), j1 m (by omega)]; exact (RG_j h).1, fun i hi => by rw [fo (x + 2) (by omega) (by omega) (by omega), fo (m + 1) (by omega) (by omega) (by omega)]; exact (RG_j h).2 i hi⟩ (RGt_cg (RG_t h) (by rw [fo (x + 1) (by omega) (by omega) (by omega)]) (by rw [fm, va_up_n _ _ (by omega), va_up_n _ _ (by omega)]) (fo _ (by omega) (by omega) (by omega)) (fo _ (by omega) (by omega) (by omega))) (RGp_cg (RG_p h) (by rw [fx, va_up_n _ _ (by omega), va_up_n _ _ (by omega)]) (by rw [fm, va_up_n _ _ (by omega), va_up_n _ _ (by omega)]) (fo _ (by omega) (by omega) (by omega)) (fo _ (by omega) (by omega) (by omega))) (RGb_cg (RG_b h) (by rw [fx, va_up_n _ _ (by omega), va_up_n _ _ (by omega)]) (by rw [fm, va_up_n _ _ (by omega), va_up_n _ _ (by omega)]) (fo _ (by omega) (by omega) (by omega)) (fo _ (by omega) (by omega) (by omega))) (RGz_cg (RG_z h) (fun k k1 k2 => fo _ (by omega) (by omega) (by omega)) (j1 _ (by omega)) (j1 _ (by omega))) (RGr_cg (RG_r h) hX.1 (by rw [fm, va_up_n _ _ (by omega), va_up_n _ _ (by omega)]) (fun r hr => by have := ro r hr; exact fo _ (by omega) (by omega) (by omega)) (fo _ (by omega) (by omega) (by omega)) (fo _ (by omega) (by omega) (by omega)) (fo _ (by omega) (by omega) (by omega))))
        (by rw [fx, fm, va_up_n _ _ (by omega), va_up_s, va_up_s]) (Nat.le_refl _) (fun _ _ => rfl) (fun r hr => by rw [fo (m + 32) (by omega) (by omega) (by omega)]) (fun d d1 d2 => ⟨by omega, va_up_n _ _ d2, va_up_n _ _ d2, rfl⟩) ?_ (fun q ho => ?_) (fun d d1 d2 => by rw [p19, va_up_n _ _ d2]) (fun d k j d1 d2 k1 k2 k3 j1 j2 => ?_) (fun d j d1 d2 _ _ => by rw [j1 (m + 23) (by omega), j1 (m + 24) (by omega)]; exact ⟨rfl, rfl⟩) (fun _ => by rw [va_up_s, va_up_s]; exact vc) (fun q _ hq => ?_)) (by omega), hX.1, by rw [nx2]; omega, by rw [als_sl]; exact Nat.add_le_add_left (by decide) _, fun q hq => fo q (by omega) (by omega) (by omega)⟩
      · by_cases e : q = x + 19
        · rw [e, va_up_s]
        · rw [va_up_n _ _ e]; exact q1 q (by omega) e
      · refine ⟨fun c d hc hd hcd => ?_, fun c i hc hi => ?_, fun c d i j hc hd hi hj hne => ?_⟩
        · by_cases e1 : c = n
          · subst e1; rw [va_up_s, va_up_n _ _ (show d ≠ c by omega)]; have := onx d (by omega); omega
          · by_cases e2 : d = n
            · subst e2; rw [va_up_s, va_up_n _ _ e1]; have := onx c (by omega); omega
            · rw [va_up_n _ _ e1, va_up_n _ _ e2]; exact h.2.2.1.1 c d (by omega) (by omega) hcd
        · by_cases e1 : c = n
          · subst e1
            rw [va_up_s]
            refine ⟨by show m + 64 ≤ z + 20 + 2 * i; omega, fun d hd => ?_⟩
            by_cases e2 : d = c
            · subst e2; rw [va_up_s]; exact Or.inr (Or.inr ⟨rfl, rfl⟩)
            · rw [va_up_n _ _ e2]; have := onx d (by omega)
              show z + 20 + 2 * i + 1 < o d ∨ o d + 33 ≤ z + 20 + 2 * i ∨ _; omega
          · rw [va_up_n _ _ e1, va_up_n _ _ e1]
            obtain ⟨a, b⟩ := h.2.2.1.2.1 c i (by omega) hi
            refine ⟨a, fun d hd => ?_⟩
            by_cases e2 : d = n
            · subst e2; rw [va_up_s]; have := fnx c i (by omega) hi; omega
            · rw [va_up_n _ _ e2]; exact b d (by omega)
        · by_cases e1 : c = n
          · by_cases e2 : d = n
            · rw [e1, e2, va_up_s]; show z + 20 + 2 * i ≠ z + 20 + 2 * j ∧ z + 20 + 2 * i ≠ z + 20 + 2 * j + 1; omega
            · rw [e1, va_up_s, va_up_n _ _ e2]; have := fnx d j (by omega) hj; show z + 20 + 2 * i ≠ _ ∧ z + 20 + 2 * i ≠ _; omega
          · by_cases e2 : d = n
            · rw [e2, va_up_s, va_up_n _ _ e1]; have := fnx c i (by omega) hi; show _ ≠ z + 20 + 2 * j ∧ _ ≠ z + 20 + 2 * j + 1; omega
            · rw [va_up_n _ _ e1, va_up_n _ _ e2]; exact h.2.2.1.2.2 c d i j (by omega) (by omega) hi hj hne
      · have h1 : ¬ (x ≤ q ∧ q < x + 22) := fun e => ho (Or.inl e)
        have h2 : ¬ (m ≤ q ∧ q < m + 64) := fun e => ho (Or.inr (Or.inl e))
        have h6 : ¬ mm_nx B ≤ q := fun e => ho (Or.inr (Or.inr (Or.inr (Or.inr e))))
        exact ⟨fo q (by omega) (by omega) (by omega), j1 q (by omega), q1 q (by omega) (by omega)⟩
      · have sz1 : ∀ k, k = 5 ∨ k = 34 ∨ k = 6 ∨ (8 ≤ k ∧ k ≤ 11) ∨ k = 13 ∨ k = 14 ∨ k = 20 ∨ k = 25 ∨ k = 28 ∨ (35 ≤ k ∧ k ≤ 44) ∨ k = 46 ∨ k = 47 → szM k = 1 := fun k hk => by unfold szM; rw [if_neg (by omega), if_neg (by omega), if_neg (by omega), if_neg (by omega), if_neg (by omega), if_neg (by omega), if_neg (by omega), if_neg (by omega), if_neg (by omega)]
        by_cases a : k = 5 ∨ k = 34
        · rw [sz1 k (by omega)] at j1 j2
          rw [m1 k a, va_up_n _ _ (by omega), gm k (by omega)]
        · by_cases b : k = 6 ∨ (8 ≤ k ∧ k ≤ 11) ∨ k = 13 ∨ k = 14 ∨ k = 20 ∨ k = 28 ∨ (35 ≤ k ∧ k ≤ 42) ∨ k = 44 ∨ k = 47
          · rw [sz1 k (by omega)] at j1 j2
            rw [m2 k b, va_up_n _ _ (by omega), gm k (by omega)]
          · by_cases c : k = 12 ∨ (22 ≤ k ∧ k ≤ 27) ∨ (29 ≤ k ∧ k ≤ 33) ∨ k = 45 ∨ 48 < k
            · rw [fo (m + k) (by omega) (by omega) (by omega)]
            · have : k = 43 ∨ k = 46 ∨ k = 7 ∨ k = 15 ∨ k = 16 ∨ k = 17 ∨ k = 18 ∨ k = 19 ∨ k = 21 ∨ k = 48 := by omega
              rcases this with rfl | rfl | rfl | rfl | rfl | rfl | rfl | rfl | rfl | rfl
              · rw [sz1 43 (by omega)] at j1 j2
                rw [m3, va_up_n _ _ (by omega), gm _ (by omega)]
              · rw [sz1 46 (by omega)] at j1 j2
                rw [m4, va_up_n _ _ (by omega), gm _ (by omega)]
              · have j1' : 2 * d ≤ j := j1
                have j2' : j < 2 * d + 2 := j2
                rw [m5, va_up_n _ _ (by omega), va_up_n _ _ (by omega), gm _ (by omega)]
              · have j1' : 320 * d ≤ j := j1
                have j2' : j < 320 * d + 320 := j2
                rw [m6, sgp_out (by omega), sgp_out (by omega), gm _ (by omega)]
              · have j1' : 16 * d ≤ j := j1
                have j2' : j < 16 * d + 16 := j2
                rw [m7 16 (by omega), sgp_out (by omega), sgp_out (by omega), gm _ (by omega)]
              · have j1' : 16 * d ≤ j := j1
                have j2' : j < 16 * d + 16 := j2
                rw [m7 17 (by omega), sgp_out (by omega), sgp_out (by omega), gm _ (by omega)]
              · have j1' : 2 * d ≤ j := j1
                have j2' : j < 2 * d + 2 := j2
                rw [m8, va_up_n _ _ (by omega), va_up_n _ _ (by omega), gm _ (by omega)]
              · have j1' : 8 * d ≤ j := j1
                have j2' : j < 8 * d + 8 := j2
                rw [m9 19 (by omega), sgp_out (by omega), gm _ (by omega)]
              · have j1' : 8 * d ≤ j := j1
                have j2' : j < 8 * d + 8 := j2
                rw [m9 21 (by omega), sgp_out (by omega), gm _ (by omega)]
              · have j1' : 4 * d ≤ j := j1
                have j2' : j < 4 * d + 4 := j2
                rw [m10, sgp_out (by omega), gm _ (by omega)]
      · obtain ⟨L, i, d1, d2, d3, d4⟩ := hq
        rw [m2 28 (by omega), va_up_s] at d1
        have : 0 = L := (nI_eq (by omega) (by omega)).mp d1
        omega
  · exact Or.inl ⟨_, _, cl_coder_b hV hr, fun I1 h1 => ml_coder_b hM hr⟩
end CJ0
