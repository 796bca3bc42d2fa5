/-! WAVES, joint; and what a call upon the house alone leaves -/
theorem nI_all (v : Int32) : ∃ n, v = nI n := ⟨v.toBitVec.toNat, by
  apply Int32.toBitVec_inj.mp
  show v.toBitVec = BitVec.ofNat 32 _
  rw [BitVec.ofNat_toNat, BitVec.setWidth_eq]⟩
theorem i32_hi (p : Int32) : p ≤ nI 2147483647 := by
  apply Int32.le_iff_toInt_le.mpr
  have := p.toInt_lt
  rw [nI_toInt (by decide)]; omega
section WV3
variable {g : mm_G}
theorem jo_wave {c kd p q n' : Int32} : JO g mX11_wave mX12_wave [.int c, .int kd, .int p, .int q, .int n'] := by
  refine jo_mk fun K x m B I J P n R o fl φ ρ hK hR h => ?_
  obtain ⟨hV, hM, -⟩ := RG_ly h
  obtain ⟨h8, hx4, hm0⟩ := RG_n h
  have xm := (RC_xm h).1
  rcases cd_cases h8 c with ⟨k, hk, rfl⟩ | hc
  · have mo := (RC_v h hk).1.2.1
    have hC := (RC_v h hk).1.1
    by_cases hr : (nI 1 ≤ n' ∧ n' ≤ nI 320) ∧ WG kd p q
    · rcases in_cases (lo := 1) (hi := 320) (by omega) (by omega) n' with ⟨nn, g1, g2, rfl⟩ | hn
      · have hw := hr.2
        obtain ⟨w, w1, w2, w3, w4⟩ := RC_w h hk
        by_cases hu : 640 < w + nn
        · exact Or.inl ⟨_, _, cl_wave_u (CA_of h hk) g1 g2 hw w2 w1 hu, fun I1 h1 => ml_wave_u (MA_of h hk (h1 _ (by omega))) g1 g2 hw (by rw [h1 _ (by omega)]; exact w3) w1 hu⟩
        · have h6 : w + nn ≤ 640 := by omega
          suffices H : ∃ (val : Nat → Int32) (zz : Nat → Int64) (zm : Nat → Int32), zz 0 = p.toInt64 ∧ zm 0 = p ∧
              (∀ (i : Nat) (I : mm_TI) (Z : mm_Z), i < nn → Ev g mX11_wave 119 [some (.ref x), some (.int (nI k)), some (.int kd), some (.int p), some (.int q), some (.int (nI nn)), some (.ref (o k)), some (.long (zz (i + 1))), none, some (.int (nI i))] [.int (val i), .ref (o k)] B I J P Z → Ev g mX11_wave 82 [some (.ref x), some (.int (nI k)), some (.int kd), some (.int p), some (.int q), some (.int (nI nn)), some (.ref (o k)), some (.long (zz i)), none, some (.int (nI i))] [] B I J P Z) ∧
              (∀ (i : Nat) (I : mm_TI) (Z : mm_Z), i < nn → Ev g mX12_wave 263 [some (.ref m), some (.int (nI k)), some (.int kd), some (.int p), some (.int q), some (.int (nI nn)), some (.int (nI 1)), some (.int (zm (i + 1))), some (.int (nI i)), some (.int (val i)), none] [] B I J P Z → Ev g mX12_wave 141 [some (.ref m), some (.int (nI k)), some (.int kd), some (.int p), some (.int q), some (.int (nI nn)), some (.int (nI 1)), some (.int (zm i)), some (.int (nI i)), none, none] [] B I J P Z) by
            obtain ⟨val, zz, zm, z1, z2, s1, s2⟩ := H
            have rc := RC_wait (val := val) (nn := nn) h hk w2 w3 h6 rfl rfl
            exact Or.inr ⟨_, _, J, _, J, cl_wave_t (CA_of h hk) g1 g2 hw w2 h6 z1 s1, ml_wave_t (n := n) (MA_of h hk ((va_up_n _ _ (by omega)).trans ((va_up_n _ _ (by omega)).trans (va_up_n _ _ (by omega))))) g1 g2 hw (by rw [va_up_n _ _ (by omega), va_up_n _ _ (by omega)]; exact vzk w3 (by omega)) h6 z2 s2, rc.1, rc.2⟩
          obtain ⟨zz, z1, z2⟩ := dr_seq (g := g) p.toInt64
          rcases hw with ⟨e1, e2⟩ | ⟨e1, e2, e3, e4⟩
          · obtain ⟨q', rfl⟩ := nI_all q
            obtain rfl : kd = nI 0 := e1
            exact ⟨wvv 0 p 0 q', zz, fun _ => p, z1, rfl, ws_c hC hV g2 (by omega) (by omega) (fun i _ I => ct_waveAt_0) z2, ws_m0 hM g2⟩
          · rcases in_cases (lo := 0) (hi := 32767) (by omega) (by omega) q with ⟨q', -, q2, rfl⟩ | hq
            · rcases in_cases (lo := 0) (hi := 4) (by omega) (by omega) kd with ⟨kd, -, k2, rfl⟩ | hq
              · rcases e4 with ⟨e4, e5⟩ | ⟨e4, e5⟩
                · obtain rfl : kd = 2 := (nI_eq (by omega) (by omega)).mp e4
                  rcases in_cases (lo := 0) (hi := 2147483647) (by omega) (by omega) p with ⟨p', -, p2, rfl⟩ | hq
                  · exact ⟨wvv 2 (nI p') p' q', fun i => lN (sp_dz p' i), fun i => nI (sp_dz p' i), (nI_l (n := p') (by omega)).symm, rfl, ws_c2 hC hV (by omega) g2, ws_m2 hM (by omega) g2⟩
                  · exact absurd ⟨e5, i32_hi p⟩ hq
                · rcases in_cases (lo := 2) (hi := 640) (by omega) (by omega) p with ⟨p', p1, p2, rfl⟩ | hq
                  · have : kd = 1 ∨ kd = 3 ∨ kd = 4 := by
                      have a : kd ≠ 0 := fun e => e1 (by rw [e]; rfl)
                      have b : kd ≠ 2 := fun e => e4 (by rw [e])
                      omega
                    rcases this with rfl | rfl | rfl
                    · exact ⟨wvv 1 (nI p') p' q', zz, fun _ => nI p', z1, rfl, ws_c hC hV g2 (by omega) (by omega) (fun i hi I => ct_waveAt_1 p1 p2 q2 (by omega)) z2, ws_m1 hM g2 p1 p2 q2⟩
                    · exact ⟨wvv 3 (nI p') p' q', zz, fun _ => nI p', z1, rfl, ws_c hC hV g2 (by omega) (by omega) (fun i hi I => ct_waveAt_3 p1 p2 q2 (by omega)) z2, ws_m3 hM g2 p1 p2 q2⟩
                    · exact ⟨wvv 4 (nI p') p' q', zz, fun _ => nI p', z1, rfl, ws_c hC hV g2 (by omega) (by omega) (fun i hi I => ct_waveAt_4 p1 p2 q2 (by omega)) z2, ws_m4 hM g2 p1 p2 q2⟩
                  · exact absurd e5 hq
              · exact absurd e2 hq
            · exact absurd e3 hq
      · exact absurd hr.1 hn
    · exact Or.inl ⟨_, _, cl_wave_b (CA_of h hk) hr, fun I1 h1 => ml_wave_b (MA_of h hk (h1 _ (by omega))) hr⟩
  · exact Or.inl ⟨_, _, cl_wave_f hV hx4 hc, fun I1 h1 => ml_wave_f hM (by rw [h1 _ (by omega)]; exact hm0) hc⟩
/-- the house alone was touched -/
theorem RC_gl {B : mm_B} {I I' : mm_TI} {J J' : mm_TJ} {P : mm_TP} {x m n R K : Nat} {o : Nat → Nat} {fl φ : Nat → Nat → Nat} {ρ : Nat → Nat} (h : RC g B I J P x m n R K o fl φ ρ) (hg : RCg g B I' J' P x m n R ρ) (hz : I' x 9 = I' m 1) (hq : ∀ q, q < x ∨ x + 22 ≤ q → q < m ∨ (m + 5 ≤ q ∧ q < m + 53) ∨ m + 64 ≤ q → I' q = I q) (hj : ∀ q, q < x ∨ x + 22 ≤ q → q < m ∨ (m + 5 ≤ q ∧ q < m + 53) ∨ m + 64 ≤ q → J' q = J q) : RC g B I' J' P x m n R K o fl φ ρ := by
  obtain ⟨xm, mn⟩ := RC_xm h
  refine RC_go h n (fun _ _ => ⟨rfl, rfl⟩) (Nat.le_refl _) hg
    hz (Nat.le_refl _) (fun _ _ => rfl) (fun r hr => by rw [hq (m + 32) (by omega) (by omega)]) (fun d d1 d2 => ⟨d1, rfl, rfl, rfl⟩) h.2.2.1 (fun q ho => ?_) (fun _ _ _ => rfl) (fun d k j _ _ k1 k2 _ _ _ => by rw [hq (m + k) (by omega) (by omega)]) (fun d j _ _ _ _ => by rw [hj (m + 23) (by omega) (by omega), hj (m + 24) (by omega) (by omega)]; exact ⟨rfl, rfl⟩) (fun e => absurd e (by omega)) (fun q e => absurd e (by omega))
  have h1 : ¬ (x ≤ q ∧ q < x + 22) := fun e => ho (Or.inl e)
  have h2 : ¬ (m ≤ q ∧ q < m + 64) := fun e => ho (Or.inr (Or.inl e))
  exact ⟨hq q (by omega) (by omega), hj q (by omega) (by omega), rfl⟩
end WV3
