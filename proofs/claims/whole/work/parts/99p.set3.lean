/-! SETTERS: joint -/
section SV0
variable {g : mm_G} {c r s : Int32}
theorem jo_lo {I I2 : mm_TI} {x m q1 r p j : Nat} {v w z : Int32} (h1 : x ≤ q1) (h2 : x < m) : ∀ q, q < x → mo_st (va_up (va_up (vz I x) q1 (va_up (vz I x q1) j v)) (m + r) (va_up ((va_up (vz I x) q1 (va_up (vz I x q1) j v)) (m + r)) p w)) m z q = I q := fun q hq => by
  rw [show mo_st (va_up (va_up (vz I x) q1 (va_up (vz I x q1) j v)) (m + r) (va_up ((va_up (vz I x) q1 (va_up (vz I x q1) j v)) (m + r)) p w)) m z q = va_up (va_up (vz I x) q1 (va_up (vz I x q1) j v)) (m + r) (va_up ((va_up (vz I x) q1 (va_up (vz I x q1) j v)) (m + r)) p w) q from va_up_n _ _ (by omega), va_up_n _ _ (by omega), va_up_n _ _ (by omega), show vz I x q = I q from va_up_n _ _ (by omega)]
theorem up_at {I : mm_TI} {x q1 q j i : Nat} {v a : Int32} (h1 : q ≠ x) (h2 : q ≠ q1) (h : I q i = a) : va_up (vz I x) q1 (va_up (vz I x q1) j v) q i = a := by rw [va_up_n _ _ h2, show vz I x q = I q from va_up_n _ _ h1]; exact h
theorem jo_rate : JO g mX11_rate mX12_rate [.int c, .int r] := by
  refine jo_mk fun K x m B I J P n R o fl φ ρ hK hR h => ?_
  obtain ⟨hV, hM, -⟩ := RG_ly h
  obtain ⟨h8, hx4, hm0⟩ := RG_n h
  have xm := (RC_xm h).1
  rcases cd_cases h8 c with ⟨k, hk, rfl⟩ | hc
  · have mo := (RC_v h hk).1.2.1
    rcases in_cases (lo := 0) (hi := 1) (by omega) (by omega) r with ⟨r, -, r2, rfl⟩ | hc
    · obtain ⟨⟨rt, a1, a2, a3⟩, e2, e3, e4, e5, e6, e7, e8, e9, e10⟩ := RC_e h hk
      refine Or.inr ⟨_, _, J, _, J, cl_rate_t (CA_of h hk) r2 a2, ml_rate_t (n := n) ?_ r2 (up_at (by omega) (by omega) a3), RC_s4 h hk (by omega) (by omega) ⟨by show 1 * k ≤ k; omega, by show k < 1 * k + 1; omega⟩ rfl rfl (fun f4 f5 f6 f7 => ?_), jo_lo (I2 := I) (by omega) (by omega)⟩
      · exact MA_of h hk ((va_up_n _ _ (by omega)).trans (va_up_n _ _ (by omega)))
      · unfold VCe
        rw [f4, f5, f6, f7 6 (by omega) (by omega) (by omega), f7 7 (by omega) (by omega) (by omega), f7 8 (by omega) (by omega) (by omega), f7 9 (by omega) (by omega) (by omega), f7 10 (by omega) (by omega) (by omega), f7 13 (by omega) (by omega) (by omega), f7 14 (by omega) (by omega) (by omega), f7 19 (by omega) (by omega) (by omega)]
        simp (disch := omega) only [va_up_s, va_up_n]
        exact ⟨⟨r, r2, rfl, rfl⟩, e2, e3, e4, e5, e6, e7, e8, e9, e10⟩
    · exact Or.inl ⟨_, _, cl_rate_b (CA_of h hk) hc, fun I1 h1 => ml_rate_b (MA_of h hk (h1 _ (by omega))) hc⟩
  · exact Or.inl ⟨_, _, cl_rate_f hV hx4 hc, fun I1 h1 => ml_rate_f hM (by rw [h1 _ (by omega)]; exact hm0) hc⟩
theorem jo_emphasis {b : Nat} (hb : b ≤ 1) : JO g mX11_emphasis mX12_emphasis [.int c, .int (nI b)] := by
  refine jo_mk fun K x m B I J P n R o fl φ ρ hK hR h => ?_
  obtain ⟨hV, hM, -⟩ := RG_ly h
  obtain ⟨h8, hx4, hm0⟩ := RG_n h
  have xm := (RC_xm h).1
  rcases cd_cases h8 c with ⟨k, hk, rfl⟩ | hc
  · have mo := (RC_v h hk).1.2.1
    obtain ⟨e1, e2, e3, ⟨em, a1, a2, a3⟩, e5, e6, e7, e8, e9, e10⟩ := RC_e h hk
    refine Or.inr ⟨_, _, J, _, J, cl_emphasis_t (CA_of h hk) hb a1 a2, ml_emphasis_t (n := n) ?_ hb a1 (up_at (by omega) (by omega) a3), RC_s4 h hk (by omega) (by omega) ⟨by show 1 * k ≤ k; omega, by show k < 1 * k + 1; omega⟩ rfl rfl (fun f4 f5 f6 f7 => ?_), jo_lo (I2 := I) (by omega) (by omega)⟩
    · exact MA_of h hk ((va_up_n _ _ (by omega)).trans (va_up_n _ _ (by omega)))
    · unfold VCe
      rw [f4, f5, f6, f7 5 (by omega) (by omega) (by omega), f7 7 (by omega) (by omega) (by omega), f7 8 (by omega) (by omega) (by omega), f7 9 (by omega) (by omega) (by omega), f7 10 (by omega) (by omega) (by omega), f7 13 (by omega) (by omega) (by omega), f7 14 (by omega) (by omega) (by omega), f7 19 (by omega) (by omega) (by omega)]
      simp (disch := omega) only [va_up_s, va_up_n]
      exact ⟨e1, e2, e3, ⟨b, hb, rfl, rfl⟩, e5, e6, e7, e8, e9, e10⟩
  · exact Or.inl ⟨_, _, cl_emphasis_f hV hx4 hc, fun I1 h1 => ml_emphasis_f hM (by rw [h1 _ (by omega)]; exact hm0) hc⟩
theorem jo_redundancy {b : Nat} (hb : b ≤ 1) : JO g mX11_redundancy mX12_redundancy [.int c, .int (nI b)] := by
  refine jo_mk fun K x m B I J P n R o fl φ ρ hK hR h => ?_
  obtain ⟨hV, hM, -⟩ := RG_ly h
  obtain ⟨h8, hx4, hm0⟩ := RG_n h
  have xm := (RC_xm h).1
  rcases cd_cases h8 c with ⟨k, hk, rfl⟩ | hc
  · have mo := (RC_v h hk).1.2.1
    obtain ⟨e1, e2, e3, e4, ⟨em, a1, a2, a3⟩, e6, e7, e8, e9, e10⟩ := RC_e h hk
    refine Or.inr ⟨_, _, J, _, J, cl_redundancy_t (CA_of h hk) hb a1 a2, ml_redundancy_t (n := n) ?_ hb a1 (up_at (by omega) (by omega) a3), RC_s4 h hk (by omega) (by omega) ⟨by show 1 * k ≤ k; omega, by show k < 1 * k + 1; omega⟩ rfl rfl (fun f4 f5 f6 f7 => ?_), jo_lo (I2 := I) (by omega) (by omega)⟩
    · exact MA_of h hk ((va_up_n _ _ (by omega)).trans (va_up_n _ _ (by omega)))
    · unfold VCe
      rw [f4, f5, f6, f7 5 (by omega) (by omega) (by omega), f7 6 (by omega) (by omega) (by omega), f7 7 (by omega) (by omega) (by omega), f7 8 (by omega) (by omega) (by omega), f7 10 (by omega) (by omega) (by omega), f7 13 (by omega) (by omega) (by omega), f7 14 (by omega) (by omega) (by omega), f7 19 (by omega) (by omega) (by omega)]
      simp (disch := omega) only [va_up_s, va_up_n]
      exact ⟨e1, e2, e3, e4, ⟨b, hb, rfl, rfl⟩, e6, e7, e8, e9, e10⟩
  · exact Or.inl ⟨_, _, cl_redundancy_f hV hx4 hc, fun I1 h1 => ml_redundancy_f hM (by rw [h1 _ (by omega)]; exact hm0) hc⟩
theorem jo_silence : JO g mX11_silence mX12_silence [.int c, .int r] := by
  refine jo_mk fun K x m B I J P n R o fl φ ρ hK hR h => ?_
  obtain ⟨hV, hM, -⟩ := RG_ly h
  obtain ⟨h8, hx4, hm0⟩ := RG_n h
  have xm := (RC_xm h).1
  rcases cd_cases h8 c with ⟨k, hk, rfl⟩ | hc
  · have mo := (RC_v h hk).1.2.1
    rcases in_cases (lo := 0) (hi := 32769) (by omega) (by omega) r with ⟨r, -, r2, rfl⟩ | hc
    · obtain ⟨e1, e2, e3, e4, e5, ⟨lv, a1, a2, a3⟩, e7, e8, e9, e10⟩ := RC_e h hk
      refine Or.inr ⟨_, _, J, _, J, cl_silence_t (CA_of h hk) r2 a2, ml_silence_t (n := n) ?_ r2 (up_at (by omega) (by omega) a3), RC_s4 h hk (by omega) (by omega) ⟨by show 1 * k ≤ k; omega, by show k < 1 * k + 1; omega⟩ rfl rfl (fun f4 f5 f6 f7 => ?_), jo_lo (I2 := I) (by omega) (by omega)⟩
      · exact MA_of h hk ((va_up_n _ _ (by omega)).trans (va_up_n _ _ (by omega)))
      · unfold VCe
        rw [f4, f5, f6, f7 5 (by omega) (by omega) (by omega), f7 6 (by omega) (by omega) (by omega), f7 7 (by omega) (by omega) (by omega), f7 9 (by omega) (by omega) (by omega), f7 10 (by omega) (by omega) (by omega), f7 13 (by omega) (by omega) (by omega), f7 14 (by omega) (by omega) (by omega), f7 19 (by omega) (by omega) (by omega)]
        simp (disch := omega) only [va_up_s, va_up_n]
        exact ⟨e1, e2, e3, e4, e5, ⟨r, r2, rfl, rfl⟩, e7, e8, e9, e10⟩
    · exact Or.inl ⟨_, _, cl_silence_b (CA_of h hk) hc, fun I1 h1 => ml_silence_b (MA_of h hk (h1 _ (by omega))) hc⟩
  · exact Or.inl ⟨_, _, cl_silence_f hV hx4 hc, fun I1 h1 => ml_silence_f hM (by rw [h1 _ (by omega)]; exact hm0) hc⟩
theorem jo_search : JO g mX11_search mX12_search [.int c, .int r, .int s] := by
  refine jo_mk fun K x m B I J P n R o fl φ ρ hK hR h => ?_
  obtain ⟨hV, hM, -⟩ := RG_ly h
  obtain ⟨h8, hx4, hm0⟩ := RG_n h
  have xm := (RC_xm h).1
  rcases cd_cases h8 c with ⟨k, hk, rfl⟩ | hc
  · have mo := (RC_v h hk).1.2.1
    rcases in_cases (lo := 0) (hi := 1) (by omega) (by omega) r with ⟨r, -, r2, rfl⟩ | hc
    · rcases in_cases (lo := 0) (hi := 1) (by omega) (by omega) s with ⟨s, -, s2, rfl⟩ | hc
      · obtain ⟨e1, ⟨w1, a1, a2, a3⟩, ⟨w2, b1, b2, b3⟩, e4, e5, e6, e7, e8, e9, e10⟩ := RC_e h hk
        have : r = 0 ∨ r = 1 := by omega
        rcases this with rfl | rfl
        · refine Or.inr ⟨_, _, J, _, J, cl_search_t0 (CA_of h hk) s2 a2, ml_search_t (n := n) ?_ r2 s2 (up_at (by omega) (by omega) a3), RC_s4 h hk (by omega) (by omega) ⟨by show 2 * k ≤ _; omega, by show _ < 2 * k + 2; omega⟩ rfl rfl (fun f4 f5 f6 f7 => ?_), jo_lo (I2 := I) (by omega) (by omega)⟩
          · exact MA_of h hk ((va_up_n _ _ (by omega)).trans (va_up_n _ _ (by omega)))
          · unfold VCe
            rw [f4, f5, f6, f7 5 (by omega) (by omega) (by omega), f7 6 (by omega) (by omega) (by omega), f7 8 (by omega) (by omega) (by omega), f7 9 (by omega) (by omega) (by omega), f7 10 (by omega) (by omega) (by omega), f7 13 (by omega) (by omega) (by omega), f7 14 (by omega) (by omega) (by omega), f7 19 (by omega) (by omega) (by omega)]
            simp (disch := omega) only [va_up_s, va_up_n, Nat.add_zero]
            exact ⟨e1, ⟨s, s2, rfl, rfl⟩, ⟨w2, b1, b2, b3⟩, e4, e5, e6, e7, e8, e9, e10⟩
        · refine Or.inr ⟨_, _, J, _, J, cl_search_t1 (CA_of h hk) s2 b2, ml_search_t (n := n) ?_ r2 s2 (up_at (by omega) (by omega) b3), RC_s4 h hk (by omega) (by omega) ⟨by show 2 * k ≤ _; omega, by show _ < 2 * k + 2; omega⟩ rfl rfl (fun f4 f5 f6 f7 => ?_), jo_lo (I2 := I) (by omega) (by omega)⟩
          · exact MA_of h hk ((va_up_n _ _ (by omega)).trans (va_up_n _ _ (by omega)))
          · unfold VCe
            rw [f4, f5, f6, f7 5 (by omega) (by omega) (by omega), f7 6 (by omega) (by omega) (by omega), f7 8 (by omega) (by omega) (by omega), f7 9 (by omega) (by omega) (by omega), f7 10 (by omega) (by omega) (by omega), f7 13 (by omega) (by omega) (by omega), f7 14 (by omega) (by omega) (by omega), f7 19 (by omega) (by omega) (by omega)]
            simp (disch := omega) only [va_up_s, va_up_n]
            exact ⟨e1, ⟨w1, a1, a2, a3⟩, ⟨s, s2, rfl, rfl⟩, e4, e5, e6, e7, e8, e9, e10⟩
      · exact Or.inl ⟨_, _, cl_search_b2 (CA_of h hk) r2 hc, fun I1 h1 => ml_search_b2 (MA_of h hk (h1 _ (by omega))) r2 hc⟩
    · exact Or.inl ⟨_, _, cl_search_b (CA_of h hk) hc, fun I1 h1 => ml_search_b (MA_of h hk (h1 _ (by omega))) hc⟩
  · exact Or.inl ⟨_, _, cl_search_f hV hx4 hc, fun I1 h1 => ml_search_f hM (by rw [h1 _ (by omega)]; exact hm0) hc⟩
theorem jo_join : JO g mX11_join mX12_join [.int c, .int r] := by
  refine jo_mk fun K x m B I J P n R o fl φ ρ hK hR h => ?_
  obtain ⟨hV, hM, -⟩ := RG_ly h
  obtain ⟨h8, hx4, hm0⟩ := RG_n h
  have xm := (RC_xm h).1
  rcases cd_cases h8 c with ⟨k, hk, rfl⟩ | hc
  · have mo := (RC_v h hk).1.2.1
    rcases in_cases (lo := 1) (hi := 32767) (by omega) (by omega) r with ⟨r, r1, r2, rfl⟩ | hc
    · obtain ⟨e1, e2, e3, e4, ⟨bd, a1, a2, a3, a4⟩, e6, e7, e8, e9, e10, e11, e12⟩ := RC_d h hk
      refine Or.inr ⟨_, _, J, _, J, cl_join_t (CA_of h hk) r1 r2 a3, ml_join_t (n := n) ?_ r1 r2 (up_at (by omega) (by omega) a4), RC_s17 h hk (by omega) rfl rfl rfl (fun f4 f5 f6 f7 => ?_), jo_lo (I2 := I) (by omega) (by omega)⟩
      · exact MA_of h hk ((va_up_n _ _ (by omega)).trans (va_up_n _ _ (by omega)))
      · unfold VCd
        rw [f4, f5, f6, f7 34 (by omega) (by omega) (by omega), f7 35 (by omega) (by omega) (by omega), f7 36 (by omega) (by omega) (by omega), f7 37 (by omega) (by omega) (by omega), f7 38 (by omega) (by omega) (by omega), f7 39 (by omega) (by omega) (by omega), f7 40 (by omega) (by omega) (by omega), f7 41 (by omega) (by omega) (by omega), f7 42 (by omega) (by omega) (by omega), f7 43 (by omega) (by omega) (by omega), f7 44 (by omega) (by omega) (by omega), f7 45 (by omega) (by omega) (by omega), f7 47 (by omega) (by omega) (by omega)]
        simp (disch := omega) only [va_up_s, va_up_n]
        exact ⟨e1, e2, e3, e4, ⟨r, r1, r2, rfl, rfl⟩, e6, e7, e8, e9, e10, e11, e12⟩
    · exact Or.inl ⟨_, _, cl_join_b (CA_of h hk) hc, fun I1 h1 => ml_join_b (MA_of h hk (h1 _ (by omega))) hc⟩
  · exact Or.inl ⟨_, _, cl_join_f hV hx4 hc, fun I1 h1 => ml_join_f hM (by rw [h1 _ (by omega)]; exact hm0) hc⟩
theorem dr_cases (r : Int32) (h : -1 ≤ r ∧ r ≤ nI 1) : ∃ d, d ≤ 2 ∧ r = oD d := by
  have h1 := Int32.le_iff_toInt_le.mp h.1
  have h2 := Int32.le_iff_toInt_le.mp h.2
  rw [i32_m1] at h1
  rw [nI_toInt (by omega)] at h2
  have : r.toInt = -1 ∨ r.toInt = 0 ∨ r.toInt = 1 := by omega
  rcases this with e | e | e
  · have : r = -1 := Int32.toInt_inj.mp (by rw [e]; decide)
    subst this
    first | exact ⟨0, by omega, by decide⟩ | exact ⟨1, by omega, by decide⟩ | exact ⟨2, by omega, by decide⟩
  · have : r = 0 := Int32.toInt_inj.mp (by rw [e]; decide)
    subst this
    first | exact ⟨0, by omega, by decide⟩ | exact ⟨1, by omega, by decide⟩ | exact ⟨2, by omega, by decide⟩
  · have : r = 1 := Int32.toInt_inj.mp (by rw [e]; decide)
    subst this
    first | exact ⟨0, by omega, by decide⟩ | exact ⟨1, by omega, by decide⟩ | exact ⟨2, by omega, by decide⟩
theorem jo_drift : JO g mX11_drift mX12_drift [.int c, .int r] := by
  refine jo_mk fun K x m B I J P n R o fl φ ρ hK hR h => ?_
  obtain ⟨hV, hM, -⟩ := RG_ly h
  obtain ⟨h8, hx4, hm0⟩ := RG_n h
  have xm := (RC_xm h).1
  rcases cd_cases h8 c with ⟨k, hk, rfl⟩ | hc
  · have mo := (RC_v h hk).1.2.1
    by_cases hr : -1 ≤ r ∧ r ≤ nI 1
    · obtain ⟨dd, d1, d2⟩ := dr_cases r hr
      obtain ⟨e1, e2, e3, e4, e5, ⟨dr, a1, a2, a3⟩, e7, e8, e9, e10, e11, e12⟩ := RC_d h hk
      refine Or.inr ⟨_, _, J, _, J, cl_drift_t (CA_of h hk) hr a2, ml_drift_t (n := n) ?_ hr (up_at (by omega) (by omega) a3), RC_s17 h hk (by omega) rfl rfl rfl (fun f4 f5 f6 f7 => ?_), jo_lo (I2 := I) (by omega) (by omega)⟩
      · exact MA_of h hk ((va_up_n _ _ (by omega)).trans (va_up_n _ _ (by omega)))
      · unfold VCd
        rw [f4, f5, f6, f7 34 (by omega) (by omega) (by omega), f7 35 (by omega) (by omega) (by omega), f7 36 (by omega) (by omega) (by omega), f7 37 (by omega) (by omega) (by omega), f7 38 (by omega) (by omega) (by omega), f7 39 (by omega) (by omega) (by omega), f7 40 (by omega) (by omega) (by omega), f7 41 (by omega) (by omega) (by omega), f7 42 (by omega) (by omega) (by omega), f7 43 (by omega) (by omega) (by omega), f7 44 (by omega) (by omega) (by omega), f7 45 (by omega) (by omega) (by omega), f7 46 (by omega) (by omega) (by omega)]
        simp (disch := omega) only [va_up_s, va_up_n]
        exact ⟨e1, e2, e3, e4, e5, ⟨dd, d1, d2, d2⟩, e7, e8, e9, e10, e11, e12⟩
    · exact Or.inl ⟨_, _, cl_drift_b (CA_of h hk) hr, fun I1 h1 => ml_drift_b (MA_of h hk (h1 _ (by omega))) hr⟩
  · exact Or.inl ⟨_, _, cl_drift_f hV hx4 hc, fun I1 h1 => ml_drift_f hM (by rw [h1 _ (by omega)]; exact hm0) hc⟩
end SV0
section SW0
variable {g : mm_G} {B : mm_B} {I : mm_TI} {J : mm_TJ} {P : mm_TP} {x m o n k : Nat}
theorem cl_start_f {c r : Int32} (hV : lyV B P x) (hx : I x 4 = nI n) (hc : ¬ (0 ≤ c ∧ c < nI n)) : Ct g mX11_start [.ref x, .int c, .int r] B I J P (some (.int (-1)), B, vst I x (-1), J, P) := by
  refine ct_of (lv := [some (.ref x), some (.int (c)), some (.int (r)), none]) (by decide +kernel) (Nat.le_of_ble_eq_true rfl) rfl ?_
  refine ev_aload_n 1 dX11_start_0 rfl rfl ?_
  refine ev_iconstN 2 0 dX11_start_1 rfl ?_
  refine ev_putI 5 mm_cl11 (j := 9) (Nat.le_of_ble_eq_true rfl) dX11_start_2 lk270 rfl (fun _ _ _ => rfl) rfl rfl (hV.1 0 _ rfl) rfl ?_
  refine ev_aload_n 6 dX11_start_5 rfl rfl ?_
  refine ev_iload_n 7 dX11_start_6 rfl rfl ?_
  refine ev_invV 10 (Mc := mX11_coderAt) ⟨lk570, lk75, hdX11_coderAt, (Nat.le_of_ble_eq_true rfl), (Nat.le_of_ble_eq_true rfl)⟩ lk567 lk569 lk1 mm_cl11 rfl dX11_start_7 (ca_f hV hx hc) rfl (hV.1 0 _ rfl) (Nat.le_of_ble_eq_true rfl) rfl rfl ?_
  refine ev_astore_nN 11 (lv' := [_, _, some (.int _), _]) dX11_start_10 (Nat.le_of_ble_eq_true rfl) rfl rfl ?_
  refine ev_aload_nN 12 dX11_start_11 rfl rfl ?_
  refine ev_ifnull_n 22 dX11_start_12 (by decide) ?_
  refine ev_aload_n 23 dX11_start_22 rfl rfl ?_
  refine ev_iconst 24 (v := -1) dX11_start_23 (by decide +kernel) rfl ?_
  refine ev_invV 27 (Mc := mX11_refuse) ⟨lk303, lk75, hdX11_refuse, (Nat.le_of_ble_eq_true rfl), (Nat.le_of_ble_eq_true rfl)⟩ lk300 lk302 lk0 mm_cl11 rfl dX11_start_24 (ct_refuse hV) rfl (hV.1 0 _ rfl) (Nat.le_of_ble_eq_true rfl) rfl rfl ?_
  exact ev_iret dX11_start_27 rfl (rfl)
theorem cl_start_b {r : Int32} (h : CA B I P x o n k) (hr : ¬ (nI 0 ≤ r ∧ r ≤ nI 65535)) : Ct g mX11_start [.ref x, .int (nI k), .int r] B I J P (some (.int (-1)), B, vst I x (-1), J, P) := by
  have ca := ca_t (g := g) (J := J) h
  obtain ⟨hV, hC, hxo, hx, h8, hk, hP⟩ := h
  refine ct_of (lv := [some (.ref x), some (.int (nI (k))), some (.int (r)), none]) (by decide +kernel) (Nat.le_of_ble_eq_true rfl) rfl ?_
  refine ev_aload_n 1 dX11_start_0 rfl rfl ?_
  refine ev_iconstN 2 0 dX11_start_1 rfl ?_
  refine ev_putI 5 mm_cl11 (j := 9) (Nat.le_of_ble_eq_true rfl) dX11_start_2 lk270 rfl (fun _ _ _ => rfl) rfl rfl (hV.1 0 _ rfl) rfl ?_
  refine ev_aload_n 6 dX11_start_5 rfl rfl ?_
  refine ev_iload_n 7 dX11_start_6 rfl rfl ?_
  refine ev_invV 10 (Mc := mX11_coderAt) ⟨lk570, lk75, hdX11_coderAt, (Nat.le_of_ble_eq_true rfl), (Nat.le_of_ble_eq_true rfl)⟩ lk567 lk569 lk1 mm_cl11 rfl dX11_start_7 (ca) rfl (hV.1 0 _ rfl) (Nat.le_of_ble_eq_true rfl) rfl rfl ?_
  refine ev_astore_n 11 (lv' := [_, _, some (.int _), _]) dX11_start_10 (Nat.le_of_ble_eq_true rfl) rfl rfl ?_
  refine ev_aload_n 12 dX11_start_11 rfl rfl ?_
  refine ev_ifnull_r 15 dX11_start_12 rfl ?_
  refine ev_iload_n 16 dX11_start_15 rfl rfl ?_
  refine ev_invS 19 (Mc := mX11_isLabel) ⟨lk597, lk75, hdX11_isLabel, (Nat.le_of_ble_eq_true rfl), (Nat.le_of_ble_eq_true rfl)⟩ lk595 lk596 dX11_start_16 (ct_isLabel_f hr) rfl (Nat.le_of_ble_eq_true rfl) rfl rfl ?_
  refine ev_if_neN 22 28 dX11_start_19 (by decide) (by omega) rfl (fun hx => absurd ((by omega)) hx) (fun hbr => ?_)
  refine ev_aload_n 23 dX11_start_22 rfl rfl ?_
  refine ev_iconst 24 (v := -1) dX11_start_23 (by decide +kernel) rfl ?_
  refine ev_invV 27 (Mc := mX11_refuse) ⟨lk303, lk75, hdX11_refuse, (Nat.le_of_ble_eq_true rfl), (Nat.le_of_ble_eq_true rfl)⟩ lk300 lk302 lk0 mm_cl11 rfl dX11_start_24 (ct_refuse hV) rfl (hV.1 0 _ rfl) (Nat.le_of_ble_eq_true rfl) rfl rfl ?_
  exact ev_iret dX11_start_27 rfl (rfl)
theorem cl_start_s {r L de : Nat} {en : Int32} (h : CA B I P x o n k) (hr : r ≤ 65535) (h1 : I (o + 4) 17 = en) (h2 : I (o + 17) 15 = nI de) (hd : de < 2 ^ 31) (h3 : I (o + 2) 1 = nI L) (hL : L ≤ 250) (hh : 0 < en ∨ 0 < de ∨ 0 < L) : Ct g mX11_start [.ref x, .int (nI k), .int (nI r)] B I J P (some (.int (-2)), B, vst I x (-2), J, P) := by
  have ca := ca_t (g := g) (J := J) h
  obtain ⟨hV, hC, hxo, hx, h8, hk, hP⟩ := h
  by_cases a : 0 < en
  · refine ct_of (lv := [some (.ref x), some (.int (nI (k))), some (.int (nI (r))), none]) (by decide +kernel) (Nat.le_of_ble_eq_true rfl) rfl ?_
    refine ev_aload_n 1 dX11_start_0 rfl rfl ?_
    refine ev_iconstN 2 0 dX11_start_1 rfl ?_
    refine ev_putI 5 mm_cl11 (j := 9) (Nat.le_of_ble_eq_true rfl) dX11_start_2 lk270 rfl (fun _ _ _ => rfl) rfl rfl (hV.1 0 _ rfl) rfl ?_
    refine ev_aload_n 6 dX11_start_5 rfl rfl ?_
    refine ev_iload_n 7 dX11_start_6 rfl rfl ?_
    refine ev_invV 10 (Mc := mX11_coderAt) ⟨lk570, lk75, hdX11_coderAt, (Nat.le_of_ble_eq_true rfl), (Nat.le_of_ble_eq_true rfl)⟩ lk567 lk569 lk1 mm_cl11 rfl dX11_start_7 (ca) rfl (hV.1 0 _ rfl) (Nat.le_of_ble_eq_true rfl) rfl rfl ?_
    refine ev_astore_n 11 (lv' := [_, _, some (.int _), _]) dX11_start_10 (Nat.le_of_ble_eq_true rfl) rfl rfl ?_
    refine ev_aload_n 12 dX11_start_11 rfl rfl ?_
    refine ev_ifnull_r 15 dX11_start_12 rfl ?_
    refine ev_iload_n 16 dX11_start_15 rfl rfl ?_
    refine ev_invS 19 (Mc := mX11_isLabel) ⟨lk597, lk75, hdX11_isLabel, (Nat.le_of_ble_eq_true rfl), (Nat.le_of_ble_eq_true rfl)⟩ lk595 lk596 dX11_start_16 (ct_isLabel_t hr) rfl (Nat.le_of_ble_eq_true rfl) rfl rfl ?_
    refine ev_if_neN 22 28 dX11_start_19 (by decide) (by omega) rfl (fun hbr => ?_) (fun hx => absurd hx ((by omega)))
    refine ev_aload_n 29 dX11_start_28 rfl rfl ?_
    refine ev_getP 32 mm_cl0 (j := 3) (Nat.le_of_ble_eq_true rfl) dX11_start_29 lk549 (fun _ _ _ => rfl) (hC.1 0 _ rfl) (a := (o + 4)) (hC.2.2.1 2 _ _ _ rfl) rfl ?_
    refine ev_getI 35 mm_cl2 (j := 17) (Nat.le_of_ble_eq_true rfl) dX11_start_32 lk397 (fun _ _ _ => rfl) (hC.1 4 _ rfl) rfl ?_
    refine ev_eqI (y := (en)) ((vzk h1 (by omega))) ?_
    refine ev_if_gt 38 58 dX11_start_35 (by decide) rfl (fun hbr => ?_) (fun hx => absurd (a) hx)
    refine ev_aload_n 59 dX11_start_58 rfl rfl ?_
    refine ev_bipush 61 (v := -2) dX11_start_59 (by decide +kernel) rfl ?_
    refine ev_invV 64 (Mc := mX11_refuse) ⟨lk303, lk75, hdX11_refuse, (Nat.le_of_ble_eq_true rfl), (Nat.le_of_ble_eq_true rfl)⟩ lk300 lk302 lk0 mm_cl11 rfl dX11_start_61 (ct_refuse hV) rfl (hV.1 0 _ rfl) (Nat.le_of_ble_eq_true rfl) rfl rfl ?_
    exact ev_iret dX11_start_64 rfl (rfl)
  · by_cases b : 0 < de
    · refine ct_of (lv := [some (.ref x), some (.int (nI (k))), some (.int (nI (r))), none]) (by decide +kernel) (Nat.le_of_ble_eq_true rfl) rfl ?_
      refine ev_aload_n 1 dX11_start_0 rfl rfl ?_
      refine ev_iconstN 2 0 dX11_start_1 rfl ?_
      refine ev_putI 5 mm_cl11 (j := 9) (Nat.le_of_ble_eq_true rfl) dX11_start_2 lk270 rfl (fun _ _ _ => rfl) rfl rfl (hV.1 0 _ rfl) rfl ?_
      refine ev_aload_n 6 dX11_start_5 rfl rfl ?_
      refine ev_iload_n 7 dX11_start_6 rfl rfl ?_
      refine ev_invV 10 (Mc := mX11_coderAt) ⟨lk570, lk75, hdX11_coderAt, (Nat.le_of_ble_eq_true rfl), (Nat.le_of_ble_eq_true rfl)⟩ lk567 lk569 lk1 mm_cl11 rfl dX11_start_7 (ca) rfl (hV.1 0 _ rfl) (Nat.le_of_ble_eq_true rfl) rfl rfl ?_
      refine ev_astore_n 11 (lv' := [_, _, some (.int _), _]) dX11_start_10 (Nat.le_of_ble_eq_true rfl) rfl rfl ?_
      refine ev_aload_n 12 dX11_start_11 rfl rfl ?_
      refine ev_ifnull_r 15 dX11_start_12 rfl ?_
      refine ev_iload_n 16 dX11_start_15 rfl rfl ?_
      refine ev_invS 19 (Mc := mX11_isLabel) ⟨lk597, lk75, hdX11_isLabel, (Nat.le_of_ble_eq_true rfl), (Nat.le_of_ble_eq_true rfl)⟩ lk595 lk596 dX11_start_16 (ct_isLabel_t hr) rfl (Nat.le_of_ble_eq_true rfl) rfl rfl ?_
      refine ev_if_neN 22 28 dX11_start_19 (by decide) (by omega) rfl (fun hbr => ?_) (fun hx => absurd hx ((by omega)))
      refine ev_aload_n 29 dX11_start_28 rfl rfl ?_
      refine ev_getP 32 mm_cl0 (j := 3) (Nat.le_of_ble_eq_true rfl) dX11_start_29 lk549 (fun _ _ _ => rfl) (hC.1 0 _ rfl) (a := (o + 4)) (hC.2.2.1 2 _ _ _ rfl) rfl ?_
      refine ev_getI 35 mm_cl2 (j := 17) (Nat.le_of_ble_eq_true rfl) dX11_start_32 lk397 (fun _ _ _ => rfl) (hC.1 4 _ rfl) rfl ?_
      refine ev_eqI (y := (en)) ((vzk h1 (by omega))) ?_
      refine ev_if_gt 38 58 dX11_start_35 (by decide) rfl (fun hx => absurd hx (a)) (fun hbr => ?_)
      refine ev_aload_n 39 dX11_start_38 rfl rfl ?_
      refine ev_getP 42 mm_cl0 (j := 4) (Nat.le_of_ble_eq_true rfl) dX11_start_39 lk551 (fun _ _ _ => rfl) (hC.1 0 _ rfl) (a := (o + 17)) (hC.2.2.1 3 _ _ _ rfl) rfl ?_
      refine ev_getI 45 mm_cl1 (j := 15) (Nat.le_of_ble_eq_true rfl) dX11_start_42 lk497 (fun _ _ _ => rfl) (hC.1 17 _ rfl) rfl ?_
      refine ev_eqI (y := nI (de)) ((vzk h2 (by omega))) ?_
      refine ev_if_gtN 48 58 dX11_start_45 (by decide) (by omega) rfl (fun hbr => ?_) (fun hx => absurd ((by omega)) hx)
      refine ev_aload_n 59 dX11_start_58 rfl rfl ?_
      refine ev_bipush 61 (v := -2) dX11_start_59 (by decide +kernel) rfl ?_
      refine ev_invV 64 (Mc := mX11_refuse) ⟨lk303, lk75, hdX11_refuse, (Nat.le_of_ble_eq_true rfl), (Nat.le_of_ble_eq_true rfl)⟩ lk300 lk302 lk0 mm_cl11 rfl dX11_start_61 (ct_refuse hV) rfl (hV.1 0 _ rfl) (Nat.le_of_ble_eq_true rfl) rfl rfl ?_
      exact ev_iret dX11_start_64 rfl (rfl)
    · have hl : 0 < L := by rcases hh with h | h | h <;> first | exact absurd h a | omega
      refine ct_of (lv := [some (.ref x), some (.int (nI (k))), some (.int (nI (r))), none]) (by decide +kernel) (Nat.le_of_ble_eq_true rfl) rfl ?_
      refine ev_aload_n 1 dX11_start_0 rfl rfl ?_
      refine ev_iconstN 2 0 dX11_start_1 rfl ?_
      refine ev_putI 5 mm_cl11 (j := 9) (Nat.le_of_ble_eq_true rfl) dX11_start_2 lk270 rfl (fun _ _ _ => rfl) rfl rfl (hV.1 0 _ rfl) rfl ?_
      refine ev_aload_n 6 dX11_start_5 rfl rfl ?_
      refine ev_iload_n 7 dX11_start_6 rfl rfl ?_
      refine ev_invV 10 (Mc := mX11_coderAt) ⟨lk570, lk75, hdX11_coderAt, (Nat.le_of_ble_eq_true rfl), (Nat.le_of_ble_eq_true rfl)⟩ lk567 lk569 lk1 mm_cl11 rfl dX11_start_7 (ca) rfl (hV.1 0 _ rfl) (Nat.le_of_ble_eq_true rfl) rfl rfl ?_
      refine ev_astore_n 11 (lv' := [_, _, some (.int _), _]) dX11_start_10 (Nat.le_of_ble_eq_true rfl) rfl rfl ?_
      refine ev_aload_n 12 dX11_start_11 rfl rfl ?_
      refine ev_ifnull_r 15 dX11_start_12 rfl ?_
      refine ev_iload_n 16 dX11_start_15 rfl rfl ?_
      refine ev_invS 19 (Mc := mX11_isLabel) ⟨lk597, lk75, hdX11_isLabel, (Nat.le_of_ble_eq_true rfl), (Nat.le_of_ble_eq_true rfl)⟩ lk595 lk596 dX11_start_16 (ct_isLabel_t hr) rfl (Nat.le_of_ble_eq_true rfl) rfl rfl ?_
      refine ev_if_neN 22 28 dX11_start_19 (by decide) (by omega) rfl (fun hbr => ?_) (fun hx => absurd hx ((by omega)))
      refine ev_aload_n 29 dX11_start_28 rfl rfl ?_
      refine ev_getP 32 mm_cl0 (j := 3) (Nat.le_of_ble_eq_true rfl) dX11_start_29 lk549 (fun _ _ _ => rfl) (hC.1 0 _ rfl) (a := (o + 4)) (hC.2.2.1 2 _ _ _ rfl) rfl ?_
      refine ev_getI 35 mm_cl2 (j := 17) (Nat.le_of_ble_eq_true rfl) dX11_start_32 lk397 (fun _ _ _ => rfl) (hC.1 4 _ rfl) rfl ?_
      refine ev_eqI (y := (en)) ((vzk h1 (by omega))) ?_
      refine ev_if_gt 38 58 dX11_start_35 (by decide) rfl (fun hx => absurd hx (a)) (fun hbr => ?_)
      refine ev_aload_n 39 dX11_start_38 rfl rfl ?_
      refine ev_getP 42 mm_cl0 (j := 4) (Nat.le_of_ble_eq_true rfl) dX11_start_39 lk551 (fun _ _ _ => rfl) (hC.1 0 _ rfl) (a := (o + 17)) (hC.2.2.1 3 _ _ _ rfl) rfl ?_
      refine ev_getI 45 mm_cl1 (j := 15) (Nat.le_of_ble_eq_true rfl) dX11_start_42 lk497 (fun _ _ _ => rfl) (hC.1 17 _ rfl) rfl ?_
      refine ev_eqI (y := nI (de)) ((vzk h2 (by omega))) ?_
      refine ev_if_gtN 48 58 dX11_start_45 (by decide) (by omega) rfl (fun hx => absurd hx ((by omega))) (fun hbr => ?_)
      refine ev_aload_n 49 dX11_start_48 rfl rfl ?_
      refine ev_getP 52 mm_cl0 (j := 2) (Nat.le_of_ble_eq_true rfl) dX11_start_49 lk547 (fun _ _ _ => rfl) (hC.1 0 _ rfl) (a := (o + 2)) (hC.2.2.1 1 _ _ _ rfl) rfl ?_
      refine ev_getI 55 mm_cl5 (j := 1) (Nat.le_of_ble_eq_true rfl) dX11_start_52 lk320 (fun _ _ _ => rfl) (hC.1 2 _ rfl) rfl ?_
      refine ev_eqI (y := nI (L)) ((vzk h3 (by omega))) ?_
      refine ev_if_leN 58 65 dX11_start_55 (by decide) (by omega) rfl (fun hx => absurd hx ((by omega))) (fun hbr => ?_)
      refine ev_aload_n 59 dX11_start_58 rfl rfl ?_
      refine ev_bipush 61 (v := -2) dX11_start_59 (by decide +kernel) rfl ?_
      refine ev_invV 64 (Mc := mX11_refuse) ⟨lk303, lk75, hdX11_refuse, (Nat.le_of_ble_eq_true rfl), (Nat.le_of_ble_eq_true rfl)⟩ lk300 lk302 lk0 mm_cl11 rfl dX11_start_61 (ct_refuse hV) rfl (hV.1 0 _ rfl) (Nat.le_of_ble_eq_true rfl) rfl rfl ?_
      exact ev_iret dX11_start_64 rfl (rfl)
theorem cl_start_t {r : Nat} {en : Int32} (h : CA B I P x o n k) (hr : r ≤ 65535) (h1 : I (o + 4) 17 = en) (h2 : I (o + 17) 15 = nI 0) (h3 : I (o + 2) 1 = nI 0) (hh : ¬ 0 < en) : Ct g mX11_start [.ref x, .int (nI k), .int (nI r)] B I J P (some (.int (nI 1)), B, va_up (va_up (vz I x) (o + 4) (va_up (I (o + 4)) 16 (nI r))) (o + 17) (va_up (I (o + 17)) 9 (nI r)), J, P) := by
  have ca := ca_t (g := g) (J := J) h
  obtain ⟨hV, hC, hxo, hx, h8, hk, hP⟩ := h
  have e1 : vz I x (o + 4) = I (o + 4) := va_up_n _ _ (by omega)
  have e2 : va_up (vz I x) (o + 4) (va_up (vz I x (o + 4)) 16 (nI r)) (o + 17) = I (o + 17) := by rw [va_up_n _ _ (by omega)]; exact va_up_n _ _ (by omega)
  refine ct_of (lv := [some (.ref x), some (.int (nI (k))), some (.int (nI (r))), none]) (by decide +kernel) (Nat.le_of_ble_eq_true rfl) rfl ?_
  refine ev_aload_n 1 dX11_start_0 rfl rfl ?_
  refine ev_iconstN 2 0 dX11_start_1 rfl ?_
  refine ev_putI 5 mm_cl11 (j := 9) (Nat.le_of_ble_eq_true rfl) dX11_start_2 lk270 rfl (fun _ _ _ => rfl) rfl rfl (hV.1 0 _ rfl) rfl ?_
  refine ev_aload_n 6 dX11_start_5 rfl rfl ?_
  refine ev_iload_n 7 dX11_start_6 rfl rfl ?_
  refine ev_invV 10 (Mc := mX11_coderAt) ⟨lk570, lk75, hdX11_coderAt, (Nat.le_of_ble_eq_true rfl), (Nat.le_of_ble_eq_true rfl)⟩ lk567 lk569 lk1 mm_cl11 rfl dX11_start_7 (ca) rfl (hV.1 0 _ rfl) (Nat.le_of_ble_eq_true rfl) rfl rfl ?_
  refine ev_astore_n 11 (lv' := [_, _, some (.int _), _]) dX11_start_10 (Nat.le_of_ble_eq_true rfl) rfl rfl ?_
  refine ev_aload_n 12 dX11_start_11 rfl rfl ?_
  refine ev_ifnull_r 15 dX11_start_12 rfl ?_
  refine ev_iload_n 16 dX11_start_15 rfl rfl ?_
  refine ev_invS 19 (Mc := mX11_isLabel) ⟨lk597, lk75, hdX11_isLabel, (Nat.le_of_ble_eq_true rfl), (Nat.le_of_ble_eq_true rfl)⟩ lk595 lk596 dX11_start_16 (ct_isLabel_t hr) rfl (Nat.le_of_ble_eq_true rfl) rfl rfl ?_
  refine ev_if_neN 22 28 dX11_start_19 (by decide) (by omega) rfl (fun hbr => ?_) (fun hx => absurd hx ((by omega)))
  refine ev_aload_n 29 dX11_start_28 rfl rfl ?_
  refine ev_getP 32 mm_cl0 (j := 3) (Nat.le_of_ble_eq_true rfl) dX11_start_29 lk549 (fun _ _ _ => rfl) (hC.1 0 _ rfl) (a := (o + 4)) (hC.2.2.1 2 _ _ _ rfl) rfl ?_
  refine ev_getI 35 mm_cl2 (j := 17) (Nat.le_of_ble_eq_true rfl) dX11_start_32 lk397 (fun _ _ _ => rfl) (hC.1 4 _ rfl) rfl ?_
  refine ev_eqI (y := (en)) ((vzk h1 (by omega))) ?_
  refine ev_if_gt 38 58 dX11_start_35 (by decide) rfl (fun hx => absurd hx (hh)) (fun hbr => ?_)
  refine ev_aload_n 39 dX11_start_38 rfl rfl ?_
  refine ev_getP 42 mm_cl0 (j := 4) (Nat.le_of_ble_eq_true rfl) dX11_start_39 lk551 (fun _ _ _ => rfl) (hC.1 0 _ rfl) (a := (o + 17)) (hC.2.2.1 3 _ _ _ rfl) rfl ?_
  refine ev_getI 45 mm_cl1 (j := 15) (Nat.le_of_ble_eq_true rfl) dX11_start_42 lk497 (fun _ _ _ => rfl) (hC.1 17 _ rfl) rfl ?_
  refine ev_eqI (y := nI (0)) ((vzk h2 (by omega))) ?_
  refine ev_if_gtN 48 58 dX11_start_45 (by decide) (by omega) rfl (fun hx => absurd hx ((by omega))) (fun hbr => ?_)
  refine ev_aload_n 49 dX11_start_48 rfl rfl ?_
  refine ev_getP 52 mm_cl0 (j := 2) (Nat.le_of_ble_eq_true rfl) dX11_start_49 lk547 (fun _ _ _ => rfl) (hC.1 0 _ rfl) (a := (o + 2)) (hC.2.2.1 1 _ _ _ rfl) rfl ?_
  refine ev_getI 55 mm_cl5 (j := 1) (Nat.le_of_ble_eq_true rfl) dX11_start_52 lk320 (fun _ _ _ => rfl) (hC.1 2 _ rfl) rfl ?_
  refine ev_eqI (y := nI (0)) ((vzk h3 (by omega))) ?_
  refine ev_if_leN 58 65 dX11_start_55 (by decide) (by omega) rfl (fun hbr => ?_) (fun hx => absurd ((by omega)) hx)
  refine ev_aload_n 66 dX11_start_65 rfl rfl ?_
  refine ev_getP 69 mm_cl0 (j := 3) (Nat.le_of_ble_eq_true rfl) dX11_start_66 lk549 (fun _ _ _ => rfl) (hC.1 0 _ rfl) (a := (o + 4)) (hC.2.2.1 2 _ _ _ rfl) rfl ?_
  refine ev_iload_n 70 dX11_start_69 rfl rfl ?_
  refine ev_putI 73 mm_cl2 (j := 16) (Nat.le_of_ble_eq_true rfl) dX11_start_70 lk395 rfl (fun _ _ _ => rfl) rfl rfl (hC.1 4 _ rfl) rfl ?_
  refine ev_aload_n 74 dX11_start_73 rfl rfl ?_
  refine ev_getP 77 mm_cl0 (j := 4) (Nat.le_of_ble_eq_true rfl) dX11_start_74 lk551 (fun _ _ _ => rfl) (hC.1 0 _ rfl) (a := (o + 17)) (hC.2.2.1 3 _ _ _ rfl) rfl ?_
  refine ev_iload_n 78 dX11_start_77 rfl rfl ?_
  refine ev_putI 81 mm_cl1 (j := 9) (Nat.le_of_ble_eq_true rfl) dX11_start_78 lk486 rfl (fun _ _ _ => rfl) rfl rfl (hC.1 17 _ rfl) rfl ?_
  refine ev_iconstN 82 1 dX11_start_81 rfl ?_
  rw [e2, e1]
  exact ev_iret dX11_start_82 rfl (rfl)
theorem ml_start_f {c r : Int32} (hM : lyM B P m) (hn : I m 0 = nI n) (hc : ¬ (0 ≤ c ∧ c < nI n)) : Ct g mX12_start [.ref m, .int c, .int r] B I J P (some (.int (-1)), B, mo_st I m (-1), J, P) := by
  refine ct_of (lv := [some (.ref m), some (.int (c)), some (.int (r))]) (by decide +kernel) (Nat.le_of_ble_eq_true rfl) rfl ?_
  refine ev_aload_n 1 dX12_start_0 rfl rfl ?_
  refine ev_iload_n 2 dX12_start_1 rfl rfl ?_
  refine ev_invV 5 (Mc := mX12_isCoder) ⟨lk1552, lk80, hdX12_isCoder, (Nat.le_of_ble_eq_true rfl), (Nat.le_of_ble_eq_true rfl)⟩ lk1549 lk1551 lk40 mm_cl12 rfl dX12_start_2 (ct_X12_isCoder_f hM (by rw [hn]; exact hc)) rfl (hM.1 0 _ rfl) (Nat.le_of_ble_eq_true rfl) rfl rfl ?_
  refine ev_if_eqN 8 18 dX12_start_5 (by decide) (by omega) rfl (fun hbr => ?_) (fun hx => absurd ((by omega)) hx)
  refine ev_aload_n 19 dX12_start_18 rfl rfl ?_
  refine ev_iconst 20 (v := -1) dX12_start_19 (by decide +kernel) rfl ?_
  refine ev_invV 23 (Mc := mX12_refused) ⟨lk1540, lk80, hdX12_refused, (Nat.le_of_ble_eq_true rfl), (Nat.le_of_ble_eq_true rfl)⟩ lk1537 lk1539 lk38 mm_cl12 rfl dX12_start_20 (ct_X12_refused hM) rfl (hM.1 0 _ rfl) (Nat.le_of_ble_eq_true rfl) rfl rfl ?_
  exact ev_iret dX12_start_23 rfl (rfl)
theorem ml_start_b {r : Int32} (h : MA B I P m n k) (hr : ¬ (nI 0 ≤ r ∧ r ≤ nI 65535)) : Ct g mX12_start [.ref m, .int (nI k), .int r] B I J P (some (.int (-1)), B, mo_st I m (-1), J, P) := by
  obtain ⟨hM, hn, h8, hk⟩ := h
  refine ct_of (lv := [some (.ref m), some (.int (nI (k))), some (.int (r))]) (by decide +kernel) (Nat.le_of_ble_eq_true rfl) rfl ?_
  refine ev_aload_n 1 dX12_start_0 rfl rfl ?_
  refine ev_iload_n 2 dX12_start_1 rfl rfl ?_
  refine ev_invV 5 (Mc := mX12_isCoder) ⟨lk1552, lk80, hdX12_isCoder, (Nat.le_of_ble_eq_true rfl), (Nat.le_of_ble_eq_true rfl)⟩ lk1549 lk1551 lk40 mm_cl12 rfl dX12_start_2 (ct_X12_isCoder_t hM hn h8 hk) rfl (hM.1 0 _ rfl) (Nat.le_of_ble_eq_true rfl) rfl rfl ?_
  refine ev_if_eqN 8 18 dX12_start_5 (by decide) (by omega) rfl (fun hx => absurd hx ((by omega))) (fun hbr => ?_)
  refine ev_iload_n 9 dX12_start_8 rfl rfl ?_
  refine ev_iconstN 10 0 dX12_start_9 rfl ?_
  refine ev_ldc 12 dX12_start_10 lk1574 rfl ?_
  refine ev_eqI (y := nI 65535) (by decide +kernel) ?_
  refine ev_invS 15 (Mc := mX12_in) ⟨lk1536, lk80, hdX12_in, (Nat.le_of_ble_eq_true rfl), (Nat.le_of_ble_eq_true rfl)⟩ lk1534 lk1535 dX12_start_12 (ct_X12_in_f hr) rfl (Nat.le_of_ble_eq_true rfl) rfl rfl ?_
  refine ev_if_neN 18 24 dX12_start_15 (by decide) (by omega) rfl (fun hx => absurd ((by omega)) hx) (fun hbr => ?_)
  refine ev_aload_n 19 dX12_start_18 rfl rfl ?_
  refine ev_iconst 20 (v := -1) dX12_start_19 (by decide +kernel) rfl ?_
  refine ev_invV 23 (Mc := mX12_refused) ⟨lk1540, lk80, hdX12_refused, (Nat.le_of_ble_eq_true rfl), (Nat.le_of_ble_eq_true rfl)⟩ lk1537 lk1539 lk38 mm_cl12 rfl dX12_start_20 (ct_X12_refused hM) rfl (hM.1 0 _ rfl) (Nat.le_of_ble_eq_true rfl) rfl rfl ?_
  exact ev_iret dX12_start_23 rfl (rfl)
theorem ml_start_s {r L de : Nat} {en : Int32} (h : MA B I P m n k) (hr : r ≤ 65535) (h1 : I (m + 14) k = en) (h2 : I (m + 38) k = nI de) (hd : de < 2 ^ 31) (h3 : I (m + 28) k = nI L) (hL : L ≤ 250) (hh : 0 < en ∨ 0 < de ∨ 0 < L) : Ct g mX12_start [.ref m, .int (nI k), .int (nI r)] B I J P (some (.int (-2)), B, mo_st I m (-2), J, P) := by
  obtain ⟨hM, hn, h8, hk⟩ := h
  by_cases a : 0 < en
  · refine ct_of (lv := [some (.ref m), some (.int (nI (k))), some (.int (nI (r)))]) (by decide +kernel) (Nat.le_of_ble_eq_true rfl) rfl ?_
    refine ev_aload_n 1 dX12_start_0 rfl rfl ?_
    refine ev_iload_n 2 dX12_start_1 rfl rfl ?_
    refine ev_invV 5 (Mc := mX12_isCoder) ⟨lk1552, lk80, hdX12_isCoder, (Nat.le_of_ble_eq_true rfl), (Nat.le_of_ble_eq_true rfl)⟩ lk1549 lk1551 lk40 mm_cl12 rfl dX12_start_2 (ct_X12_isCoder_t hM hn h8 hk) rfl (hM.1 0 _ rfl) (Nat.le_of_ble_eq_true rfl) rfl rfl ?_
    refine ev_if_eqN 8 18 dX12_start_5 (by decide) (by omega) rfl (fun hx => absurd hx ((by omega))) (fun hbr => ?_)
    refine ev_iload_n 9 dX12_start_8 rfl rfl ?_
    refine ev_iconstN 10 0 dX12_start_9 rfl ?_
    refine ev_ldc 12 dX12_start_10 lk1574 rfl ?_
    refine ev_eqI (y := nI 65535) (by decide +kernel) ?_
    refine ev_invS 15 (Mc := mX12_in) ⟨lk1536, lk80, hdX12_in, (Nat.le_of_ble_eq_true rfl), (Nat.le_of_ble_eq_true rfl)⟩ lk1534 lk1535 dX12_start_12 (ct_X12_in_t (in_t (by omega) hr (by omega))) rfl (Nat.le_of_ble_eq_true rfl) rfl rfl ?_
    refine ev_if_neN 18 24 dX12_start_15 (by decide) (by omega) rfl (fun hbr => ?_) (fun hx => absurd hx ((by omega)))
    refine ev_aload_n 25 dX12_start_24 rfl rfl ?_
    refine ev_getP 28 mm_cl12 (j := 19) (Nat.le_of_ble_eq_true rfl) dX12_start_25 lk1304 (fun _ _ _ => rfl) (hM.1 0 _ rfl) (a := (m + 14)) (hM.2.2 13 _ _ _ rfl) rfl ?_
    refine ev_iload_n 29 dX12_start_28 rfl rfl ?_
    refine ev_iald 30 _ dX12_start_29 (hM.1 14 _ rfl) rfl (by have hNN := hM.2.1 14 _ rfl; omega) rfl ?_
    refine ev_eqI (y := (en)) (h1) ?_
    refine ev_if_gt 33 51 dX12_start_30 (by decide) rfl (fun hbr => ?_) (fun hx => absurd (a) hx)
    refine ev_aload_n 52 dX12_start_51 rfl rfl ?_
    refine ev_bipush 54 (v := -2) dX12_start_52 (by decide +kernel) rfl ?_
    refine ev_invV 57 (Mc := mX12_refused) ⟨lk1540, lk80, hdX12_refused, (Nat.le_of_ble_eq_true rfl), (Nat.le_of_ble_eq_true rfl)⟩ lk1537 lk1539 lk38 mm_cl12 rfl dX12_start_54 (ct_X12_refused hM) rfl (hM.1 0 _ rfl) (Nat.le_of_ble_eq_true rfl) rfl rfl ?_
    exact ev_iret dX12_start_57 rfl (rfl)
  · by_cases b : 0 < de
    · refine ct_of (lv := [some (.ref m), some (.int (nI (k))), some (.int (nI (r)))]) (by decide +kernel) (Nat.le_of_ble_eq_true rfl) rfl ?_
      refine ev_aload_n 1 dX12_start_0 rfl rfl ?_
      refine ev_iload_n 2 dX12_start_1 rfl rfl ?_
      refine ev_invV 5 (Mc := mX12_isCoder) ⟨lk1552, lk80, hdX12_isCoder, (Nat.le_of_ble_eq_true rfl), (Nat.le_of_ble_eq_true rfl)⟩ lk1549 lk1551 lk40 mm_cl12 rfl dX12_start_2 (ct_X12_isCoder_t hM hn h8 hk) rfl (hM.1 0 _ rfl) (Nat.le_of_ble_eq_true rfl) rfl rfl ?_
      refine ev_if_eqN 8 18 dX12_start_5 (by decide) (by omega) rfl (fun hx => absurd hx ((by omega))) (fun hbr => ?_)
      refine ev_iload_n 9 dX12_start_8 rfl rfl ?_
      refine ev_iconstN 10 0 dX12_start_9 rfl ?_
      refine ev_ldc 12 dX12_start_10 lk1574 rfl ?_
      refine ev_eqI (y := nI 65535) (by decide +kernel) ?_
      refine ev_invS 15 (Mc := mX12_in) ⟨lk1536, lk80, hdX12_in, (Nat.le_of_ble_eq_true rfl), (Nat.le_of_ble_eq_true rfl)⟩ lk1534 lk1535 dX12_start_12 (ct_X12_in_t (in_t (by omega) hr (by omega))) rfl (Nat.le_of_ble_eq_true rfl) rfl rfl ?_
      refine ev_if_neN 18 24 dX12_start_15 (by decide) (by omega) rfl (fun hbr => ?_) (fun hx => absurd hx ((by omega)))
      refine ev_aload_n 25 dX12_start_24 rfl rfl ?_
      refine ev_getP 28 mm_cl12 (j := 19) (Nat.le_of_ble_eq_true rfl) dX12_start_25 lk1304 (fun _ _ _ => rfl) (hM.1 0 _ rfl) (a := (m + 14)) (hM.2.2 13 _ _ _ rfl) rfl ?_
      refine ev_iload_n 29 dX12_start_28 rfl rfl ?_
      refine ev_iald 30 _ dX12_start_29 (hM.1 14 _ rfl) rfl (by have hNN := hM.2.1 14 _ rfl; omega) rfl ?_
      refine ev_eqI (y := (en)) (h1) ?_
      refine ev_if_gt 33 51 dX12_start_30 (by decide) rfl (fun hx => absurd hx (a)) (fun hbr => ?_)
      refine ev_aload_n 34 dX12_start_33 rfl rfl ?_
      refine ev_getP 37 mm_cl12 (j := 44) (Nat.le_of_ble_eq_true rfl) dX12_start_34 lk1329 (fun _ _ _ => rfl) (hM.1 0 _ rfl) (a := (m + 38)) (hM.2.2 37 _ _ _ rfl) rfl ?_
      refine ev_iload_n 38 dX12_start_37 rfl rfl ?_
      refine ev_iald 39 _ dX12_start_38 (hM.1 38 _ rfl) rfl (by have hNN := hM.2.1 38 _ rfl; omega) rfl ?_
      refine ev_eqI (y := nI (de)) (h2) ?_
      refine ev_if_gtN 42 51 dX12_start_39 (by decide) (by omega) rfl (fun hbr => ?_) (fun hx => absurd ((by omega)) hx)
      refine ev_aload_n 52 dX12_start_51 rfl rfl ?_
      refine ev_bipush 54 (v := -2) dX12_start_52 (by decide +kernel) rfl ?_
      refine ev_invV 57 (Mc := mX12_refused) ⟨lk1540, lk80, hdX12_refused, (Nat.le_of_ble_eq_true rfl), (Nat.le_of_ble_eq_true rfl)⟩ lk1537 lk1539 lk38 mm_cl12 rfl dX12_start_54 (ct_X12_refused hM) rfl (hM.1 0 _ rfl) (Nat.le_of_ble_eq_true rfl) rfl rfl ?_
      exact ev_iret dX12_start_57 rfl (rfl)
    · have hl : 0 < L := by rcases hh with h | h | h <;> first | exact absurd h a | omega
      refine ct_of (lv := [some (.ref m), some (.int (nI (k))), some (.int (nI (r)))]) (by decide +kernel) (Nat.le_of_ble_eq_true rfl) rfl ?_
      refine ev_aload_n 1 dX12_start_0 rfl rfl ?_
      refine ev_iload_n 2 dX12_start_1 rfl rfl ?_
      refine ev_invV 5 (Mc := mX12_isCoder) ⟨lk1552, lk80, hdX12_isCoder, (Nat.le_of_ble_eq_true rfl), (Nat.le_of_ble_eq_true rfl)⟩ lk1549 lk1551 lk40 mm_cl12 rfl dX12_start_2 (ct_X12_isCoder_t hM hn h8 hk) rfl (hM.1 0 _ rfl) (Nat.le_of_ble_eq_true rfl) rfl rfl ?_
      refine ev_if_eqN 8 18 dX12_start_5 (by decide) (by omega) rfl (fun hx => absurd hx ((by omega))) (fun hbr => ?_)
      refine ev_iload_n 9 dX12_start_8 rfl rfl ?_
      refine ev_iconstN 10 0 dX12_start_9 rfl ?_
      refine ev_ldc 12 dX12_start_10 lk1574 rfl ?_
      refine ev_eqI (y := nI 65535) (by decide +kernel) ?_
      refine ev_invS 15 (Mc := mX12_in) ⟨lk1536, lk80, hdX12_in, (Nat.le_of_ble_eq_true rfl), (Nat.le_of_ble_eq_true rfl)⟩ lk1534 lk1535 dX12_start_12 (ct_X12_in_t (in_t (by omega) hr (by omega))) rfl (Nat.le_of_ble_eq_true rfl) rfl rfl ?_
      refine ev_if_neN 18 24 dX12_start_15 (by decide) (by omega) rfl (fun hbr => ?_) (fun hx => absurd hx ((by omega)))
      refine ev_aload_n 25 dX12_start_24 rfl rfl ?_
      refine ev_getP 28 mm_cl12 (j := 19) (Nat.le_of_ble_eq_true rfl) dX12_start_25 lk1304 (fun _ _ _ => rfl) (hM.1 0 _ rfl) (a := (m + 14)) (hM.2.2 13 _ _ _ rfl) rfl ?_
      refine ev_iload_n 29 dX12_start_28 rfl rfl ?_
      refine ev_iald 30 _ dX12_start_29 (hM.1 14 _ rfl) rfl (by have hNN := hM.2.1 14 _ rfl; omega) rfl ?_
      refine ev_eqI (y := (en)) (h1) ?_
      refine ev_if_gt 33 51 dX12_start_30 (by decide) rfl (fun hx => absurd hx (a)) (fun hbr => ?_)
      refine ev_aload_n 34 dX12_start_33 rfl rfl ?_
      refine ev_getP 37 mm_cl12 (j := 44) (Nat.le_of_ble_eq_true rfl) dX12_start_34 lk1329 (fun _ _ _ => rfl) (hM.1 0 _ rfl) (a := (m + 38)) (hM.2.2 37 _ _ _ rfl) rfl ?_
      refine ev_iload_n 38 dX12_start_37 rfl rfl ?_
      refine ev_iald 39 _ dX12_start_38 (hM.1 38 _ rfl) rfl (by have hNN := hM.2.1 38 _ rfl; omega) rfl ?_
      refine ev_eqI (y := nI (de)) (h2) ?_
      refine ev_if_gtN 42 51 dX12_start_39 (by decide) (by omega) rfl (fun hx => absurd hx ((by omega))) (fun hbr => ?_)
      refine ev_aload_n 43 dX12_start_42 rfl rfl ?_
      refine ev_getP 46 mm_cl12 (j := 33) (Nat.le_of_ble_eq_true rfl) dX12_start_43 lk1318 (fun _ _ _ => rfl) (hM.1 0 _ rfl) (a := (m + 28)) (hM.2.2 27 _ _ _ rfl) rfl ?_
      refine ev_iload_n 47 dX12_start_46 rfl rfl ?_
      refine ev_iald 48 _ dX12_start_47 (hM.1 28 _ rfl) rfl (by have hNN := hM.2.1 28 _ rfl; omega) rfl ?_
      refine ev_eqI (y := nI (L)) (h3) ?_
      refine ev_if_leN 51 58 dX12_start_48 (by decide) (by omega) rfl (fun hx => absurd hx ((by omega))) (fun hbr => ?_)
      refine ev_aload_n 52 dX12_start_51 rfl rfl ?_
      refine ev_bipush 54 (v := -2) dX12_start_52 (by decide +kernel) rfl ?_
      refine ev_invV 57 (Mc := mX12_refused) ⟨lk1540, lk80, hdX12_refused, (Nat.le_of_ble_eq_true rfl), (Nat.le_of_ble_eq_true rfl)⟩ lk1537 lk1539 lk38 mm_cl12 rfl dX12_start_54 (ct_X12_refused hM) rfl (hM.1 0 _ rfl) (Nat.le_of_ble_eq_true rfl) rfl rfl ?_
      exact ev_iret dX12_start_57 rfl (rfl)
theorem ml_start_t {r : Nat} {en : Int32} (h : MA B I P m n k) (hr : r ≤ 65535) (h1 : I (m + 14) k = en) (h2 : I (m + 38) k = nI 0) (h3 : I (m + 28) k = nI 0) (hh : ¬ 0 < en) : Ct g mX12_start [.ref m, .int (nI k), .int (nI r)] B I J P (some (.int (nI 1)), B, mo_st (va_up (va_up I (m + 10) (va_up (I (m + 10)) k (nI r))) (m + 36) (va_up (I (m + 36)) k (nI r))) m (nI 0), J, P) := by
  obtain ⟨hM, hn, h8, hk⟩ := h
  have e2 : va_up I (m + 10) (va_up (I (m + 10)) k (nI r)) (m + 36) = I (m + 36) := va_up_n _ _ (by omega)
  refine ct_of (lv := [some (.ref m), some (.int (nI (k))), some (.int (nI (r)))]) (by decide +kernel) (Nat.le_of_ble_eq_true rfl) rfl ?_
  refine ev_aload_n 1 dX12_start_0 rfl rfl ?_
  refine ev_iload_n 2 dX12_start_1 rfl rfl ?_
  refine ev_invV 5 (Mc := mX12_isCoder) ⟨lk1552, lk80, hdX12_isCoder, (Nat.le_of_ble_eq_true rfl), (Nat.le_of_ble_eq_true rfl)⟩ lk1549 lk1551 lk40 mm_cl12 rfl dX12_start_2 (ct_X12_isCoder_t hM hn h8 hk) rfl (hM.1 0 _ rfl) (Nat.le_of_ble_eq_true rfl) rfl rfl ?_
  refine ev_if_eqN 8 18 dX12_start_5 (by decide) (by omega) rfl (fun hx => absurd hx ((by omega))) (fun hbr => ?_)
  refine ev_iload_n 9 dX12_start_8 rfl rfl ?_
  refine ev_iconstN 10 0 dX12_start_9 rfl ?_
  refine ev_ldc 12 dX12_start_10 lk1574 rfl ?_
  refine ev_eqI (y := nI 65535) (by decide +kernel) ?_
  refine ev_invS 15 (Mc := mX12_in) ⟨lk1536, lk80, hdX12_in, (Nat.le_of_ble_eq_true rfl), (Nat.le_of_ble_eq_true rfl)⟩ lk1534 lk1535 dX12_start_12 (ct_X12_in_t (in_t (by omega) hr (by omega))) rfl (Nat.le_of_ble_eq_true rfl) rfl rfl ?_
  refine ev_if_neN 18 24 dX12_start_15 (by decide) (by omega) rfl (fun hbr => ?_) (fun hx => absurd hx ((by omega)))
  refine ev_aload_n 25 dX12_start_24 rfl rfl ?_
  refine ev_getP 28 mm_cl12 (j := 19) (Nat.le_of_ble_eq_true rfl) dX12_start_25 lk1304 (fun _ _ _ => rfl) (hM.1 0 _ rfl) (a := (m + 14)) (hM.2.2 13 _ _ _ rfl) rfl ?_
  refine ev_iload_n 29 dX12_start_28 rfl rfl ?_
  refine ev_iald 30 _ dX12_start_29 (hM.1 14 _ rfl) rfl (by have hNN := hM.2.1 14 _ rfl; omega) rfl ?_
  refine ev_eqI (y := (en)) (h1) ?_
  refine ev_if_gt 33 51 dX12_start_30 (by decide) rfl (fun hx => absurd hx (hh)) (fun hbr => ?_)
  refine ev_aload_n 34 dX12_start_33 rfl rfl ?_
  refine ev_getP 37 mm_cl12 (j := 44) (Nat.le_of_ble_eq_true rfl) dX12_start_34 lk1329 (fun _ _ _ => rfl) (hM.1 0 _ rfl) (a := (m + 38)) (hM.2.2 37 _ _ _ rfl) rfl ?_
  refine ev_iload_n 38 dX12_start_37 rfl rfl ?_
  refine ev_iald 39 _ dX12_start_38 (hM.1 38 _ rfl) rfl (by have hNN := hM.2.1 38 _ rfl; omega) rfl ?_
  refine ev_eqI (y := nI (0)) (h2) ?_
  refine ev_if_gtN 42 51 dX12_start_39 (by decide) (by omega) rfl (fun hx => absurd hx ((by omega))) (fun hbr => ?_)
  refine ev_aload_n 43 dX12_start_42 rfl rfl ?_
  refine ev_getP 46 mm_cl12 (j := 33) (Nat.le_of_ble_eq_true rfl) dX12_start_43 lk1318 (fun _ _ _ => rfl) (hM.1 0 _ rfl) (a := (m + 28)) (hM.2.2 27 _ _ _ rfl) rfl ?_
  refine ev_iload_n 47 dX12_start_46 rfl rfl ?_
  refine ev_iald 48 _ dX12_start_47 (hM.1 28 _ rfl) rfl (by have hNN := hM.2.1 28 _ rfl; omega) rfl ?_
  refine ev_eqI (y := nI (0)) (h3) ?_
  refine ev_if_leN 51 58 dX12_start_48 (by decide) (by omega) rfl (fun hbr => ?_) (fun hx => absurd ((by omega)) hx)
  refine ev_aload_n 59 dX12_start_58 rfl rfl ?_
  refine ev_getP 62 mm_cl12 (j := 15) (Nat.le_of_ble_eq_true rfl) dX12_start_59 lk1300 (fun _ _ _ => rfl) (hM.1 0 _ rfl) (a := (m + 10)) (hM.2.2 9 _ _ _ rfl) rfl ?_
  refine ev_iload_n 63 dX12_start_62 rfl rfl ?_
  refine ev_iload_n 64 dX12_start_63 rfl rfl ?_
  refine ev_iast 65 _ dX12_start_64 (hM.1 10 _ rfl) rfl (by have hNN := hM.2.1 10 _ rfl; omega) rfl ?_
  refine ev_aload_n 66 dX12_start_65 rfl rfl ?_
  refine ev_getP 69 mm_cl12 (j := 42) (Nat.le_of_ble_eq_true rfl) dX12_start_66 lk1327 (fun _ _ _ => rfl) (hM.1 0 _ rfl) (a := (m + 36)) (hM.2.2 35 _ _ _ rfl) rfl ?_
  refine ev_iload_n 70 dX12_start_69 rfl rfl ?_
  refine ev_iload_n 71 dX12_start_70 rfl rfl ?_
  refine ev_iast 72 _ dX12_start_71 (hM.1 36 _ rfl) rfl (by have hNN := hM.2.1 36 _ rfl; omega) rfl ?_
  refine ev_aload_n 73 dX12_start_72 rfl rfl ?_
  refine ev_iconstN 74 1 dX12_start_73 rfl ?_
  rw [e2]
  refine ev_invV 77 (Mc := mX12_done) ⟨lk1544, lk80, hdX12_done, (Nat.le_of_ble_eq_true rfl), (Nat.le_of_ble_eq_true rfl)⟩ lk1541 lk1543 lk39 mm_cl12 rfl dX12_start_74 (ct_X12_done hM) rfl (hM.1 0 _ rfl) (Nat.le_of_ble_eq_true rfl) rfl rfl ?_
  exact ev_iret dX12_start_77 rfl (rfl)
end SW0
section SW1
variable {g : mm_G} {c r : Int32}
theorem jo_start : JO g mX11_start mX12_start [.int c, .int r] := by
  refine jo_mk fun K x m B I J P n R o fl φ ρ hK hR h => ?_
  obtain ⟨hV, hM, -⟩ := RG_ly h
  obtain ⟨h8, hx4, hm0⟩ := RG_n h
  obtain ⟨xm, mn⟩ := RC_xm h
  rcases cd_cases h8 c with ⟨k, hk, rfl⟩ | hc
  · have mo := (RC_v h hk).1.2.1
    rcases in_cases (lo := 0) (hi := 65535) (by omega) (by omega) r with ⟨r, r1, r2, rfl⟩ | hc
    · obtain ⟨e1, e2, e3, ⟨nx, n1, n2, n3⟩, e5, e6, e7, ⟨de, d1, d2, d3, d4⟩, e9, e10, e11, e12⟩ := RC_d h hk
      obtain ⟨f1, f2, f3, f4, f5, f6, ⟨nu, u1, u2, u3⟩, f8, f9, f10⟩ := RC_e h hk
      obtain ⟨L, l1, l2, l3, l4⟩ := RC_l h hk
      by_cases hh : 0 < I (m + 14) k ∨ 0 < de ∨ 0 < L
      · exact Or.inl ⟨_, _, cl_start_s (CA_of h hk) r2 f8 d2 (by omega) l2 l1 hh, fun I1 h1 => ml_start_s (MA_of h hk (h1 _ (by omega))) r2 (by rw [h1 _ (by omega)]) (by rw [h1 _ (by omega)]; exact d3) (by omega) (by rw [h1 _ (by omega)]; exact l3) l1 hh⟩
      · have hde : de = 0 := by
          rcases Nat.eq_zero_or_pos de with e | e
          · exact e
          · exact absurd (Or.inr (Or.inl e)) hh
        have hL : L = 0 := by
          rcases Nat.eq_zero_or_pos L with e | e
          · exact e
          · exact absurd (Or.inr (Or.inr e)) hh
        subst hde; subst hL
        have hen : ¬ 0 < I (m + 14) k := fun e => hh (Or.inl e)
        generalize hI1 : va_up (va_up (vz I x) (o k + 4) (va_up (I (o k + 4)) 16 (nI r))) (o k + 17) (va_up (I (o k + 17)) 9 (nI r)) = I1
        have g1 : ∀ q, q ≠ x → q ≠ o k + 4 → q ≠ o k + 17 → I1 q = I q := fun q q1 q2 q3 => by rw [← hI1, va_up_n _ _ q3, va_up_n _ _ q2]; exact va_up_n _ _ q1
        generalize hI2 : mo_st (va_up (va_up I1 (m + 10) (va_up (I1 (m + 10)) k (nI r))) (m + 36) (va_up (I1 (m + 36)) k (nI r))) m (nI 0) = I2
        have g2 : ∀ q, q ≠ m → q ≠ m + 10 → q ≠ m + 36 → I2 q = I1 q := fun q q1 q2 q3 => by rw [← hI2, show mo_st (va_up (va_up I1 (m + 10) (va_up (I1 (m + 10)) k (nI r))) (m + 36) (va_up (I1 (m + 36)) k (nI r))) m (nI 0) q = _ from va_up_n _ _ q1, va_up_n _ _ q3, va_up_n _ _ q2]
        have f : ∀ q, q ≠ x → q ≠ m → q ≠ o k + 4 → q ≠ o k + 17 → q ≠ m + 10 → q ≠ m + 36 → I2 q = I q := fun q a1 a2 a3 a4 a5 a6 => by rw [g2 q a2 a5 a6, g1 q a1 a3 a4]
        have g4 : I2 (o k + 4) = va_up (I (o k + 4)) 16 (nI r) := by rw [g2 _ (by omega) (by omega) (by omega), ← hI1, va_up_n _ _ (by omega), va_up_s]
        have g17 : I2 (o k + 17) = va_up (I (o k + 17)) 9 (nI r) := by rw [g2 _ (by omega) (by omega) (by omega), ← hI1, va_up_s]
        have g10 : I2 (m + 10) = va_up (I (m + 10)) k (nI r) := by rw [← hI2, show mo_st (va_up (va_up I1 (m + 10) (va_up (I1 (m + 10)) k (nI r))) (m + 36) (va_up (I1 (m + 36)) k (nI r))) m (nI 0) (m + 10) = _ from va_up_n _ _ (by omega), va_up_n _ _ (by omega), va_up_s, g1 _ (by omega) (by omega) (by omega)]
        have g36 : I2 (m + 36) = va_up (I (m + 36)) k (nI r) := by rw [← hI2, show mo_st (va_up (va_up I1 (m + 10) (va_up (I1 (m + 10)) k (nI r))) (m + 36) (va_up (I1 (m + 36)) k (nI r))) m (nI 0) (m + 36) = _ from va_up_n _ _ (by omega), va_up_s, g1 _ (by omega) (by omega) (by omega)]
        have gx : I2 x = va_up (I x) 9 (nI 0) := by rw [g2 _ (by omega) (by omega) (by omega), ← hI1, va_up_n _ _ (by omega), va_up_n _ _ (by omega)]; exact va_up_s _ _ _
        have gm : I2 m = va_up (I m) 1 (nI 0) := by rw [← hI2, show mo_st (va_up (va_up I1 (m + 10) (va_up (I1 (m + 10)) k (nI r))) (m + 36) (va_up (I1 (m + 36)) k (nI r))) m (nI 0) m = va_up (va_up (va_up I1 (m + 10) (va_up (I1 (m + 10)) k (nI r))) (m + 36) (va_up (I1 (m + 36)) k (nI r)) m) 1 (nI 0) from va_up_s _ _ _, va_up_n _ _ (by omega), va_up_n _ _ (by omega), g1 _ (by omega) (by omega) (by omega)]
        refine Or.inr ⟨nI 1, I1, J, I2, J, by rw [← hI1]; exact cl_start_t (CA_of h hk) r2 f8 d2 l2 hen, by rw [← hI2]; exact ml_start_t (MA_of h hk (g1 _ (by omega) (by omega) (by omega))) r2 (by rw [g1 _ (by omega) (by omega) (by omega)]) (by rw [g1 _ (by omega) (by omega) (by omega)]; exact d3) (by rw [g1 _ (by omega) (by omega) (by omega)]; exact l3) hen, ?_, fun q hq => f q (by omega) (by omega) (by omega) (by omega) (by omega) (by omega)⟩
        refine RC_set h hk (by rw [gx, gm, va_up_s, va_up_s]) (fun i hi => by rw [gx, va_up_n _ _ (by omega)]) (fun i hi => by rw [gm, va_up_n _ _ (by omega)]) (fun q q1 q2 q3 q4 => f q q1 q2 (by omega) (by omega) (by omega) (by omega)) (fun a i a1 a2 a3 => ?_) (VCw_cg (RC_w h hk) (by rw [f (o k) (by omega) (by omega) (by omega) (by omega) (by omega) (by omega)]) (f _ (by omega) (by omega) (by omega) (by omega) (by omega) (by omega)) (f _ (by omega) (by omega) (by omega) (by omega) (by omega) (by omega)) (f _ (by omega) (by omega) (by omega) (by omega) (by omega) (by omega))) ?_
          (VCs_cg (RC_s h hk) (by rw [g4, va_up_n _ _ (by omega)]) (by rw [g4, va_up_n _ _ (by omega)]) (fun i hi => f _ (by omega) (by omega) (by omega) (by omega) (by omega) (by omega)) (fun i i1 i2 => f _ (by omega) (by omega) (by omega) (by omega) (by omega) (by omega)) (fun _ _ _ => rfl) rfl rfl) (VCm_cw (RC_m1 h hk) (fun i hi => f _ (by omega) (by omega) (by omega) (by omega) (by omega) (by omega)) (fun i i1 i2 => f _ (by omega) (by omega) (by omega) (by omega) (by omega) (by omega))) ?_ (VCm_cw (RC_m2 h hk) (fun i hi => f _ (by omega) (by omega) (by omega) (by omega) (by omega) (by omega)) (fun i i1 i2 => f _ (by omega) (by omega) (by omega) (by omega) (by omega) (by omega)))
        · by_cases e : a = 10
          · subst e
            have a3' : i < 1 * k ∨ 1 * k + 1 ≤ i := a3
            rw [g10, va_up_n _ _ (by omega)]
          · by_cases e : a = 36
            · subst e
              have a3' : i < 1 * k ∨ 1 * k + 1 ≤ i := a3
              rw [g36, va_up_n _ _ (by omega)]
            · rw [f (m + a) (by omega) (by omega) (by omega) (by omega) (by omega) (by omega)]
        · unfold VCe
          rw [g4, g10]
          rw [f (o k + 5) (by omega) (by omega) (by omega) (by omega) (by omega) (by omega), f (m + 5) (by omega) (by omega) (by omega) (by omega) (by omega) (by omega), f (m + 6) (by omega) (by omega) (by omega) (by omega) (by omega) (by omega), f (m + 7) (by omega) (by omega) (by omega) (by omega) (by omega) (by omega), f (m + 8) (by omega) (by omega) (by omega) (by omega) (by omega) (by omega), f (m + 9) (by omega) (by omega) (by omega) (by omega) (by omega) (by omega), f (m + 13) (by omega) (by omega) (by omega) (by omega) (by omega) (by omega), f (m + 14) (by omega) (by omega) (by omega) (by omega) (by omega) (by omega), f (m + 19) (by omega) (by omega) (by omega) (by omega) (by omega) (by omega)]
          simp (disch := omega) only [va_up_s, va_up_n]
          exact ⟨f1, f2, f3, f4, f5, f6, ⟨r, by omega, rfl, rfl⟩, f8, f9, f10⟩
        · unfold VCd
          rw [g17, g36]
          have ff : ∀ a, 34 ≤ a → a ≤ 47 → a ≠ 36 → I2 (m + a) = I (m + a) := fun a a1 a2 a3 => f _ (by omega) (by omega) (by omega) (by omega) (by omega) (by omega)
          rw [f (o k + 28) (by omega) (by omega) (by omega) (by omega) (by omega) (by omega), ff 34 (by omega) (by omega) (by omega), ff 35 (by omega) (by omega) (by omega), ff 37 (by omega) (by omega) (by omega), ff 38 (by omega) (by omega) (by omega), ff 39 (by omega) (by omega) (by omega), ff 40 (by omega) (by omega) (by omega), ff 41 (by omega) (by omega) (by omega), ff 42 (by omega) (by omega) (by omega), ff 43 (by omega) (by omega) (by omega), ff 44 (by omega) (by omega) (by omega), ff 45 (by omega) (by omega) (by omega), ff 46 (by omega) (by omega) (by omega), ff 47 (by omega) (by omega) (by omega)]
          simp (disch := omega) only [va_up_s, va_up_n]
          exact ⟨e1, e2, e3, ⟨r, by omega, rfl, rfl⟩, e5, e6, e7, ⟨0, d1, d2, d3, d4⟩, e9, e10, e11, e12⟩
    · exact Or.inl ⟨_, _, cl_start_b (CA_of h hk) hc, fun I1 h1 => ml_start_b (MA_of h hk (h1 _ (by omega))) hc⟩
  · exact Or.inl ⟨_, _, cl_start_f hV hx4 hc, fun I1 h1 => ml_start_f hM (by rw [h1 _ (by omega)]; exact hm0) hc⟩
end SW1
