/-! THE LAW: its switch, its loop, its end -/
def lwO : Array Int := #[195, 218, 251, 300, 343, 376, 425, 458, 491, 554, 577, 620, 653, 723, 756, 799, 832, 865, 908, 961, 994, 1027, 1070, 1103, 1136, 1199, 1232, 1255, 1288, 1341, 1364, 1387, 1430, 1463, 1496, 1549, 1592, 1615, 1638, 1671, 1694, 1708, 1741, 1754, 1777]
section LP0
variable {g : mm_G} {B : mm_B} {I : mm_TI} {J : mm_TJ} {P : mm_TP} {b L K x m i : Nat}
theorem RS_mono {K' : Nat} (h : RS g B I J P x m K) (hK : K ≤ K') : RS g B I J P x m K' := by
  obtain ⟨n, R, o, fl, φ, ρ, hR, h⟩ := h
  exact ⟨n, R, o, fl, φ, ρ, by omega, RC_mono h hK⟩
theorem law_in {c tgt : Nat} {off : Int} (hc : c < 45) (ho : lwO[c]? = some off) (ht : (33 : Int) + off = (tgt : Int)) (hv : I b i &&& nI 63 = nI c) (h : LHy g b L K x m i B I J P) (s : LSt g b K x m i tgt B I J P) : LSt g b K x m i 27 B I J P := by
  obtain ⟨hK, hS, tb, nb, hi, hL, hb, tx, tm⟩ := h
  obtain ⟨B2, I2, J2, P2, h1, h2, h3, h4, h5, h6⟩ := s
  refine ⟨B2, I2, J2, P2, h1, h2, h3, h4, h5, fun Z k => ?_⟩
  have e : ((nI c).toInt - 0).toNat = c := by rw [nI_toInt (by omega)]; omega
  refine ev_aload_n 28 dL_law_27 rfl rfl ?_
  refine ev_iload_n 29 dL_law_28 rfl rfl ?_
  refine ev_ialdR 30 _ dL_law_29 tb rfl (by have hNN := nb; omega) rfl ?_
  refine ev_bipushN 32 63 dL_law_30 (by decide +kernel) rfl ?_
  refine ev_iand 33 dL_law_32 rfl ?_
  refine ev_eqI (y := nI c) hv ?_
  exact ev_tableIn tgt dL_law_33 (by rw [nI_toInt (by omega)]; omega) (by rw [nI_toInt (by omega)]; omega) (by rw [e]; exact ho) ht (h6 Z k)
theorem law_out {c : Nat} (hc : 45 ≤ c) (hc2 : c < 64) (hv : I b i &&& nI 63 = nI c) (h : LHy g b L K x m i B I J P) : LSt g b K x m i 27 B I J P := by
  obtain ⟨hK, hS, tb, nb, hi, hL, hb, tx, tm⟩ := h
  refine ⟨B, I, J, P, RS_mono hS (by omega), Ext_rf B, by omega, by omega, fun _ _ => rfl, fun Z k => ?_⟩
  refine ev_aload_n 28 dL_law_27 rfl rfl ?_
  refine ev_iload_n 29 dL_law_28 rfl rfl ?_
  refine ev_ialdR 30 _ dL_law_29 tb rfl (by have hNN := nb; omega) rfl ?_
  refine ev_bipushN 32 63 dL_law_30 (by decide +kernel) rfl ?_
  refine ev_iand 33 dL_law_32 rfl ?_
  refine ev_eqI (y := nI c) hv ?_
  exact ev_tableOut 1823 dL_law_33 (Or.inr (by rw [nI_toInt (by omega)]; omega)) (by decide) k
theorem law_step (h : LHy g b L K x m i B I J P) : LSt g b K x m i 27 B I J P := by
  obtain ⟨n, e⟩ := nI_all (I b i)
  have v : I b i &&& nI 63 = nI (n % 64) := by rw [e]; exact nI_m63 n
  have hn : n % 64 < 64 := Nat.mod_lt _ (by omega)
  generalize n % 64 = c at *
  by_cases h0 : c = 0
  · subst h0; exact law_in (off := 195) (by omega) rfl (by decide) v h (law_c0 h)
  by_cases h1 : c = 1
  · subst h1; exact law_in (off := 218) (by omega) rfl (by decide) v h (law_c1 h)
  by_cases h2 : c = 2
  · subst h2; exact law_in (off := 251) (by omega) rfl (by decide) v h (law_c2 h)
  by_cases h3 : c = 3
  · subst h3; exact law_in (off := 300) (by omega) rfl (by decide) v h (law_c3 h)
  by_cases h4 : c = 4
  · subst h4; exact law_in (off := 343) (by omega) rfl (by decide) v h (law_c4 h)
  by_cases h5 : c = 5
  · subst h5; exact law_in (off := 376) (by omega) rfl (by decide) v h (law_c5 h)
  by_cases h6 : c = 6
  · subst h6; exact law_in (off := 425) (by omega) rfl (by decide) v h (law_c6 h)
  by_cases h7 : c = 7
  · subst h7; exact law_in (off := 458) (by omega) rfl (by decide) v h (law_c7 h)
  by_cases h8 : c = 8
  · subst h8; exact law_in (off := 491) (by omega) rfl (by decide) v h (law_c8 h)
  by_cases h9 : c = 9
  · subst h9; exact law_in (off := 554) (by omega) rfl (by decide) v h (law_c9 h)
  by_cases h10 : c = 10
  · subst h10; exact law_in (off := 577) (by omega) rfl (by decide) v h (law_c10 h)
  by_cases h11 : c = 11
  · subst h11; exact law_in (off := 620) (by omega) rfl (by decide) v h (law_c11 h)
  by_cases h12 : c = 12
  · subst h12; exact law_in (off := 653) (by omega) rfl (by decide) v h (law_c12 h)
  by_cases h13 : c = 13
  · subst h13; exact law_in (off := 723) (by omega) rfl (by decide) v h (law_c13 h)
  by_cases h14 : c = 14
  · subst h14; exact law_in (off := 756) (by omega) rfl (by decide) v h (law_c14 h)
  by_cases h15 : c = 15
  · subst h15; exact law_in (off := 799) (by omega) rfl (by decide) v h (law_c15 h)
  by_cases h16 : c = 16
  · subst h16; exact law_in (off := 832) (by omega) rfl (by decide) v h (law_c16 h)
  by_cases h17 : c = 17
  · subst h17; exact law_in (off := 865) (by omega) rfl (by decide) v h (law_c17 h)
  by_cases h18 : c = 18
  · subst h18; exact law_in (off := 908) (by omega) rfl (by decide) v h (law_c18 h)
  by_cases h19 : c = 19
  · subst h19; exact law_in (off := 961) (by omega) rfl (by decide) v h (law_c19 h)
  by_cases h20 : c = 20
  · subst h20; exact law_in (off := 994) (by omega) rfl (by decide) v h (law_c20 h)
  by_cases h21 : c = 21
  · subst h21; exact law_in (off := 1027) (by omega) rfl (by decide) v h (law_c21 h)
  by_cases h22 : c = 22
  · subst h22; exact law_in (off := 1070) (by omega) rfl (by decide) v h (law_c22 h)
  by_cases h23 : c = 23
  · subst h23; exact law_in (off := 1103) (by omega) rfl (by decide) v h (law_c23 h)
  by_cases h24 : c = 24
  · subst h24; exact law_in (off := 1136) (by omega) rfl (by decide) v h (law_c24 h)
  by_cases h25 : c = 25
  · subst h25; exact law_in (off := 1199) (by omega) rfl (by decide) v h (law_c25 h)
  by_cases h26 : c = 26
  · subst h26; exact law_in (off := 1232) (by omega) rfl (by decide) v h (law_c26 h)
  by_cases h27 : c = 27
  · subst h27; exact law_in (off := 1255) (by omega) rfl (by decide) v h (law_c27 h)
  by_cases h28 : c = 28
  · subst h28; exact law_in (off := 1288) (by omega) rfl (by decide) v h (law_c28 h)
  by_cases h29 : c = 29
  · subst h29; exact law_in (off := 1341) (by omega) rfl (by decide) v h (law_c29 h)
  by_cases h30 : c = 30
  · subst h30; exact law_in (off := 1364) (by omega) rfl (by decide) v h (law_c30 h)
  by_cases h31 : c = 31
  · subst h31; exact law_in (off := 1387) (by omega) rfl (by decide) v h (law_c31 h)
  by_cases h32 : c = 32
  · subst h32; exact law_in (off := 1430) (by omega) rfl (by decide) v h (law_c32 h)
  by_cases h33 : c = 33
  · subst h33; exact law_in (off := 1463) (by omega) rfl (by decide) v h (law_c33 h)
  by_cases h34 : c = 34
  · subst h34; exact law_in (off := 1496) (by omega) rfl (by decide) v h (law_c34 h)
  by_cases h35 : c = 35
  · subst h35; exact law_in (off := 1549) (by omega) rfl (by decide) v h (law_c35 h)
  by_cases h36 : c = 36
  · subst h36; exact law_in (off := 1592) (by omega) rfl (by decide) v h (law_c36 h)
  by_cases h37 : c = 37
  · subst h37; exact law_in (off := 1615) (by omega) rfl (by decide) v h (law_c37 h)
  by_cases h38 : c = 38
  · subst h38; exact law_in (off := 1638) (by omega) rfl (by decide) v h (law_c38 h)
  by_cases h39 : c = 39
  · subst h39; exact law_in (off := 1671) (by omega) rfl (by decide) v h (law_c39 h)
  by_cases h40 : c = 40
  · subst h40; exact law_in (off := 1694) (by omega) rfl (by decide) v h (law_c40 h)
  by_cases h41 : c = 41
  · subst h41; exact law_in (off := 1708) (by omega) rfl (by decide) v h (law_c41 h)
  by_cases h42 : c = 42
  · subst h42; exact law_in (off := 1741) (by omega) rfl (by decide) v h (law_c42 h)
  by_cases h43 : c = 43
  · subst h43; exact law_in (off := 1754) (by omega) rfl (by decide) v h (law_c43 h)
  by_cases h44 : c = 44
  · subst h44; exact law_in (off := 1777) (by omega) rfl (by decide) v h (law_c44 h)
  exact law_out (by omega) hn v h
/-- from the loop's head on -/
theorem law_loop (hL : L ≤ 3072) (hb : b < g.1) (hbx : b < x) (hxm : x < m) : ∀ (d K : Nat) (B : mm_B) (I : mm_TI) (J : mm_TJ) (P : mm_TP), L < 6 * (K + 1) + 6 * d → 6 * K ≤ L + 6 → RS g B I J P x m K → mm_T B b = 1 → mm_N B b = L → mm_T B x = 111 → mm_T B m = 112 →
    ∃ (B' : mm_B) (I' : mm_TI) (J' : mm_TJ) (P' : mm_TP), mm_nx B' ≤ mm_nx B + 100 * d ∧ mm_sl B' ≤ mm_sl B + 10000 * d ∧ Ev g mL_law 18 [some (.ref b), some (.ref x), some (.ref m), some (.int (nI (6 * K)))] [] B I J P (some (.int (nI 1)), B', I', J', P') := by
  intro d
  have ex : ∀ (K : Nat) (B : mm_B) (I : mm_TI) (J : mm_TJ) (P : mm_TP), L < 6 * (K + 1) → 6 * K ≤ L + 6 → mm_T B b = 1 → mm_N B b = L → mm_T B x = 111 → mm_T B m = 112 → Ev g mL_law 18 [some (.ref b), some (.ref x), some (.ref m), some (.int (nI (6 * K)))] [] B I J P (some (.int (nI 1)), B, I, J, P) := by
    intro K B I J P h1 h2 tb nb tx tm
    have lt : nI L - nI 6 < nI (6 * K) := by
      rw [Int32.lt_iff_toInt_lt, i_sub_t (by rw [nI_toInt (by omega)]; omega) (by rw [nI_toInt (by omega)]; omega) (by rw [nI_toInt (by omega)]; omega) (by rw [nI_toInt (by omega)]; omega), nI_toInt (by omega), nI_toInt (by omega), nI_toInt (by omega)]; omega
    refine ev_iload_n 19 dL_law_18 rfl rfl ?_
    refine ev_aload_n 20 dL_law_19 rfl rfl ?_
    refine ev_alenR 21 dL_law_20 tb rfl ?_
    refine ev_eqI (y := nI L) (by rw [nb]) ?_
    refine ev_bipushN 23 6 dL_law_21 (by decide +kernel) rfl ?_
    refine ev_isub 24 dL_law_23 rfl ?_
    refine ev_icmp_gt 27 1829 dL_law_24 (by decide) rfl (fun hbr => ?_) (fun hx => absurd ((lt)) hx)
    refine ev_iconstN 1830 1 dL_law_1829 rfl ?_
    exact ev_zret dL_law_1830 rfl (by first | rfl | assumption) (rfl)
  induction d with
  | zero =>
    intro K B I J P h1 h2 hS tb nb tx tm
    exact ⟨B, I, J, P, by omega, by omega, ex K B I J P (by omega) h2 tb nb tx tm⟩
  | succ d ih =>
    intro K B I J P h1 h2 hS tb nb tx tm
    by_cases c : L < 6 * (K + 1)
    · exact ⟨B, I, J, P, by omega, by omega, ex K B I J P c h2 tb nb tx tm⟩
    · obtain ⟨B2, I2, J2, P2, s1, s2, s3, s4, s5, s6⟩ := law_step (g := g) (b := b) (L := L) (K := K) (x := x) (m := m) (i := 6 * K) (B := B) (I := I) (J := J) (P := P) ⟨by omega, hS, tb, nb, by omega, by omega, hb, tx, tm⟩
      have tb2 : mm_T B2 b = 1 := (s2.1 b (by omega)).1.trans tb
      have nb2 : mm_N B2 b = L := (s2.1 b (by omega)).2.trans nb
      have tx2 : mm_T B2 x = 111 := (s2.1 x (by omega)).1.trans tx
      have tm2 : mm_T B2 m = 112 := (s2.1 m (by omega)).1.trans tm
      obtain ⟨B', I', J', P', u1, u2, u3⟩ := ih (K + 1) B2 I2 J2 P2 (by omega) (by omega) s1 tb2 nb2 tx2 tm2
      have lt : ¬ nI L - nI 6 < nI (6 * K) := by
        rw [Int32.lt_iff_toInt_lt, i_sub_t (by rw [nI_toInt (by omega)]; omega) (by rw [nI_toInt (by omega)]; omega) (by rw [nI_toInt (by omega)]; omega) (by rw [nI_toInt (by omega)]; omega), nI_toInt (by omega), nI_toInt (by omega), nI_toInt (by omega)]; omega
      refine ⟨B', I', J', P', by omega, by omega, ?_⟩
      rw [show 6 * (K + 1) = 6 * K + 6 by omega] at u3
      refine ev_iload_n 19 dL_law_18 rfl rfl ?_
      refine ev_aload_n 20 dL_law_19 rfl rfl ?_
      refine ev_alenR 21 dL_law_20 tb rfl ?_
      refine ev_eqI (y := nI L) (by rw [nb]) ?_
      refine ev_bipushN 23 6 dL_law_21 (by decide +kernel) rfl ?_
      refine ev_isub 24 dL_law_23 rfl ?_
      refine ev_icmp_gt 27 1829 dL_law_24 (by decide) rfl (fun hx => absurd hx ((lt))) (fun hbr => ?_)
      refine s6 _ ?_
      refine ev_iincN 1826 (lv' := [_, _, some (.ref _), _]) 6 dL_law_1823 rfl (Nat.le_of_ble_eq_true rfl) rfl rfl ?_
      refine ev_goto 18 dL_law_1826 (by decide) ?_
      exact u3
/-- the whole law -/
theorem law_all (hz : ∀ q, mm_nx B ≤ q → mm_T B q = 0) (hx : mm_nx B = x) (hG : ly_G g B) (hc : st_c g I) (hg : ∀ i, i < 3 → g.2.2 i < x) (hgx : x ≤ g.1) (tb : mm_T B b = 1) (nb : mm_N B b = L) (hL : L ≤ 3072) (hb : b < x) : ∃ (B' : mm_B) (I' : mm_TI) (J' : mm_TJ) (P' : mm_TP), mm_nx B' ≤ mm_nx B + 78574 ∧ mm_sl B' ≤ mm_sl B + 8866528 ∧ Ev g mL_law 0 [some (.ref b), none, none, none] [] B I J P (some (.int (nI 1)), B', I', J', P') := by
  obtain ⟨Ia, Ja, Pa, rs, il, ks⟩ := law_start (g := g) (I := I) (J := J) (P := P) hz hx hG hc hg tb hb
  have e1 := als_Ext lX11 B hz
  have e2 := als_Ext lX12_init (als B lX11) e1.2
  have ex := Ext_tr e1.1 e2.1
  have n1 : mm_nx (als B lX11) = x + 22 := by rw [als_x, hx]; rfl
  have n2 : mm_nx (als (als B lX11) lX12_init) = x + 86 := by rw [als_x, n1]; rfl
  have s2 : mm_sl (als (als B lX11) lX12_init) = mm_sl B + als_s lX11 + als_s lX12_init := by rw [als_sl, als_sl]
  have a1 : als_s lX11 ≤ 10000 := by decide
  have a2 : als_s lX12_init ≤ 1000000 := by decide
  have tx : mm_T (als (als B lX11) lX12_init) x = 111 := (als_lo _ _ x (by rw [n1]; omega)).1.trans (als_t (i := 0) hx rfl rfl rfl)
  have tm : mm_T (als (als B lX11) lX12_init) (x + 22) = 112 := als_t (i := 0) n1 rfl rfl rfl
  obtain ⟨B', I', J', P', u1, u2, u3⟩ := law_loop (g := g) (b := b) (L := L) (x := x) (m := x + 22) hL (by omega) hb (by omega) 512 0 _ Ia Ja Pa (by omega) (by omega) rs ((ex.1 b (by omega)).1.trans tb) ((ex.1 b (by omega)).2.trans nb) tx tm
  exact ⟨B', I', J', P', by omega, by omega, ks _ u3⟩
end LP0
