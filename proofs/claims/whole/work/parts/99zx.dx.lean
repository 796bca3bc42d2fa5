/-! DECODE: a frame is played -/
section DX0
variable {g : mm_G} {B : mm_B} {I Ib : mm_TI} {J : mm_TJ} {P Pb : mm_TP} {x m n R K k L nx nu n2 f r nn r0 : Nat} {o : Nat → Nat} {fl φ : Nat → Nat → Nat} {ρ s2 : Nat → Nat} {lt : Int32} {F : Nat → Int32}
theorem dec_PV (h : RC g B I J P x m n R K o fl φ ρ) (hk : k < n) (hK : K < 600) (hR : R ≤ K) (l1 : L ≤ 250) (l2 : I (o k + 2) 1 = nI L) (l3 : I (m + 28) k = nI L) (nx1 : nx < 65536) (nx2 : I (o k + 17) 9 = nI nx) (nx3 : I (m + 36) k = nI nx) (nu1 : nu < 65536) (nu2 : I (o k + 4) 16 = nI nu) (hgo : ¬ (L = 0 ∧ nx = nu)) (sok : sl_ok L (n2, s2))
    (hr0 : r0 ≤ K) (r0c : I (o k + 17) 14 = nI r0) (r0m : I (m + 37) k = nI r0) (q17 : I (o k + 17) 17 = I (m + 40) k) (q18 : I (o k + 17) 18 = I (m + 41) k)
    (db : DBc x (o k) n2 0 2 (φ k) s2 lt I Ib P Pb) (tf : mm_T B f = 104) (f3 : f ≠ o k + 3) (op : OPr B I P m R ρ f r nn F) (hvo : sp_vo F = 1)
    (KC : ∀ Z : mm_Z, Ev g mX1_decodeNext 54 [some (.ref (o k + 17)), some (.ref (o k + 2)), some (.ref f), none, none] [] B Ib J Pb Z → Ct g mX1_decodeNext [.ref (o k + 17), .ref (o k + 2)] B (vz I x) J P Z)
    (KM : ∀ (I1 : mm_TI) (J1 : mm_TJ) (P1 : mm_TP), lyM B P1 m → (∀ j, j < 64 → I1 (m + j) = I (m + j)) → ∃ (v : Int32) (Mb : mm_TI), DBm m k n2 0 2 s2 lt I Mb ∧ (Mb m 78 = nI r ∧ Mb m 79 = F 2 ∧ Mb m 80 = F 5) ∧ (∀ q, q < m ∨ m + 64 ≤ q → Mb q = I1 q) ∧ ∀ Z : mm_Z, Ev g mX12_decode 176 [some (.ref m), some (.int (nI k)), some (.int (nI nx)), some (.int (nI 0)), some (.int v), none, none, none] [] B Mb J1 P1 Z → Ct g mX12_decode [.ref m, .int (nI k)] B I1 J1 P1 Z) : JR g mX11_decode mX12_decode [.int (nI k)] K x m B I J P := by
  obtain ⟨hV, hM, hG, hc, hgx⟩ := RG_ly h
  obtain ⟨xm, mn⟩ := RC_xm h
  have n8 := (RG_n h).1
  have hv := RC_v h hk
  have mo := hv.1.2.1
  have no := hv.1.2.2.1
  have hC := hv.1.1
  obtain ⟨vm1, vm2, vm3, vm4, L0, vm5, vm6, vm7, vm8⟩ := hv.2.2.2.2.2.2.1
  have v30 : I (o k + 30) = sg (I (m + 15)) (160 * (2 * k + 1)) 160 := vm1
  have v31 : I (o k + 31) = sg (I (m + 16)) (8 * (2 * k + 1)) 8 := vm3
  have v32 : I (o k + 32) = sg (I (m + 17)) (8 * (2 * k + 1)) 8 := vm4
  obtain ⟨bx, bx1, bx2, bx3, bo2, b17, bp, bpq, bq⟩ := db
  obtain ⟨rR, rP, rT, rN, rn64, rF, rFm, rb8, rop⟩ := op
  have rho := RC_row h rR
  obtain ⟨n6, bd, mo', hF2, hF5, hbn, hbd⟩ := sp_op_0 rn64 rb8 rop
  rw [hvo] at hbd
  have tg : ∀ j, j < 33 → mm_T B (o k + j) ≠ 201 := fun j hj => (VC_tg hv hj).2.1
  have rq : ρ r < o k ∨ o k + 33 ≤ ρ r := by
    by_cases c : ρ r < o k
    · exact Or.inl c
    · by_cases d : o k + 33 ≤ ρ r
      · exact Or.inr d
      · have t := tg (ρ r - o k) (by omega)
        rw [show o k + (ρ r - o k) = ρ r by omega] at t
        exact absurd rT t
  have ib : Ib (ρ r) = I (ρ r) := bq _ (by omega) (by omega) (by omega) (by omega) (by omega) (by omega)
  have i30 : Ib (o k + 30) = I (o k + 30) := bq _ (by omega) (by omega) (by omega) (by omega) (by omega) (by omega)
  have i31 : Ib (o k + 31) = I (o k + 31) := bq _ (by omega) (by omega) (by omega) (by omega) (by omega) (by omega)
  have i32 : Ib (o k + 32) = I (o k + 32) := bq _ (by omega) (by omega) (by omega) (by omega) (by omega) (by omega)
  have i6 : Ib (x + 6) = I (x + 6) := bq _ (by omega) (by omega) (by omega) (by omega) (by omega) (by omega)
  have hV1 : lyV B Pb x := lyV_ext hV (Ext_rf B) (fun q q1 q2 => bpq q (by omega))
  have hC1 : lyC B Pb x (o k) := lyC_p3 hC bpq
  have hrt : ub (F 1) % 2 ≤ 1 := by omega
  have b17j : ∀ j, j ≠ 12 → j ≠ 16 → Ib (o k + 17) j = I (o k + 17) j := fun j j1 j2 => by rw [b17, va_up_n _ _ j1, va_up_n _ _ j2]
  obtain ⟨I1, J1, hd, d30, d31, d32, d6, dJ, d17, d29, d3, d1, dq⟩ := cx_X1_dfV (g := g) (B := B) (I := Ib) (J := J) (P := Pb) (x := x) (o := o k) (f := f) (q := ρ r) (n := nn) (t := 2) (rt := ub (F 1) % 2) (F := F) (bt := fun j => ub (F j)) hV1 hC1 hG (st_c_lo hc hgx (fun q hq => bq q (by omega) (by omega) (by omega) (by omega) (by omega) (by omega))) hgx (by omega) tf rT rN rn64 (by rw [if_pos rfl] at hbd; omega) (by rw [bpq _ f3]; exact rP) (fun j hj => by rw [ib]; exact rF j hj) (fun j hj => by rw [ib, rF j hj]) ⟨by omega, rq⟩ hvo rfl (by rw [bx1, va_up_s]) (by omega)
    (by rw [i30, v30]; exact sg_z) (by rw [i32, v32]; exact sg_z)
  rw [i30] at d30
  rw [i30, i31, i6] at d31 d6 dJ
  obtain ⟨bt, hbt⟩ : ∃ bt : Nat → Nat, (fun j => ub (F j)) = bt := ⟨_, rfl⟩
  have hb : ∀ j, ub (F j) = bt j := fun j => by rw [← hbt]
  simp only [hbt, hb] at d30 d31 d32 d6 dJ d17 d29 hrt ⊢
  generalize hgH : gH (dcEs bt (40 * (bt 1 % 2 + 1))) (40 * (bt 1 % 2 + 1)) (I (o k + 30)) 4 = H at *
  generalize hgV : gV (dcX bt) (dcEs bt (40 * (bt 1 % 2 + 1))) (dcTs bt (40 * (bt 1 % 2 + 1))) (40 * (bt 1 % 2 + 1)) (I (o k + 30)) (I (o k + 31), I (x + 6), 0) 4 = gv at *
  have hHr : ∀ j, j < 160 → r16 (H j) := by rw [← hgH]; exact gH_r (by omega) (fun _ _ => sp_eE_r) (fun j hj => vm2 j hj) 4
  have hYr : ∀ j, j < 160 * (bt 1 % 2 + 1) → r16 (gv.2.1 j) := fun j hj => by rw [← hgV]; exact gV_r 4 j (by omega)
  have i17 : ∀ j, j ≠ 14 → va_up I1 (o k + 17) (va_up (I1 (o k + 17)) 14 (nI 0)) (o k + 17) j = I1 (o k + 17) j := fun j j1 => by rw [va_up_s, va_up_n _ _ j1]
  refine dec_D (n2 := n2) (w := 0) (t := 3) (rt := bt 1 % 2) (LL := pcL bt 29) (jo := if 0 < r0 then 1 else 0) (rn := if 0 < r0 then 1 else 0) (r1 := 0) (s2 := s2) (H := H) (V := gv.1) (X := dcX bt) (Y := gv.2.1) (ga := nI (sp_gn (pcJ bt 29))) (wy := nI 0) (lt := lt) (q17 := I (o k + 17) 17) (q18 := I (o k + 17) 18) (T := gv.2.2) (Pc := Pb) h hk hK hR l1 l2 l3 nx1 nx2 nx3 nu1 nu2 hgo sok hrt (by omega) (by unfold pcL; omega) (by unfold pcL; omega) hHr hYr (by decide) (by omega) (by omega) (by split <;> omega) (by by_cases e : 0 < r0 <;> simp [e]) ⟨?_, ?_, ?_, bp, bpq, ⟨?_, ?_, ?_, ?_⟩, ?_, dJ, ⟨?_, ?_, ?_, ?_, ?_, ?_, ?_, ?_, ?_⟩, ?_⟩ (fun Z e => KC Z (lx_X1_b1 (r := r0) hC1 tf (by rw [b17, va_up_s]) (by omega) (by rw [b17j 14 (by omega) (by omega)]; exact r0c) rfl hd e)) (fun J1' JJ P1 hM1 e1 => ?_)
  · rw [va_up_n _ _ (by omega), dq _ (by omega) (by omega) (by omega) (by omega) (by omega) (by omega) (by omega) (by omega) (by omega), bx]
  · rw [va_up_n _ _ (by omega), d1, bx1, bx_uu]
  · rw [va_up_n _ _ (by omega), dq _ (by omega) (by omega) (by omega) (by omega) (by omega) (by omega) (by omega) (by omega) (by omega)]; exact bo2
  · rw [va_up_n _ _ (by omega)]; exact d30
  · rw [va_up_n _ _ (by omega)]; exact d31
  · rw [va_up_n _ _ (by omega)]; exact d32
  · rw [va_up_n _ _ (by omega)]; rw [d29, va_up_s]
  · intro j hj; rw [va_up_n _ _ (by omega), d6]
  · rw [i17 7 (by omega), d17]; simp (disch := omega) only [va_up_s, va_up_n]
  · rw [i17 8 (by omega), d17]; simp (disch := omega) only [va_up_s, va_up_n]
  · rw [i17 12 (by omega), d17]; simp (disch := omega) only [va_up_n]; rw [b17, va_up_s]
  · rw [i17 13 (by omega), d17]; simp (disch := omega) only [va_up_s, va_up_n]
  · rw [va_up_s, va_up_s]
  · rw [i17 16 (by omega), d17]; simp (disch := omega) only [va_up_n]; rw [b17, va_up_n _ _ (by omega), va_up_s]
  · rw [i17 17 (by omega), d17]; simp (disch := omega) only [va_up_n]; exact b17j 17 (by omega) (by omega)
  · rw [i17 18 (by omega), d17]; simp (disch := omega) only [va_up_n]; exact b17j 18 (by omega) (by omega)
  · intro j hj
    rw [i17 j (by omega), d17]; simp (disch := omega) only [va_up_n]; exact b17j j (by omega) (by omega)
  · intro q q1 q2 q3 q4 q5
    rw [va_up_n _ _ q3, dq _ (by omega) (by omega) (by omega) (by omega) (by omega) (by omega) (by omega) (by omega) (by omega), bq q (by omega) (by omega) (by omega) (by omega) (by omega) (by omega)]
  · obtain ⟨v, Mb, ⟨m5, mi, m1, m2, m28, m29, m29', m30, m30', m39, mu⟩, ⟨o78, o79, o80⟩, mq, KE⟩ := KM J1' JJ P1 hM1 e1
    generalize hMm : va_up Mb (m + 42) (va_up (Mb (m + 42)) k (nI 0)) = Mm at *
    have am : ∀ q, q ≠ m + 42 → Mm q = Mb q := fun q hq => by rw [← hMm, va_up_n _ _ hq]
    have Mu : ∀ j, 3 ≤ j → j < 64 → j ≠ 28 → j ≠ 29 → j ≠ 30 → j ≠ 39 → j ≠ 42 → Mm (m + j) = I (m + j) := fun j j0 j1 j2 j3 j4 j5 j6 => by rw [am _ (by omega), mu j j0 j1 j2 j3 j4 j5]
    obtain ⟨M1, Jm, pl, ⟨e15, e15'⟩, ⟨e16, e16'⟩, e17, e54, eJ, e34, e43, ⟨e35, e35'⟩, ⟨e18, e18'⟩, e2, em, eq⟩ := cx_X12_plV (g := g) (B := B) (I := Mm) (J := JJ) (P := P1) (m := m) (c := k) (lb := nx) (n := nn) (R := r) (rt := bt 1 % 2) (t := 2) (F := F) (bt := bt) hM1 (by omega) (by rw [am _ (by omega)]; exact o78) (by omega) rn64 (by rw [if_pos rfl] at hbd; omega) (fun j hj => by rw [Mu 33 (by omega) (by omega) (by omega) (by omega) (by omega) (by omega) (by omega)]; exact rFm j hj) (fun j hj => by rw [Mu 33 (by omega) (by omega) (by omega) (by omega) (by omega) (by omega) (by omega), rFm j hj, hb]) hvo rfl (by rw [am _ (by omega)]; exact m5) (by omega)
    rw [Mu 15 (by omega) (by omega) (by omega) (by omega) (by omega) (by omega) (by omega), ← v30, hgH] at e15
    rw [Mu 15 (by omega) (by omega) (by omega) (by omega) (by omega) (by omega) (by omega)] at e15'
    rw [Mu 15 (by omega) (by omega) (by omega) (by omega) (by omega) (by omega) (by omega), Mu 16 (by omega) (by omega) (by omega) (by omega) (by omega) (by omega) (by omega), Mu 54 (by omega) (by omega) (by omega) (by omega) (by omega) (by omega) (by omega), ← v30, ← v31] at e16 e54 eJ
    rw [Mu 16 (by omega) (by omega) (by omega) (by omega) (by omega) (by omega) (by omega)] at e16'
    rw [Mu 17 (by omega) (by omega) (by omega) (by omega) (by omega) (by omega) (by omega)] at e17
    rw [Mu 18 (by omega) (by omega) (by omega) (by omega) (by omega) (by omega) (by omega)] at e18'
    rw [Mu 35 (by omega) (by omega) (by omega) (by omega) (by omega) (by omega) (by omega)] at e35'
    obtain ⟨y1, y2, y3⟩ := gV_Y (ix := dcX bt) (Es := dcEs bt (40 * (bt 1 % 2 + 1))) (Ts := dcTs bt (40 * (bt 1 % 2 + 1))) (sb := 40 * (bt 1 % 2 + 1)) (H0 := I (o k + 30)) (V := I (o k + 31)) (Y := I (x + 6)) (Y' := I (m + 54)) (t := 0) 4
    rw [hgV] at y1 y2 y3
    rw [← y1] at e16
    rw [← y2] at eJ
    have e54 : ∀ j, j < 160 * (bt 1 % 2 + 1) → M1 (m + 54) j = gv.2.1 j := fun j hj => by rw [e54]; exact (y3 j (by omega)).symm
    have K253 := fun (Z : mm_Z) => lx_X12_b1 (g := g) (B := B) (I := Mb) (J := JJ) (P := P1) (m := m) (c := k) (nx := nx) (r := r0) (rn := if 0 < r0 then 1 else 0) (v := v) (Z := Z) hM1 (by omega) (by omega) (by rw [mu 37 (by omega) (by omega) (by omega) (by omega) (by omega) (by omega)]; exact r0m) rfl (by rw [hMm]; exact pl)
    have a1 : ∀ q, q ≠ m + 37 → va_up M1 (m + 37) (va_up (M1 (m + 37)) k (nI 0)) q = M1 q := fun q q1 => va_up_n _ _ q1
    have R37 : M1 (m + 37) = I (m + 37) := by rw [eq _ (by omega) (by omega) (by omega) (by omega) (by omega) (by omega) (by omega) (by omega) (by omega) (by omega), Mu 37 (by omega) (by omega) (by omega) (by omega) (by omega) (by omega) (by omega)]
    refine ⟨v, _, Jm, ⟨?_, ?_, ⟨?_, ?_, ?_, ?_, ?_⟩, ⟨⟨?_, ?_⟩, ⟨?_, ?_⟩, ⟨?_, ?_⟩, ⟨?_, ?_⟩⟩, ?_, ?_, ⟨?_, ?_, ?_, ?_, ?_, ?_, ?_, ?_⟩, ?_, ?_, ?_⟩, ?_, ?_, fun Z e => KE Z (K253 Z e)⟩
    · rw [a1 _ (by omega), em, va_up_s]
    · intro i i1 i2
      rw [a1 _ (by omega), em, va_up_n _ _ i1, am _ (by omega), mi i i1 i2]
    · rw [a1 _ (by omega), eq _ (by omega) (by omega) (by omega) (by omega) (by omega) (by omega) (by omega) (by omega) (by omega) (by omega), am _ (by omega), m28]
    · intro i hi; rw [a1 _ (by omega), eq _ (by omega) (by omega) (by omega) (by omega) (by omega) (by omega) (by omega) (by omega) (by omega) (by omega), am _ (by omega)]; exact m29 i hi
    · intro i hi; rw [a1 _ (by omega), eq _ (by omega) (by omega) (by omega) (by omega) (by omega) (by omega) (by omega) (by omega) (by omega) (by omega), am _ (by omega)]; exact m29' i hi
    · intro i hi; rw [a1 _ (by omega), eq _ (by omega) (by omega) (by omega) (by omega) (by omega) (by omega) (by omega) (by omega) (by omega) (by omega), am _ (by omega)]; exact m30 i hi
    · intro i hi; rw [a1 _ (by omega), eq _ (by omega) (by omega) (by omega) (by omega) (by omega) (by omega) (by omega) (by omega) (by omega) (by omega), am _ (by omega)]; exact m30' i hi
    · rw [a1 _ (by omega)]; exact e15
    · intro j hj; rw [a1 _ (by omega)]; exact e15' j hj
    · rw [a1 _ (by omega)]; exact e16
    · intro j hj; rw [a1 _ (by omega)]; exact e16' j hj
    · rw [a1 _ (by omega), e17]; exact sg_sgp (fun j hj => by unfold dcX sgp; rw [if_neg (by omega)])
    · intro j hj; rw [a1 _ (by omega), e17, sgp_out hj]
    · rw [a1 _ (by omega)]; exact e18
    · intro j hj; rw [a1 _ (by omega)]; exact e18' j hj
    · intro j hj; rw [a1 _ (by omega)]; exact e54 j hj
    · exact eJ
    · rw [a1 _ (by omega), e34, va_up_s]
    · rw [a1 _ (by omega)]; exact e35
    · rw [a1 _ (by omega), eq _ (by omega) (by omega) (by omega) (by omega) (by omega) (by omega) (by omega) (by omega) (by omega) (by omega), ← hMm, va_up_s, va_up_s]
    · rw [a1 _ (by omega), e43, va_up_s]
    · rw [va_up_s, va_up_s]
    · rw [a1 _ (by omega), eq _ (by omega) (by omega) (by omega) (by omega) (by omega) (by omega) (by omega) (by omega) (by omega) (by omega), am _ (by omega), m39, va_up_s]
    · rw [a1 _ (by omega), eq _ (by omega) (by omega) (by omega) (by omega) (by omega) (by omega) (by omega) (by omega) (by omega) (by omega), Mu 40 (by omega) (by omega) (by omega) (by omega) (by omega) (by omega) (by omega)]; exact q17.symm
    · rw [a1 _ (by omega), eq _ (by omega) (by omega) (by omega) (by omega) (by omega) (by omega) (by omega) (by omega) (by omega) (by omega), Mu 41 (by omega) (by omega) (by omega) (by omega) (by omega) (by omega) (by omega)]; exact q18.symm
    · intro r j hr hj
      rcases (show r = 34 ∨ r = 35 ∨ r = 37 ∨ r = 39 ∨ r = 40 ∨ r = 41 ∨ r = 42 ∨ r = 43 by omega) with rfl | rfl | rfl | rfl | rfl | rfl | rfl | rfl
      · rw [a1 _ (by omega), e34, va_up_n _ _ hj, Mu 34 (by omega) (by omega) (by omega) (by omega) (by omega) (by omega) (by omega)]
      · rw [a1 _ (by omega)]; exact e35' j hj
      · rw [va_up_s, va_up_n _ _ hj, R37]
      · rw [a1 _ (by omega), eq _ (by omega) (by omega) (by omega) (by omega) (by omega) (by omega) (by omega) (by omega) (by omega) (by omega), am _ (by omega), m39, va_up_n _ _ hj]
      · rw [a1 _ (by omega), eq _ (by omega) (by omega) (by omega) (by omega) (by omega) (by omega) (by omega) (by omega) (by omega) (by omega), Mu 40 (by omega) (by omega) (by omega) (by omega) (by omega) (by omega) (by omega)]
      · rw [a1 _ (by omega), eq _ (by omega) (by omega) (by omega) (by omega) (by omega) (by omega) (by omega) (by omega) (by omega) (by omega), Mu 41 (by omega) (by omega) (by omega) (by omega) (by omega) (by omega) (by omega)]
      · rw [a1 _ (by omega), eq _ (by omega) (by omega) (by omega) (by omega) (by omega) (by omega) (by omega) (by omega) (by omega) (by omega), ← hMm, va_up_s, va_up_n _ _ hj, mu 42 (by omega) (by omega) (by omega) (by omega) (by omega) (by omega)]
      · rw [a1 _ (by omega), e43, va_up_n _ _ hj, Mu 43 (by omega) (by omega) (by omega) (by omega) (by omega) (by omega) (by omega)]
    · intro j hj
      rw [a1 _ (by omega), eq _ (by omega) (by omega) (by omega) (by omega) (by omega) (by omega) (by omega) (by omega) (by omega) (by omega), Mu j (by omega) (by omega) (by omega) (by omega) (by omega) (by omega) (by omega)]
    · intro q hq
      rw [a1 _ (by omega), eq _ (by omega) (by omega) (by omega) (by omega) (by omega) (by omega) (by omega) (by omega) (by omega) (by omega), am _ (by omega), mq q hq]
    · intro i hi
      rw [va_up_n _ _ (by omega), dq _ (by omega) (by omega) (by omega) (by omega) (by omega) (by omega) (by omega) (by omega) (by omega), a1 _ (by omega), eq _ (by omega) (by omega) (by omega) (by omega) (by omega) (by omega) (by omega) (by omega) (by omega) (by omega), am _ (by omega), bx2, m1]
      exact (RG_j h).2 i hi
    · intro i hi
      rw [va_up_n _ _ (by omega), d3, a1 _ (by omega), e2, am _ (by omega), bx3, m2]
      unfold mkB mk2
      rw [if_neg (by omega), if_neg (by omega)]
      rcases (show i = 0 ∨ i = 1 ∨ i = 2 by omega) with rfl | rfl | rfl <;> simp (disch := omega) only [va_up_s, va_up_n]
theorem dec_PS (h : RC g B I J P x m n R K o fl φ ρ) (hk : k < n) (hK : K < 600) (hR : R ≤ K) (l1 : L ≤ 250) (l2 : I (o k + 2) 1 = nI L) (l3 : I (m + 28) k = nI L) (nx1 : nx < 65536) (nx2 : I (o k + 17) 9 = nI nx) (nx3 : I (m + 36) k = nI nx) (nu1 : nu < 65536) (nu2 : I (o k + 4) 16 = nI nu) (hgo : ¬ (L = 0 ∧ nx = nu)) (sok : sl_ok L (n2, s2))
    (hr0 : r0 ≤ K) (r0c : I (o k + 17) 14 = nI r0) (r0m : I (m + 37) k = nI r0) (q17 : I (o k + 17) 17 = I (m + 40) k) (q18 : I (o k + 17) 18 = I (m + 41) k)
    (db : DBc x (o k) n2 0 2 (φ k) s2 lt I Ib P Pb) (tf : mm_T B f = 104) (f3 : f ≠ o k + 3) (op : OPr B I P m R ρ f r nn F) (hvo : sp_vo F = 0)
    (KC : ∀ Z : mm_Z, Ev g mX1_decodeNext 54 [some (.ref (o k + 17)), some (.ref (o k + 2)), some (.ref f), none, none] [] B Ib J Pb Z → Ct g mX1_decodeNext [.ref (o k + 17), .ref (o k + 2)] B (vz I x) J P Z)
    (KM : ∀ (I1 : mm_TI) (J1 : mm_TJ) (P1 : mm_TP), lyM B P1 m → (∀ j, j < 64 → I1 (m + j) = I (m + j)) → ∃ (v : Int32) (Mb : mm_TI), DBm m k n2 0 2 s2 lt I Mb ∧ (Mb m 78 = nI r ∧ Mb m 79 = F 2 ∧ Mb m 80 = F 5) ∧ (∀ q, q < m ∨ m + 64 ≤ q → Mb q = I1 q) ∧ ∀ Z : mm_Z, Ev g mX12_decode 176 [some (.ref m), some (.int (nI k)), some (.int (nI nx)), some (.int (nI 0)), some (.int v), none, none, none] [] B Mb J1 P1 Z → Ct g mX12_decode [.ref m, .int (nI k)] B I1 J1 P1 Z) : JR g mX11_decode mX12_decode [.int (nI k)] K x m B I J P := by
  obtain ⟨hV, hM, hG, hc, hgx⟩ := RG_ly h
  obtain ⟨xm, mn⟩ := RC_xm h
  have n8 := (RG_n h).1
  have hv := RC_v h hk
  have mo := hv.1.2.1
  have no := hv.1.2.2.1
  have hC := hv.1.1
  obtain ⟨vm1, vm2, vm3, vm4, L0, vm5, vm6, vm7, vm8⟩ := hv.2.2.2.2.2.2.1
  have v30 : I (o k + 30) = sg (I (m + 15)) (160 * (2 * k + 1)) 160 := vm1
  have v31 : I (o k + 31) = sg (I (m + 16)) (8 * (2 * k + 1)) 8 := vm3
  have v32 : I (o k + 32) = sg (I (m + 17)) (8 * (2 * k + 1)) 8 := vm4
  obtain ⟨bx, bx1, bx2, bx3, bo2, b17, bp, bpq, bq⟩ := db
  obtain ⟨rR, rP, rT, rN, rn64, rF, rFm, rb8, rop⟩ := op
  have rho := RC_row h rR
  obtain ⟨n6, bd, mo', hF2, hF5, hbn, hbd⟩ := sp_op_0 rn64 rb8 rop
  rw [hvo] at hbd
  have tg : ∀ j, j < 33 → mm_T B (o k + j) ≠ 201 := fun j hj => (VC_tg hv hj).2.1
  have rq : ρ r < o k ∨ o k + 33 ≤ ρ r := by
    by_cases c : ρ r < o k
    · exact Or.inl c
    · by_cases d : o k + 33 ≤ ρ r
      · exact Or.inr d
      · have t := tg (ρ r - o k) (by omega)
        rw [show o k + (ρ r - o k) = ρ r by omega] at t
        exact absurd rT t
  have ib : Ib (ρ r) = I (ρ r) := bq _ (by omega) (by omega) (by omega) (by omega) (by omega) (by omega)
  have i30 : Ib (o k + 30) = I (o k + 30) := bq _ (by omega) (by omega) (by omega) (by omega) (by omega) (by omega)
  have i31 : Ib (o k + 31) = I (o k + 31) := bq _ (by omega) (by omega) (by omega) (by omega) (by omega) (by omega)
  have i32 : Ib (o k + 32) = I (o k + 32) := bq _ (by omega) (by omega) (by omega) (by omega) (by omega) (by omega)
  have i6 : Ib (x + 6) = I (x + 6) := bq _ (by omega) (by omega) (by omega) (by omega) (by omega) (by omega)
  have hV1 : lyV B Pb x := lyV_ext hV (Ext_rf B) (fun q q1 q2 => bpq q (by omega))
  have hC1 : lyC B Pb x (o k) := lyC_p3 hC bpq
  have hrt : ub (F 1) % 2 ≤ 1 := by omega
  have b17j : ∀ j, j ≠ 12 → j ≠ 16 → Ib (o k + 17) j = I (o k + 17) j := fun j j1 j2 => by rw [b17, va_up_n _ _ j1, va_up_n _ _ j2]
  obtain ⟨I1, J1, hd, d30, d31, d32, d6, dJ, d17, d3, d1, dq⟩ := cx_X1_dfS (g := g) (B := B) (I := Ib) (J := J) (P := Pb) (x := x) (o := o k) (f := f) (q := ρ r) (n := nn) (t := 2) (rt := ub (F 1) % 2) (nx := nx) (F := F) (bt := fun j => ub (F j)) hV1 hC1 (by omega) tf rT rN rn64 (by rw [if_neg (by omega)] at hbd; omega) (by rw [bpq _ f3]; exact rP) (fun j hj => by rw [ib]; exact rF j hj) (fun j hj => by rw [ib, rF j hj]) ⟨by omega, rq⟩ hvo rfl (by rw [bx1, va_up_s]) (by omega) (by rw [b17j 9 (by omega) (by omega)]; exact nx2) nx1
    (by rw [i30, v30]; exact sg_z) (by rw [i31, v31]; exact sg_z) (by rw [i32, v32]; exact sg_z)
  rw [i30, i31, i6] at d30 d31 d6 dJ
  obtain ⟨bt, hbt⟩ : ∃ bt : Nat → Nat, (fun j => ub (F j)) = bt := ⟨_, rfl⟩
  have hb : ∀ j, ub (F j) = bt j := fun j => by rw [← hbt]
  simp only [hb] at d30 d31 d32 d6 dJ d17 hrt ⊢
  generalize hpk : nI (256 * bt 6 + bt 7) = pk at *
  generalize hgV : sp_hu (fun _ => 0) pk nx (40 * (bt 1 % 2 + 1)) (I (o k + 30), I (o k + 31), I (x + 6), 0) 4 = gv at *
  have hHr : ∀ j, j < 160 → r16 (gv.1 j) := by rw [← hgV]; exact sp_hu_r (by omega) (fun j hj => vm2 j hj) 4
  have hYr : ∀ j, j < 160 * (bt 1 % 2 + 1) → r16 (gv.2.2.1 j) := fun j hj => by rw [← hgV]; exact sp_hu_yr 4 j (by omega)
  have i17 : ∀ j, j ≠ 14 → va_up I1 (o k + 17) (va_up (I1 (o k + 17)) 14 (nI 0)) (o k + 17) j = I1 (o k + 17) j := fun j j1 => by rw [va_up_s, va_up_n _ _ j1]
  refine dec_D (n2 := n2) (w := 0) (t := 3) (rt := bt 1 % 2) (LL := L0) (jo := if 0 < r0 then 1 else 0) (rn := if 0 < r0 then 1 else 0) (r1 := 0) (s2 := s2) (H := gv.1) (V := gv.2.1) (X := fun _ => 0) (Y := gv.2.2.1) (ga := nI 0) (wy := nI 1) (lt := lt) (q17 := I (o k + 17) 17) (q18 := I (o k + 17) 18) (T := gv.2.2.2) (Pc := Pb) h hk hK hR l1 l2 l3 nx1 nx2 nx3 nu1 nu2 hgo sok hrt (by omega) vm5 vm6 hHr hYr (by decide) (by omega) (by omega) (by split <;> omega) (by by_cases e : 0 < r0 <;> simp [e]) ⟨?_, ?_, ?_, bp, bpq, ⟨?_, ?_, ?_, ?_⟩, ?_, dJ, ⟨?_, ?_, ?_, ?_, ?_, ?_, ?_, ?_, ?_⟩, ?_⟩ (fun Z e => KC Z (lx_X1_b1 (r := r0) hC1 tf (by rw [b17, va_up_s]) (by omega) (by rw [b17j 14 (by omega) (by omega)]; exact r0c) rfl hd e)) (fun J1' JJ P1 hM1 e1 => ?_)
  · rw [va_up_n _ _ (by omega), dq _ (by omega) (by omega) (by omega) (by omega) (by omega) (by omega) (by omega) (by omega), bx]
  · rw [va_up_n _ _ (by omega), d1, bx1, bx_uu]
  · rw [va_up_n _ _ (by omega), dq _ (by omega) (by omega) (by omega) (by omega) (by omega) (by omega) (by omega) (by omega)]; exact bo2
  · rw [va_up_n _ _ (by omega)]; exact d30
  · rw [va_up_n _ _ (by omega)]; exact d31
  · rw [va_up_n _ _ (by omega)]; exact d32
  · rw [va_up_n _ _ (by omega)]; rw [dq _ (by omega) (by omega) (by omega) (by omega) (by omega) (by omega) (by omega) (by omega), bq _ (by omega) (by omega) (by omega) (by omega) (by omega) (by omega)]; exact vm7
  · intro j hj; rw [va_up_n _ _ (by omega), d6]
  · rw [i17 7 (by omega), d17]; simp (disch := omega) only [va_up_s, va_up_n]
  · rw [i17 8 (by omega), d17]; simp (disch := omega) only [va_up_s, va_up_n]
  · rw [i17 12 (by omega), d17]; simp (disch := omega) only [va_up_n]; rw [b17, va_up_s]
  · rw [i17 13 (by omega), d17]; simp (disch := omega) only [va_up_s, va_up_n]
  · rw [va_up_s, va_up_s]
  · rw [i17 16 (by omega), d17]; simp (disch := omega) only [va_up_n]; rw [b17, va_up_n _ _ (by omega), va_up_s]
  · rw [i17 17 (by omega), d17]; simp (disch := omega) only [va_up_n]; exact b17j 17 (by omega) (by omega)
  · rw [i17 18 (by omega), d17]; simp (disch := omega) only [va_up_n]; exact b17j 18 (by omega) (by omega)
  · intro j hj
    rw [i17 j (by omega), d17]; simp (disch := omega) only [va_up_n]; exact b17j j (by omega) (by omega)
  · intro q q1 q2 q3 q4 q5
    rw [va_up_n _ _ q3, dq _ (by omega) (by omega) (by omega) (by omega) (by omega) (by omega) (by omega) (by omega), bq q (by omega) (by omega) (by omega) (by omega) (by omega) (by omega)]
  · obtain ⟨v, Mb, ⟨m5, mi, m1, m2, m28, m29, m29', m30, m30', m39, mu⟩, ⟨o78, o79, o80⟩, mq, KE⟩ := KM J1' JJ P1 hM1 e1
    generalize hMm : va_up Mb (m + 42) (va_up (Mb (m + 42)) k (nI 0)) = Mm at *
    have am : ∀ q, q ≠ m + 42 → Mm q = Mb q := fun q hq => by rw [← hMm, va_up_n _ _ hq]
    have Mu : ∀ j, 3 ≤ j → j < 64 → j ≠ 28 → j ≠ 29 → j ≠ 30 → j ≠ 39 → j ≠ 42 → Mm (m + j) = I (m + j) := fun j j0 j1 j2 j3 j4 j5 j6 => by rw [am _ (by omega), mu j j0 j1 j2 j3 j4 j5]
    obtain ⟨M1, Jm, pl, e15, e16, e17, e54, eJ, e34, e43, e35, e2, em, eq⟩ := cx_X12_plS (g := g) (B := B) (I := Mm) (J := JJ) (P := P1) (m := m) (c := k) (lb := nx) (n := nn) (R := r) (rt := bt 1 % 2) (t := 2) (F := F) (bt := bt) hM1 (by omega) (by rw [am _ (by omega)]; exact o78) (by omega) rn64 (by rw [if_neg (by omega)] at hbd; omega) (fun j hj => by rw [Mu 33 (by omega) (by omega) (by omega) (by omega) (by omega) (by omega) (by omega)]; exact rFm j hj) (fun j hj => by rw [Mu 33 (by omega) (by omega) (by omega) (by omega) (by omega) (by omega) (by omega), rFm j hj, hb]) hvo rfl nx1 (by rw [am _ (by omega)]; exact m5) (by omega)
    rw [Mu 15 (by omega) (by omega) (by omega) (by omega) (by omega) (by omega) (by omega), Mu 16 (by omega) (by omega) (by omega) (by omega) (by omega) (by omega) (by omega), Mu 54 (by omega) (by omega) (by omega) (by omega) (by omega) (by omega) (by omega), ← v30, ← v31, hpk] at e15 e16
    rw [Mu 15 (by omega) (by omega) (by omega) (by omega) (by omega) (by omega) (by omega), Mu 16 (by omega) (by omega) (by omega) (by omega) (by omega) (by omega) (by omega), Mu 54 (by omega) (by omega) (by omega) (by omega) (by omega) (by omega) (by omega), ← v30, ← v31, hpk] at e54 eJ
    rw [Mu 17 (by omega) (by omega) (by omega) (by omega) (by omega) (by omega) (by omega)] at e17
    rw [Mu 35 (by omega) (by omega) (by omega) (by omega) (by omega) (by omega) (by omega)] at e35
    obtain ⟨y1, y2, y3, y4⟩ := sp_hu_Y (ix := fun _ => 0) (H := I (o k + 30)) (V := I (o k + 31)) (Y := I (x + 6)) (Y' := I (m + 54)) (pk := pk) (z := nx) (sb := 40 * (bt 1 % 2 + 1)) (t := 0) 4
    obtain ⟨z1, z2⟩ := sp_hu_z0 (ix := fun _ => 0) (H := I (o k + 30)) (V := I (o k + 31)) (Y := I (m + 54)) (pk := pk) (z := nx) (sb := 40 * (bt 1 % 2 + 1)) (t := 0) (by rw [v30]; exact sg_z) (by rw [v31]; exact sg_z) 4
    rw [hgV] at y1 y2 y3 y4
    rw [← y3] at eJ
    have e15' : ∀ j, j < 160 * (2 * k + 1) ∨ 160 * (2 * k + 1) + 160 ≤ j → M1 (m + 15) j = I (m + 15) j := fun j hj => by rw [e15, sgp_out hj]
    have e16' : ∀ j, j < 8 * (2 * k + 1) ∨ 8 * (2 * k + 1) + 8 ≤ j → M1 (m + 16) j = I (m + 16) j := fun j hj => by rw [e16, sgp_out hj]
    have e15 : sg (M1 (m + 15)) (160 * (2 * k + 1)) 160 = gv.1 := by rw [e15, sg_sgp z1]; exact y1.symm
    have e16 : sg (M1 (m + 16)) (8 * (2 * k + 1)) 8 = gv.2.1 := by rw [e16, sg_sgp z2]; exact y2.symm
    have e18' : ∀ j, j ≠ 2 * k + 1 → M1 (m + 18) j = I (m + 18) j := fun j hj => by rw [eq _ (by omega) (by omega) (by omega) (by omega) (by omega) (by omega) (by omega) (by omega) (by omega) (by omega), Mu 18 (by omega) (by omega) (by omega) (by omega) (by omega) (by omega) (by omega)]
    have e18 : M1 (m + 18) (2 * k + 1) = nI L0 := by rw [eq _ (by omega) (by omega) (by omega) (by omega) (by omega) (by omega) (by omega) (by omega) (by omega) (by omega), Mu 18 (by omega) (by omega) (by omega) (by omega) (by omega) (by omega) (by omega)]; exact vm8
    have e35' : ∀ j, j ≠ k → M1 (m + 35) j = I (m + 35) j := fun j hj => by rw [e35, va_up_n _ _ hj]
    have e35 : M1 (m + 35) k = nI 0 := by rw [e35, va_up_s]
    have e54 : ∀ j, j < 160 * (bt 1 % 2 + 1) → M1 (m + 54) j = gv.2.2.1 j := fun j hj => by rw [e54]; exact (y4 j (by omega)).symm
    have K253 := fun (Z : mm_Z) => lx_X12_b1 (g := g) (B := B) (I := Mb) (J := JJ) (P := P1) (m := m) (c := k) (nx := nx) (r := r0) (rn := if 0 < r0 then 1 else 0) (v := v) (Z := Z) hM1 (by omega) (by omega) (by rw [mu 37 (by omega) (by omega) (by omega) (by omega) (by omega) (by omega)]; exact r0m) rfl (by rw [hMm]; exact pl)
    have a1 : ∀ q, q ≠ m + 37 → va_up M1 (m + 37) (va_up (M1 (m + 37)) k (nI 0)) q = M1 q := fun q q1 => va_up_n _ _ q1
    have R37 : M1 (m + 37) = I (m + 37) := by rw [eq _ (by omega) (by omega) (by omega) (by omega) (by omega) (by omega) (by omega) (by omega) (by omega) (by omega), Mu 37 (by omega) (by omega) (by omega) (by omega) (by omega) (by omega) (by omega)]
    refine ⟨v, _, Jm, ⟨?_, ?_, ⟨?_, ?_, ?_, ?_, ?_⟩, ⟨⟨?_, ?_⟩, ⟨?_, ?_⟩, ⟨?_, ?_⟩, ⟨?_, ?_⟩⟩, ?_, ?_, ⟨?_, ?_, ?_, ?_, ?_, ?_, ?_, ?_⟩, ?_, ?_, ?_⟩, ?_, ?_, fun Z e => KE Z (K253 Z e)⟩
    · rw [a1 _ (by omega), em, va_up_s]
    · intro i i1 i2
      rw [a1 _ (by omega), em, va_up_n _ _ i1, am _ (by omega), mi i i1 i2]
    · rw [a1 _ (by omega), eq _ (by omega) (by omega) (by omega) (by omega) (by omega) (by omega) (by omega) (by omega) (by omega) (by omega), am _ (by omega), m28]
    · intro i hi; rw [a1 _ (by omega), eq _ (by omega) (by omega) (by omega) (by omega) (by omega) (by omega) (by omega) (by omega) (by omega) (by omega), am _ (by omega)]; exact m29 i hi
    · intro i hi; rw [a1 _ (by omega), eq _ (by omega) (by omega) (by omega) (by omega) (by omega) (by omega) (by omega) (by omega) (by omega) (by omega), am _ (by omega)]; exact m29' i hi
    · intro i hi; rw [a1 _ (by omega), eq _ (by omega) (by omega) (by omega) (by omega) (by omega) (by omega) (by omega) (by omega) (by omega) (by omega), am _ (by omega)]; exact m30 i hi
    · intro i hi; rw [a1 _ (by omega), eq _ (by omega) (by omega) (by omega) (by omega) (by omega) (by omega) (by omega) (by omega) (by omega) (by omega), am _ (by omega)]; exact m30' i hi
    · rw [a1 _ (by omega)]; exact e15
    · intro j hj; rw [a1 _ (by omega)]; exact e15' j hj
    · rw [a1 _ (by omega)]; exact e16
    · intro j hj; rw [a1 _ (by omega)]; exact e16' j hj
    · rw [a1 _ (by omega), e17]; exact sg_sgp (fun _ _ => rfl)
    · intro j hj; rw [a1 _ (by omega), e17, sgp_out hj]
    · rw [a1 _ (by omega)]; exact e18
    · intro j hj; rw [a1 _ (by omega)]; exact e18' j hj
    · intro j hj; rw [a1 _ (by omega)]; exact e54 j hj
    · exact eJ
    · rw [a1 _ (by omega), e34, va_up_s]
    · rw [a1 _ (by omega)]; exact e35
    · rw [a1 _ (by omega), eq _ (by omega) (by omega) (by omega) (by omega) (by omega) (by omega) (by omega) (by omega) (by omega) (by omega), ← hMm, va_up_s, va_up_s]
    · rw [a1 _ (by omega), e43, va_up_s]
    · rw [va_up_s, va_up_s]
    · rw [a1 _ (by omega), eq _ (by omega) (by omega) (by omega) (by omega) (by omega) (by omega) (by omega) (by omega) (by omega) (by omega), am _ (by omega), m39, va_up_s]
    · rw [a1 _ (by omega), eq _ (by omega) (by omega) (by omega) (by omega) (by omega) (by omega) (by omega) (by omega) (by omega) (by omega), Mu 40 (by omega) (by omega) (by omega) (by omega) (by omega) (by omega) (by omega)]; exact q17.symm
    · rw [a1 _ (by omega), eq _ (by omega) (by omega) (by omega) (by omega) (by omega) (by omega) (by omega) (by omega) (by omega) (by omega), Mu 41 (by omega) (by omega) (by omega) (by omega) (by omega) (by omega) (by omega)]; exact q18.symm
    · intro r j hr hj
      rcases (show r = 34 ∨ r = 35 ∨ r = 37 ∨ r = 39 ∨ r = 40 ∨ r = 41 ∨ r = 42 ∨ r = 43 by omega) with rfl | rfl | rfl | rfl | rfl | rfl | rfl | rfl
      · rw [a1 _ (by omega), e34, va_up_n _ _ hj, Mu 34 (by omega) (by omega) (by omega) (by omega) (by omega) (by omega) (by omega)]
      · rw [a1 _ (by omega)]; exact e35' j hj
      · rw [va_up_s, va_up_n _ _ hj, R37]
      · rw [a1 _ (by omega), eq _ (by omega) (by omega) (by omega) (by omega) (by omega) (by omega) (by omega) (by omega) (by omega) (by omega), am _ (by omega), m39, va_up_n _ _ hj]
      · rw [a1 _ (by omega), eq _ (by omega) (by omega) (by omega) (by omega) (by omega) (by omega) (by omega) (by omega) (by omega) (by omega), Mu 40 (by omega) (by omega) (by omega) (by omega) (by omega) (by omega) (by omega)]
      · rw [a1 _ (by omega), eq _ (by omega) (by omega) (by omega) (by omega) (by omega) (by omega) (by omega) (by omega) (by omega) (by omega), Mu 41 (by omega) (by omega) (by omega) (by omega) (by omega) (by omega) (by omega)]
      · rw [a1 _ (by omega), eq _ (by omega) (by omega) (by omega) (by omega) (by omega) (by omega) (by omega) (by omega) (by omega) (by omega), ← hMm, va_up_s, va_up_n _ _ hj, mu 42 (by omega) (by omega) (by omega) (by omega) (by omega) (by omega)]
      · rw [a1 _ (by omega), e43, va_up_n _ _ hj, Mu 43 (by omega) (by omega) (by omega) (by omega) (by omega) (by omega) (by omega)]
    · intro j hj
      rw [a1 _ (by omega), eq _ (by omega) (by omega) (by omega) (by omega) (by omega) (by omega) (by omega) (by omega) (by omega) (by omega), Mu j (by omega) (by omega) (by omega) (by omega) (by omega) (by omega) (by omega)]
    · intro q hq
      rw [a1 _ (by omega), eq _ (by omega) (by omega) (by omega) (by omega) (by omega) (by omega) (by omega) (by omega) (by omega) (by omega), am _ (by omega), mq q hq]
    · intro i hi
      rw [va_up_n _ _ (by omega), dq _ (by omega) (by omega) (by omega) (by omega) (by omega) (by omega) (by omega) (by omega), a1 _ (by omega), eq _ (by omega) (by omega) (by omega) (by omega) (by omega) (by omega) (by omega) (by omega) (by omega) (by omega), am _ (by omega), bx2, m1]
      exact (RG_j h).2 i hi
    · intro i hi
      rw [va_up_n _ _ (by omega), d3, a1 _ (by omega), e2, am _ (by omega), bx3, m2]
      unfold mkB mk2
      rw [if_neg (by omega), if_neg (by omega)]
      rcases (show i = 0 ∨ i = 1 ∨ i = 2 by omega) with rfl | rfl | rfl <;> simp (disch := omega) only [va_up_s, va_up_n]
end DX0
