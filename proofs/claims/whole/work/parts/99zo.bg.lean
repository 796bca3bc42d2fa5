/-! RC where one coder has worked: encode, decode -/
section BG0
variable {g : mm_G} {B B' : mm_B} {I I' : mm_TI} {J J' : mm_TJ} {P P' : mm_TP} {x m n R R' K k : Nat} {o : Nat → Nat} {fl φ : Nat → Nat → Nat} {ρ ρ' φ' : Nat → Nat}
theorem RC_big (h : RC g B I J P x m n R K o fl φ ρ) (hk : k < n) (hB : Ext B B') (hz : ∀ q, mm_nx B' ≤ q → mm_T B' q = 0)
    (hP : ∀ q, q < mm_nx B → q ≠ o k + 3 → P' q = P q)
    (hI : ∀ q, q < mm_nx B → q < x ∨ x + 22 ≤ q → q < m ∨ m + 64 ≤ q → q < o k ∨ o k + 33 ≤ q → (∀ i, i < 4 → q ≠ fl k i ∧ q ≠ fl k i + 1) → I' q = I q)
    (hJ : ∀ q, q < mm_nx B → q < x ∨ x + 22 ≤ q → q < m ∨ m + 64 ≤ q → q < o k ∨ o k + 33 ≤ q → (∀ i, i < 4 → q ≠ fl k i ∧ q ≠ fl k i + 1) → J' q = J q)
    (hst : I' x 9 = I' m 1) (hx : ∀ j, j = 4 ∨ j = 6 ∨ j = 8 → I' x j = I x j) (hm : ∀ j, j = 0 ∨ j = 7 ∨ j = 9 → I' m j = I m j)
    (hj : J' (x + 1) 3 = J' m 2) (hfi : ∀ i, i < 8 → I' (x + 2) i = I' (m + 1) i) (ht : RGt I' x m) (hzz : RGz I' J' x)
    (h20 : I' (x + 20) = I (x + 20)) (h21 : I' (x + 21) = I (x + 21)) (hm3 : I' (m + 3) = I (m + 3)) (hm4 : I' (m + 4) = I (m + 4))
    (hs : ∀ r j, 5 ≤ r → r ≤ 52 → r < 31 ∨ 33 < r → j < szM r * k ∨ szM r * k + szM r ≤ j → I' (m + r) j = I (m + r) j) (hsJ : ∀ j, j < 4 * k ∨ 4 * k + 4 ≤ j → J' (m + 23) j = J (m + 23) j ∧ J' (m + 24) j = J (m + 24) j)
    (hR : R ≤ R') (hρ : ∀ r, r < R → ρ' r = ρ r) (hr : RGr B' I' m R' ρ') (h32 : ∀ r, r < R → I' (m + 32) r = I (m + 32) r)
    (pw : VCw I' m (o k) k) (pe : VCe I' m (o k) k) (ps : VCs I' J' m (o k) k) (p1 : VCm I' m (o k + 13) (2 * k)) (pd : VCd I' m (o k) K k) (p2 : VCm I' m (o k + 29) (2 * k + 1)) (pf : VCf B' I' J' P' m (fl k) k)
    (hl : VCl B' I' P' m (o k) R' φ' ρ' k) (hfr : ∀ q, VCp I' m φ' k q → VCp I m (φ k) k q ∨ mm_nx B ≤ q) : RC g B' I' J' P' x m n R' K o fl (va_up φ k φ') ρ' := by
  obtain ⟨xm, mn⟩ := RC_xm h
  obtain ⟨hV, hM, -⟩ := RG_ly h
  have hv := RC_v h hk
  have mo := hv.1.2.1
  have no := hv.1.2.2.1
  have lo : ∀ q, q < m + 64 → P' q = P q := fun q hq => hP q (by omega) (by omega)
  have fn : ∀ i, i < 4 → m + 64 ≤ fl k i := fun i hi => (h.2.2.1.2.1 k i hk hi).1
  have il : ∀ q, q < x → I' q = I q := fun q hq => hI q (by omega) (by omega) (by omega) (by omega) (fun i hi => by have := fn i hi; omega)
  have fP : ∀ j, j < 33 → j ≠ 3 → P' (o k + j) = P (o k + j) := fun j hj h2 => hP _ (by omega) (by omega)
  have hC : lyC B' P' x (o k) := by
    refine lyC_ext (P := va_up P (o k + 3) (P' (o k + 3))) (lyC_P3 hv.1.1) hB.1 (fun q q1 q2 => ?_)
    by_cases e : q = o k + 3
    · rw [e, va_up_s]
    · rw [va_up_n _ _ e]; exact hP q (by omega) e
  refine RC_go (fl' := fl) (o' := o) h k hB.1 hB.2.1 (RCg_mk h hB hz (lyV_ext hV hB (fun q q1 q2 => lo q (by omega))) (lyM_ext hM hB (fun q q1 q2 => lo q (by omega))) il ?_ ⟨hj, hfi⟩ ht (RGp_cg (RG_p h) (hx 6 (by omega)) (hm 7 (by omega)) h20 hm3) (RGb_cg (RG_b h) (hx 8 (by omega)) (hm 9 (by omega)) h21 hm4) hzz hr)
    hst hR hρ h32 (fun d d1 d2 => ⟨d1, rfl, rfl, va_up_n _ _ d2⟩) h.2.2.1 (fun q ho => ?_) (fun d _ _ => by rw [lo (x + 19) (by omega)]) (fun d r j d1 d2 r1 r2 r3 j1 j2 => hs r j r1 r2 r3 ?_) (fun d j d1 d2 j1 j2 => hsJ j (by omega)) (fun _ => ?_) (fun q _ hq => ?_)
  · obtain ⟨n1, n2, n3⟩ := RG_n h
    exact ⟨n1, by rw [hx 4 (by omega)]; exact n2, by rw [hm 0 (by omega)]; exact n3⟩
  · have h1 : ¬ (x ≤ q ∧ q < x + 22) := fun e => ho (Or.inl e)
    have h2 : ¬ (m ≤ q ∧ q < m + 64) := fun e => ho (Or.inr (Or.inl e))
    have h3 : ¬ (o k ≤ q ∧ q < o k + 33) := fun e => ho (Or.inr (Or.inr (Or.inl ⟨hk, Or.inl (Or.inl e)⟩)))
    have h4 : ∀ i, i < 4 → q ≠ fl k i ∧ q ≠ fl k i + 1 := fun i hi => ⟨fun e => ho (Or.inr (Or.inr (Or.inl ⟨hk, Or.inl (Or.inr ⟨i, hi, Or.inl e⟩)⟩))), fun e => ho (Or.inr (Or.inr (Or.inl ⟨hk, Or.inl (Or.inr ⟨i, hi, Or.inr e⟩)⟩)))⟩
    have h6 : ¬ mm_nx B ≤ q := fun e => ho (Or.inr (Or.inr (Or.inr (Or.inr e))))
    exact ⟨hI q (by omega) (by omega) (by omega) (by omega) h4, hJ q (by omega) (by omega) (by omega) (by omega) h4, hP q (by omega) (by omega)⟩
  · rcases Nat.lt_or_ge d k with e | e
    · have := Nat.mul_le_mul_left (szM r) (show d + 1 ≤ k by omega)
      rw [Nat.mul_add, Nat.mul_one] at this; omega
    · have := Nat.mul_le_mul_left (szM r) (show k + 1 ≤ d by omega)
      rw [Nat.mul_add, Nat.mul_one] at this; omega
  · rw [va_up_s]
    refine ⟨⟨hC, mo, by have := hB.2.1; omega, by rw [lo (x + 19) (by omega)]; exact hv.1.2.2.2.1, fun i hi => by rw [fP 6 (by omega) (by omega)]; exact hv.1.2.2.2.2.1 i hi, fun i hi => by rw [fP 19 (by omega) (by omega)]; exact hv.1.2.2.2.2.2.1 i hi, fun i hi => ?_⟩, pw, pe, ps, p1, pd, p2, pf, hl⟩
    obtain ⟨t1, t2⟩ := hv.1.2.2.2.2.2.2 i hi
    rw [(hB.1 _ (by omega)).1, (hB.1 _ (by omega)).1]; exact ⟨t1, t2⟩
  · rw [va_up_s] at hq
    rcases hfr q hq with e | e
    · exact Or.inl ⟨hk, e⟩
    · exact Or.inr e
/-- a path that was not touched -/
theorem VCf_cg (h : RC g B I J P x m n R K o fl φ ρ) (hk : k < n) (hB : Ext B B') (hI : ∀ i, i < 4 → I' (fl k i) = I (fl k i) ∧ I' (fl k i + 1) = I (fl k i + 1) ∧ J' (fl k i) = J (fl k i) ∧ P' (fl k i) = P (fl k i)) (hM : ∀ r, 48 ≤ r → r ≤ 52 → I' (m + r) = I (m + r)) : VCf B' I' J' P' m (fl k) k := fun i hi => by
  obtain ⟨a, z, c0, g0, F, f1, f2⟩ := (RC_f h hk) i hi
  obtain ⟨e1, e2, e4, e3⟩ := hI i hi
  refine ⟨a, z, c0, g0, F, ?_, ?_⟩
  · obtain ⟨s1, s2, s3, s4, s5, s6, s7, s8, s9⟩ := f1
    exact ⟨by rw [(hB.1 _ (by omega)).1]; exact s1, by rw [e3]; exact s2, by rw [(hB.1 _ (by omega)).1]; exact s3, s4, by rw [e1]; exact s5, fun e => ⟨by rw [(hB.1 _ (by omega)).2]; exact (s6 e).1, by rw [e2]; exact (s6 e).2⟩, by rw [e4]; exact s7, by rw [e1]; exact s8, by rw [e1]; exact s9⟩
  · unfold FSm at f2 ⊢
    rw [hM 48 (by omega) (by omega), hM 49 (by omega) (by omega), hM 50 (by omega) (by omega), hM 51 (by omega) (by omega), hM 52 (by omega) (by omega)]; exact f2
end BG0
/-! ENCODE: the class's call -/
section EC0
variable {g : mm_G} {B : mm_B} {I : mm_TI} {J : mm_TJ} {P : mm_TP} {x m o n k L : Nat} {φ : Nat → Nat}
theorem cx_take {N w : Nat} (hV : lyV B P x) (hC : lyC B P x o) (hxo : x + 22 ≤ o) (hw : I o 1 = nI w) (h6 : w ≤ 640) (hN : N ≤ w) (hN3 : N ≤ 320) :
    ∃ I' : mm_TI, (∀ i, i < N → I' (x + 5) i = I (o + 1) i) ∧ I' o = va_up (I o) 1 (nI (w - N)) ∧ (∀ i, i < w - N → I' (o + 1) i = I (o + 1) (N + i)) ∧ (∀ q, q ≠ x + 5 → q ≠ o → q ≠ o + 1 → I' q = I q) ∧ Ct g mX0_takeWaiting [.ref o, .int (nI N), .ref (x + 5)] B I J P (none, B, I', J, P) := by
  generalize hIa : va_up I (x + 5) (va_cpy (I (o + 1)) (I (x + 5)) 0 0 N) = Ia
  have ga : ∀ q, q ≠ x + 5 → Ia q = I q := fun q hq => by rw [← hIa, va_up_n _ _ hq]
  generalize hIb : va_up Ia o (va_up (Ia o) 1 (nI (w - N))) = Ib
  have gb : ∀ q, q ≠ o → Ib q = Ia q := fun q hq => by rw [← hIb, va_up_n _ _ hq]
  refine ⟨va_up Ib (o + 1) (va_cpy (Ib (o + 1)) (Ib (o + 1)) N 0 (w - N)), fun i hi => ?_, ?_, fun i hi => ?_, fun q q1 q2 q3 => ?_, ?_⟩
  · rw [va_up_n _ _ (by omega), gb _ (by omega), ← hIa, va_up_s, pk_cpy_in (by omega) (by omega)]; congr 1; omega
  · rw [va_up_n _ _ (by omega), ← hIb, va_up_s, ga _ (by omega)]
  · rw [va_up_s, pk_cpy_in (by omega) (by omega), gb _ (by omega), ga _ (by omega)]; congr 1
  · rw [va_up_n _ _ q3, gb _ q2, ga _ q1]
  · have w1 : Ia o 1 = nI w := by rw [ga _ (by omega)]; exact hw
    have w2 : Ib o 1 = nI (w - N) := by rw [← hIb, va_up_s, va_up_s]
    refine ct_of (lv := [some (.ref o), some (.int (nI N)), some (.ref (x + 5))]) (by decide +kernel) (Nat.le_of_ble_eq_true rfl) rfl ?_
    refine ev_iload_n 1 dX0_takeWaiting_0 rfl rfl ?_
    refine ev_aload_n 2 dX0_takeWaiting_1 rfl rfl ?_
    refine ev_getI 5 mm_cl0 (j := 1) (Nat.le_of_ble_eq_true rfl) dX0_takeWaiting_2 lk544 (fun _ _ _ => rfl) (hC.1 0 _ rfl) rfl ?_
    refine ev_eqI (y := nI (w)) (hw) ?_
    refine ev_icmp_gtN 8 14 dX0_takeWaiting_5 (by decide) (by omega) (by omega) rfl (fun hx => absurd hx ((by omega))) (fun hbr => ?_)
    refine ev_iload_n 9 dX0_takeWaiting_8 rfl rfl ?_
    refine ev_aload_n 10 dX0_takeWaiting_9 rfl rfl ?_
    refine ev_alen 11 0 dX0_takeWaiting_10 (hV.1 5 _ rfl) rfl ?_
    refine ev_eqI (y := nI 320) (by rw [hV.2.1 5 _ rfl]) ?_
    refine ev_icmp_leN 14 15 dX0_takeWaiting_11 (by decide) (by omega) (by omega) rfl (fun hbr => ?_) (fun hx => absurd ((by omega)) hx)
    refine ev_aload_n 16 dX0_takeWaiting_15 rfl rfl ?_
    refine ev_getP 19 mm_cl0 (j := 0) (Nat.le_of_ble_eq_true rfl) dX0_takeWaiting_16 lk543 (fun _ _ _ => rfl) (hC.1 0 _ rfl) (a := (o + 1)) (hC.2.2.1 0 _ _ _ rfl) rfl ?_
    refine ev_iconstN 20 0 dX0_takeWaiting_19 rfl ?_
    refine ev_aload_n 21 dX0_takeWaiting_20 rfl rfl ?_
    refine ev_iconstN 22 0 dX0_takeWaiting_21 rfl ?_
    refine ev_iload_n 23 dX0_takeWaiting_22 rfl rfl ?_
    refine ev_copyI 26 (0) (0) (N) 0 dX0_takeWaiting_23 lk648 lk650 lk649 lk88 (by decide) (hC.1 1 _ rfl) (hV.1 5 _ rfl) rfl rfl rfl (by have hNN := hC.2.1 1 _ rfl; have hNM := hV.2.1 5 _ rfl; omega) (by have hNN := hC.2.1 1 _ rfl; have hNM := hV.2.1 5 _ rfl; omega) (fun _ _ => rfl) (Nat.le_of_ble_eq_true rfl) (Nat.le_of_ble_eq_true rfl) (Nat.le_of_ble_eq_true rfl) rfl ?_
    rw [hIa]
    refine ev_aload_n 27 dX0_takeWaiting_26 rfl rfl ?_
    refine ev_dup 28 dX0_takeWaiting_27 rfl rfl ?_
    refine ev_getI 31 mm_cl0 (j := 1) (Nat.le_of_ble_eq_true rfl) dX0_takeWaiting_28 lk544 (fun _ _ _ => rfl) (hC.1 0 _ rfl) rfl ?_
    refine ev_eqI (y := nI (w)) (w1) ?_
    refine ev_iload_n 32 dX0_takeWaiting_31 rfl rfl ?_
    refine ev_isubN 33 dX0_takeWaiting_32 (by omega) rfl ?_
    refine ev_putI 36 mm_cl0 (j := 1) (Nat.le_of_ble_eq_true rfl) dX0_takeWaiting_33 lk544 rfl (fun _ _ _ => rfl) rfl rfl (hC.1 0 _ rfl) rfl ?_
    rw [hIb]
    refine ev_aload_n 37 dX0_takeWaiting_36 rfl rfl ?_
    refine ev_getP 40 mm_cl0 (j := 0) (Nat.le_of_ble_eq_true rfl) dX0_takeWaiting_37 lk543 (fun _ _ _ => rfl) (hC.1 0 _ rfl) (a := (o + 1)) (hC.2.2.1 0 _ _ _ rfl) rfl ?_
    refine ev_iload_n 41 dX0_takeWaiting_40 rfl rfl ?_
    refine ev_aload_n 42 dX0_takeWaiting_41 rfl rfl ?_
    refine ev_getP 45 mm_cl0 (j := 0) (Nat.le_of_ble_eq_true rfl) dX0_takeWaiting_42 lk543 (fun _ _ _ => rfl) (hC.1 0 _ rfl) (a := (o + 1)) (hC.2.2.1 0 _ _ _ rfl) rfl ?_
    refine ev_iconstN 46 0 dX0_takeWaiting_45 rfl ?_
    refine ev_aload_n 47 dX0_takeWaiting_46 rfl rfl ?_
    refine ev_getI 50 mm_cl0 (j := 1) (Nat.le_of_ble_eq_true rfl) dX0_takeWaiting_47 lk544 (fun _ _ _ => rfl) (hC.1 0 _ rfl) rfl ?_
    refine ev_eqI (y := nI ((w-N))) (w2) ?_
    refine ev_copyI 53 (N) (0) (w-N) 0 dX0_takeWaiting_50 lk648 lk650 lk649 lk88 (by decide) (hC.1 1 _ rfl) (hC.1 1 _ rfl) rfl rfl rfl (by have hNN := hC.2.1 1 _ rfl; have hNM := hC.2.1 1 _ rfl; omega) (by have hNN := hC.2.1 1 _ rfl; have hNM := hC.2.1 1 _ rfl; omega) (fun _ _ => rfl) (Nat.le_of_ble_eq_true rfl) (Nat.le_of_ble_eq_true rfl) (Nat.le_of_ble_eq_true rfl) rfl ?_
    exact ev_vret dX0_takeWaiting_53 rfl (rfl)
theorem cl_encode_f {c : Int32} (hV : lyV B P x) (hx : I x 4 = nI n) (hc : ¬ (0 ≤ c ∧ c < nI n)) : Ct g mX11_encode [.ref x, .int c] B I J P (some (.int (-1)), B, vst I x (-1), J, P) := by
  refine ct_of (lv := [some (.ref x), some (.int (c)), none, none]) (by decide +kernel) (Nat.le_of_ble_eq_true rfl) rfl ?_
  refine ev_aload_n 1 dX11_encode_0 rfl rfl ?_
  refine ev_iconstN 2 0 dX11_encode_1 rfl ?_
  refine ev_putI 5 mm_cl11 (j := 9) (Nat.le_of_ble_eq_true rfl) dX11_encode_2 lk270 rfl (fun _ _ _ => rfl) rfl rfl (hV.1 0 _ rfl) rfl ?_
  refine ev_aload_n 6 dX11_encode_5 rfl rfl ?_
  refine ev_iload_n 7 dX11_encode_6 rfl rfl ?_
  refine ev_invV 10 (Mc := mX11_coderAt) ⟨lk570, lk75, hdX11_coderAt, (Nat.le_of_ble_eq_true rfl), (Nat.le_of_ble_eq_true rfl)⟩ lk567 lk569 lk1 mm_cl11 rfl dX11_encode_7 (ca_f hV hx hc) rfl (hV.1 0 _ rfl) (Nat.le_of_ble_eq_true rfl) rfl rfl ?_
  refine ev_astore_nN 11 (lv' := [_, some (.int _), _, _]) dX11_encode_10 (Nat.le_of_ble_eq_true rfl) rfl rfl ?_
  refine ev_aload_nN 12 dX11_encode_11 rfl rfl ?_
  refine ev_ifnonnull_n 15 dX11_encode_12 rfl ?_
  refine ev_aload_n 16 dX11_encode_15 rfl rfl ?_
  refine ev_iconst 17 (v := -1) dX11_encode_16 (by decide +kernel) rfl ?_
  refine ev_invV 20 (Mc := mX11_refuse) ⟨lk303, lk75, hdX11_refuse, (Nat.le_of_ble_eq_true rfl), (Nat.le_of_ble_eq_true rfl)⟩ lk300 lk302 lk0 mm_cl11 rfl dX11_encode_17 (ct_refuse hV) rfl (hV.1 0 _ rfl) (Nat.le_of_ble_eq_true rfl) rfl rfl ?_
  exact ev_iret dX11_encode_20 rfl (rfl)
theorem cl_encode_s {w rt : Nat} (h : CA B I P x o n k) (hw : I o 1 = nI w) (h6 : w ≤ 640) (hrt : rt ≤ 1) (r3 : I (o + 4) 10 = nI rt) (hl : w < 160 * (rt + 1)) : Ct g mX11_encode [.ref x, .int (nI k)] B I J P (some (.int (-2)), B, vst I x (-2), J, P) := by
  have ca := ca_t (g := g) (J := J) h
  obtain ⟨hV, hC, hxo, hx, h8, hk, hP⟩ := h
  refine ct_of (lv := [some (.ref x), some (.int (nI (k))), none, none]) (by decide +kernel) (Nat.le_of_ble_eq_true rfl) rfl ?_
  refine ev_aload_n 1 dX11_encode_0 rfl rfl ?_
  refine ev_iconstN 2 0 dX11_encode_1 rfl ?_
  refine ev_putI 5 mm_cl11 (j := 9) (Nat.le_of_ble_eq_true rfl) dX11_encode_2 lk270 rfl (fun _ _ _ => rfl) rfl rfl (hV.1 0 _ rfl) rfl ?_
  refine ev_aload_n 6 dX11_encode_5 rfl rfl ?_
  refine ev_iload_n 7 dX11_encode_6 rfl rfl ?_
  refine ev_invV 10 (Mc := mX11_coderAt) ⟨lk570, lk75, hdX11_coderAt, (Nat.le_of_ble_eq_true rfl), (Nat.le_of_ble_eq_true rfl)⟩ lk567 lk569 lk1 mm_cl11 rfl dX11_encode_7 (ca) rfl (hV.1 0 _ rfl) (Nat.le_of_ble_eq_true rfl) rfl rfl ?_
  refine ev_astore_n 11 (lv' := [_, some (.int _), _, _]) dX11_encode_10 (Nat.le_of_ble_eq_true rfl) rfl rfl ?_
  refine ev_aload_n 12 dX11_encode_11 rfl rfl ?_
  refine ev_ifnonnull_r 21 dX11_encode_12 (by decide) ?_
  refine ev_aload_n 22 dX11_encode_21 rfl rfl ?_
  refine ev_getI 25 mm_cl0 (j := 1) (Nat.le_of_ble_eq_true rfl) dX11_encode_22 lk545 (fun _ _ _ => rfl) (hC.1 0 _ rfl) rfl ?_
  refine ev_eqI (y := nI (w)) ((vzk hw (by omega))) ?_
  refine ev_aload_n 26 dX11_encode_25 rfl rfl ?_
  refine ev_getP 29 mm_cl0 (j := 3) (Nat.le_of_ble_eq_true rfl) dX11_encode_26 lk549 (fun _ _ _ => rfl) (hC.1 0 _ rfl) (a := (o + 4)) (hC.2.2.1 2 _ _ _ rfl) rfl ?_
  refine ev_getI 32 mm_cl2 (j := 10) (Nat.le_of_ble_eq_true rfl) dX11_encode_29 lk383 (fun _ _ _ => rfl) (hC.1 4 _ rfl) rfl ?_
  refine ev_eqI (y := nI (rt)) ((vzk r3 (by omega))) ?_
  refine ev_invS 35 (Mc := mX11_frameOf) ⟨lk639, lk75, hdX11_frameOf, (Nat.le_of_ble_eq_true rfl), (Nat.le_of_ble_eq_true rfl)⟩ lk637 lk638 dX11_encode_32 (ct_X11_frameOf (by omega)) rfl (Nat.le_of_ble_eq_true rfl) rfl rfl ?_
  refine ev_icmp_geN 38 45 dX11_encode_35 (by decide) (by omega) (by omega) rfl (fun hx => absurd hx ((by omega))) (fun hbr => ?_)
  refine ev_aload_n 39 dX11_encode_38 rfl rfl ?_
  refine ev_bipush 41 (v := -2) dX11_encode_39 (by decide +kernel) rfl ?_
  refine ev_invV 44 (Mc := mX11_refuse) ⟨lk303, lk75, hdX11_refuse, (Nat.le_of_ble_eq_true rfl), (Nat.le_of_ble_eq_true rfl)⟩ lk300 lk302 lk0 mm_cl11 rfl dX11_encode_41 (ct_refuse hV) rfl (hV.1 0 _ rfl) (Nat.le_of_ble_eq_true rfl) rfl rfl ?_
  exact ev_iret dX11_encode_44 rfl (rfl)
theorem cl_encode_u {w rt : Nat} (h : CA B I P x o n k) (hw : I o 1 = nI w) (h6 : w ≤ 640) (hrt : rt ≤ 1) (r3 : I (o + 4) 10 = nI rt) (hl : 160 * (rt + 1) ≤ w) (hL : I (o + 2) 1 = nI 250) : Ct g mX11_encode [.ref x, .int (nI k)] B I J P (some (.int (-3)), B, vst I x (-3), J, P) := by
  have ca := ca_t (g := g) (J := J) h
  obtain ⟨hV, hC, hxo, hx, h8, hk, hP⟩ := h
  have isf := ct_X5_isFull (g := g) (J := J) (n := 250) (I := vz I x) hC (by rw [show vz I x (o + 2) = I (o + 2) from va_up_n _ _ (by omega)]; exact hL) (by omega)
  rw [if_pos rfl] at isf
  refine ct_of (lv := [some (.ref x), some (.int (nI (k))), none, none]) (by decide +kernel) (Nat.le_of_ble_eq_true rfl) rfl ?_
  refine ev_aload_n 1 dX11_encode_0 rfl rfl ?_
  refine ev_iconstN 2 0 dX11_encode_1 rfl ?_
  refine ev_putI 5 mm_cl11 (j := 9) (Nat.le_of_ble_eq_true rfl) dX11_encode_2 lk270 rfl (fun _ _ _ => rfl) rfl rfl (hV.1 0 _ rfl) rfl ?_
  refine ev_aload_n 6 dX11_encode_5 rfl rfl ?_
  refine ev_iload_n 7 dX11_encode_6 rfl rfl ?_
  refine ev_invV 10 (Mc := mX11_coderAt) ⟨lk570, lk75, hdX11_coderAt, (Nat.le_of_ble_eq_true rfl), (Nat.le_of_ble_eq_true rfl)⟩ lk567 lk569 lk1 mm_cl11 rfl dX11_encode_7 (ca) rfl (hV.1 0 _ rfl) (Nat.le_of_ble_eq_true rfl) rfl rfl ?_
  refine ev_astore_n 11 (lv' := [_, some (.int _), _, _]) dX11_encode_10 (Nat.le_of_ble_eq_true rfl) rfl rfl ?_
  refine ev_aload_n 12 dX11_encode_11 rfl rfl ?_
  refine ev_ifnonnull_r 21 dX11_encode_12 (by decide) ?_
  refine ev_aload_n 22 dX11_encode_21 rfl rfl ?_
  refine ev_getI 25 mm_cl0 (j := 1) (Nat.le_of_ble_eq_true rfl) dX11_encode_22 lk545 (fun _ _ _ => rfl) (hC.1 0 _ rfl) rfl ?_
  refine ev_eqI (y := nI (w)) ((vzk hw (by omega))) ?_
  refine ev_aload_n 26 dX11_encode_25 rfl rfl ?_
  refine ev_getP 29 mm_cl0 (j := 3) (Nat.le_of_ble_eq_true rfl) dX11_encode_26 lk549 (fun _ _ _ => rfl) (hC.1 0 _ rfl) (a := (o + 4)) (hC.2.2.1 2 _ _ _ rfl) rfl ?_
  refine ev_getI 32 mm_cl2 (j := 10) (Nat.le_of_ble_eq_true rfl) dX11_encode_29 lk383 (fun _ _ _ => rfl) (hC.1 4 _ rfl) rfl ?_
  refine ev_eqI (y := nI (rt)) ((vzk r3 (by omega))) ?_
  refine ev_invS 35 (Mc := mX11_frameOf) ⟨lk639, lk75, hdX11_frameOf, (Nat.le_of_ble_eq_true rfl), (Nat.le_of_ble_eq_true rfl)⟩ lk637 lk638 dX11_encode_32 (ct_X11_frameOf (by omega)) rfl (Nat.le_of_ble_eq_true rfl) rfl rfl ?_
  refine ev_icmp_geN 38 45 dX11_encode_35 (by decide) (by omega) (by omega) rfl (fun hbr => ?_) (fun hx => absurd ((by omega)) hx)
  refine ev_aload_n 46 dX11_encode_45 rfl rfl ?_
  refine ev_getP 49 mm_cl0 (j := 2) (Nat.le_of_ble_eq_true rfl) dX11_encode_46 lk547 (fun _ _ _ => rfl) (hC.1 0 _ rfl) (a := (o + 2)) (hC.2.2.1 1 _ _ _ rfl) rfl ?_
  refine ev_invV 52 (Mc := mX5_isFull) ⟨lk643, lk82, hdX5_isFull, (Nat.le_of_ble_eq_true rfl), (Nat.le_of_ble_eq_true rfl)⟩ lk640 lk641 lk642 mm_cl5 rfl dX11_encode_49 (isf) rfl (hC.1 2 _ rfl) (Nat.le_of_ble_eq_true rfl) rfl rfl ?_
  refine ev_if_eqN 55 62 dX11_encode_52 (by decide) (by omega) rfl (fun hx => absurd hx ((by omega))) (fun hbr => ?_)
  refine ev_aload_n 56 dX11_encode_55 rfl rfl ?_
  refine ev_bipush 58 (v := -3) dX11_encode_56 (by decide +kernel) rfl ?_
  refine ev_invV 61 (Mc := mX11_refuse) ⟨lk303, lk75, hdX11_refuse, (Nat.le_of_ble_eq_true rfl), (Nat.le_of_ble_eq_true rfl)⟩ lk300 lk302 lk0 mm_cl11 rfl dX11_encode_58 (ct_refuse hV) rfl (hV.1 0 _ rfl) (Nat.le_of_ble_eq_true rfl) rfl rfl ?_
  exact ev_iret dX11_encode_61 rfl (rfl)
/-- what stands before the encoder works: a frame is made, the samples are taken -/
def ENa (x o nx N w : Nat) (I Ia : mm_TI) : Prop :=
  (∀ i, i < N → Ia (x + 5) i = I (o + 1) i) ∧ Ia o = va_up (I o) 1 (nI (w - N)) ∧ (∀ i, i < w - N → Ia (o + 1) i = I (o + 1) (N + i)) ∧ Ia x = va_up (I x) 9 (nI 0) ∧ (∀ q, q < nx → q ≠ x → q ≠ x + 5 → q ≠ o → q ≠ o + 1 → Ia q = I q)
theorem cx_encode {w rt nu : Nat} (h : CA B I P x o n k) (hw : I o 1 = nI w) (h6 : w ≤ 640) (hrt : rt ≤ 1) (r3 : I (o + 4) 10 = nI rt) (hl : 160 * (rt + 1) ≤ w) (hL : I (o + 2) 1 = nI L) (hl2 : L < 250) (r4 : I (o + 4) 16 = nI nu) (hnx : o + 33 ≤ mm_nx B) (hφ : ∀ q, q < L → P (o + 3) q = some (φ q) ∧ mm_T B (φ q) = 104 ∧ φ q < mm_nx B) :
    ∃ Ia : mm_TI, ENa x o (mm_nx B) (160 * (rt + 1)) w I Ia ∧ ∀ (ln : Nat) (Ib : mm_TI) (Jb : mm_TJ), Ib (o + 2) = I (o + 2) → Ct g mX2_encodeFrame [.ref (o + 4)] (mm_al B 104 0 3) Ia (va_up J (mm_nx B) (fun _ => 0)) (va_up P (mm_nx B) (fun _ => none)) (some (.ref (mm_nx B + 1)), mm_al (mm_al B 104 0 3) 201 ln ln, Ib, Jb, va_up (va_up P (mm_nx B) (fun _ => none)) (mm_nx B + 1) (fun _ => none)) →
      ∃ (Ic : mm_TI) (Pc : mm_TP), APc x o L (mm_nx B) (nI nu) (some (mm_nx B + 1)) none φ Ib Ic Jb Jb P Pc ∧ Ic x = Ib x ∧ Ic (mm_nx B + 1) = Ib (mm_nx B + 1) ∧ Ct g mX11_encode [.ref x, .int (nI k)] B I J P (some (.int (nI nu)), mm_al (mm_al B 104 0 3) 201 ln ln, Ic, Jb, Pc) := by
  have ca := ca_t (g := g) (J := J) h
  obtain ⟨hV, hC, hxo, hx, h8, hk, hP⟩ := h
  have v2 : vz I x (o + 2) = I (o + 2) := va_up_n _ _ (by omega)
  have isf := ct_X5_isFull (g := g) (J := J) (n := L) (I := vz I x) hC (by rw [v2]; exact hL) (by omega)
  rw [if_neg (by omega)] at isf
  obtain ⟨It, t1, t2, t3, t4, tk⟩ := cx_take (g := g) (J := J) (I := vz I x) (N := 160 * (rt + 1)) hV hC hxo (vzk hw (by omega)) h6 hl (by omega)
  have v0 : ∀ q, q ≠ x → vz I x q = I q := fun q hq => va_up_n _ _ hq
  rw [v0 o (by omega)] at t2
  rw [v0 (o + 1) (by omega)] at t1 t3
  have nx1 : mm_nx (mm_al B 104 0 3) = mm_nx B + 1 := rfl
  have tn : mm_T (mm_al B 104 0 3) (mm_nx B) = 104 := al_Ts
  refine ⟨va_up It (mm_nx B) (fun _ => 0), ⟨fun i hi => by rw [va_up_n _ _ (by omega)]; exact t1 i hi, by rw [va_up_n _ _ (by omega)]; exact t2, fun i hi => by rw [va_up_n _ _ (by omega)]; exact t3 i hi, by rw [va_up_n _ _ (by omega), t4 x (by omega) (by omega) (by omega)]; exact va_up_s _ _ _, fun q a b c d e => by rw [va_up_n _ _ (by omega), t4 q c d e, v0 q b]⟩, fun ln Ib Jb hb2 ef => ?_⟩
  have hV1 : lyV (mm_al B 104 0 3) (va_up P (mm_nx B) (fun _ => none)) x := lyV_al hV (by omega)
  have hC1 : lyC (mm_al B 104 0 3) (va_up P (mm_nx B) (fun _ => none)) x o := lyC_al hC (by omega)
  have tn2 : mm_T (mm_al (mm_al B 104 0 3) 201 ln ln) (mm_nx B) = 104 := (al_T (by rw [nx1]; omega)).trans tn
  have hV2 : lyV (mm_al (mm_al B 104 0 3) 201 ln ln) (va_up (va_up P (mm_nx B) (fun _ => none)) (mm_nx B + 1) (fun _ => none)) x := lyV_al hV1 (by rw [nx1]; omega)
  have hC2 : lyC (mm_al (mm_al B 104 0 3) 201 ln ln) (va_up (va_up P (mm_nx B) (fun _ => none)) (mm_nx B + 1) (fun _ => none)) x o := lyC_al hC1 (by rw [nx1]; omega)
  have fi := ct_finit_1 (g := g) (B := mm_al (mm_al B 104 0 3) 201 ln ln) (f := mm_nx B) (a := mm_nx B + 1) (I := Ib) (J := Jb) (P := va_up (va_up P (mm_nx B) (fun _ => none)) (mm_nx B + 1) (fun _ => none)) (v := nI nu) tn2
  rw [va_up_n _ _ (show mm_nx B ≠ mm_nx B + 1 by omega), va_up_s, va_3 _ _ _ _ (by omega)] at fi
  generalize hPa : va_up (va_up P (mm_nx B) (va_up (va_up (fun _ => none) 1 (some (mm_nx B + 1))) 2 none)) (mm_nx B + 1) (fun _ => none) = Pa at fi
  have hCa : lyC (mm_al (mm_al B 104 0 3) 201 ln ln) Pa x o := by
    rw [← hPa]; exact lyC_al (lyC_al hC (by omega)) (by rw [nx1]; omega)
  have pa : ∀ q, q ≠ mm_nx B → q ≠ mm_nx B + 1 → Pa q = P q := fun q q1 q2 => by rw [← hPa, va_up_n _ _ q2, va_up_n _ _ q1]
  generalize hIf : va_up Ib (mm_nx B) (va_up (Ib (mm_nx B)) 0 (nI nu)) = If at fi
  have gf : ∀ q, q ≠ mm_nx B → If q = Ib q := fun q hq => by rw [← hIf, va_up_n _ _ hq]
  obtain ⟨F', is, hF⟩ := cx_X5_insert (g := g) (B := mm_al (mm_al B 104 0 3) 201 ln ln) (I := If) (J := Jb) (P := Pa) (n := L) (i := L) (f := mm_nx B) (φ := φ) hCa hl2 (Nat.le_refl _) (by rw [gf _ (by omega), hb2]; exact hL) tn2 (fun q hq => ⟨by rw [pa _ (by omega) (by omega)]; exact (hφ q hq).1, (al_T (by have := (hφ q hq).2.2; rw [nx1]; omega)).trans ((al_T (by have := (hφ q hq).2.2; omega)).trans (hφ q hq).2.1)⟩)
  rw [gf _ (by omega)] at is
  refine ⟨va_up If (o + 2) (va_up (Ib (o + 2)) 1 (nI (L + 1))), va_up Pa (o + 3) F', ⟨?_, ?_, ?_, ?_, ?_, ?_, ?_, ?_⟩, ?_, ?_, ?_⟩
  · rw [va_up_n _ _ (by omega), ← hIf, va_up_s, va_up_s]
  · rw [va_up_s]
  · rw [va_up_n _ _ (by omega), ← hPa, va_up_n _ _ (by omega), va_up_s, va_up_n _ _ (by omega), va_up_s]
  · rw [va_up_n _ _ (by omega), ← hPa, va_up_n _ _ (by omega), va_up_s, va_up_s]
  · rw [va_up_s]; exact ap_in hF
  · exact fun q q1 q2 q3 => by rw [va_up_n _ _ q3, gf _ (by omega)]
  · exact fun q hq => rfl
  · exact fun q q1 q2 => by rw [va_up_n _ _ q2, pa _ (by omega) (by omega)]
  · rw [va_up_n _ _ (by omega), gf _ (by omega)]
  · rw [va_up_n _ _ (by omega), gf _ (by omega)]
  · have i2 : It (o + 2) 1 = nI L := by rw [t4 _ (by omega) (by omega) (by omega), v2]; exact hL
    refine ct_of (lv := [some (.ref x), some (.int (nI k)), none, none]) (by decide +kernel) (Nat.le_of_ble_eq_true rfl) rfl ?_
    refine ev_aload_n 1 dX11_encode_0 rfl rfl ?_
    refine ev_iconstN 2 0 dX11_encode_1 rfl ?_
    refine ev_putI 5 mm_cl11 (j := 9) (Nat.le_of_ble_eq_true rfl) dX11_encode_2 lk270 rfl (fun _ _ _ => rfl) rfl rfl (hV.1 0 _ rfl) rfl ?_
    refine ev_aload_n 6 dX11_encode_5 rfl rfl ?_
    refine ev_iload_n 7 dX11_encode_6 rfl rfl ?_
    refine ev_invV 10 (Mc := mX11_coderAt) ⟨lk570, lk75, hdX11_coderAt, (Nat.le_of_ble_eq_true rfl), (Nat.le_of_ble_eq_true rfl)⟩ lk567 lk569 lk1 mm_cl11 rfl dX11_encode_7 (ca) rfl (hV.1 0 _ rfl) (Nat.le_of_ble_eq_true rfl) rfl rfl ?_
    refine ev_astore_n 11 (lv' := [_, some (.int _), _, _]) dX11_encode_10 (Nat.le_of_ble_eq_true rfl) rfl rfl ?_
    refine ev_aload_n 12 dX11_encode_11 rfl rfl ?_
    refine ev_ifnonnull_r 21 dX11_encode_12 (by decide) ?_
    refine ev_aload_n 22 dX11_encode_21 rfl rfl ?_
    refine ev_getI 25 mm_cl0 (j := 1) (Nat.le_of_ble_eq_true rfl) dX11_encode_22 lk545 (fun _ _ _ => rfl) (hC.1 0 _ rfl) rfl ?_
    refine ev_eqI (y := nI (w)) ((vzk hw (by omega))) ?_
    refine ev_aload_n 26 dX11_encode_25 rfl rfl ?_
    refine ev_getP 29 mm_cl0 (j := 3) (Nat.le_of_ble_eq_true rfl) dX11_encode_26 lk549 (fun _ _ _ => rfl) (hC.1 0 _ rfl) (a := (o + 4)) (hC.2.2.1 2 _ _ _ rfl) rfl ?_
    refine ev_getI 32 mm_cl2 (j := 10) (Nat.le_of_ble_eq_true rfl) dX11_encode_29 lk383 (fun _ _ _ => rfl) (hC.1 4 _ rfl) rfl ?_
    refine ev_eqI (y := nI (rt)) ((vzk r3 (by omega))) ?_
    refine ev_invS 35 (Mc := mX11_frameOf) ⟨lk639, lk75, hdX11_frameOf, (Nat.le_of_ble_eq_true rfl), (Nat.le_of_ble_eq_true rfl)⟩ lk637 lk638 dX11_encode_32 (ct_X11_frameOf (by omega)) rfl (Nat.le_of_ble_eq_true rfl) rfl rfl ?_
    refine ev_icmp_geN 38 45 dX11_encode_35 (by decide) (by omega) (by omega) rfl (fun hbr => ?_) (fun hx => absurd ((by omega)) hx)
    refine ev_aload_n 46 dX11_encode_45 rfl rfl ?_
    refine ev_getP 49 mm_cl0 (j := 2) (Nat.le_of_ble_eq_true rfl) dX11_encode_46 lk547 (fun _ _ _ => rfl) (hC.1 0 _ rfl) (a := (o + 2)) (hC.2.2.1 1 _ _ _ rfl) rfl ?_
    refine ev_invV 52 (Mc := mX5_isFull) ⟨lk643, lk82, hdX5_isFull, (Nat.le_of_ble_eq_true rfl), (Nat.le_of_ble_eq_true rfl)⟩ lk640 lk641 lk642 mm_cl5 rfl dX11_encode_49 (isf) rfl (hC.1 2 _ rfl) (Nat.le_of_ble_eq_true rfl) rfl rfl ?_
    refine ev_if_eqN 55 62 dX11_encode_52 (by decide) (by omega) rfl (fun hbr => ?_) (fun hx => absurd ((by omega)) hx)
    refine ev_aload_n 63 dX11_encode_62 rfl rfl ?_
    refine ev_getP 66 mm_cl0 (j := 3) (Nat.le_of_ble_eq_true rfl) dX11_encode_63 lk549 (fun _ _ _ => rfl) (hC.1 0 _ rfl) (a := (o + 4)) (hC.2.2.1 2 _ _ _ rfl) rfl ?_
    refine ev_getI 69 mm_cl2 (j := 16) (Nat.le_of_ble_eq_true rfl) dX11_encode_66 lk395 (fun _ _ _ => rfl) (hC.1 4 _ rfl) rfl ?_
    refine ev_eqI (y := nI (nu)) ((vzk r4 (by omega))) ?_
    refine ev_istore_n 70 (lv' := [_, _, some (.ref _), _]) dX11_encode_69 (Nat.le_of_ble_eq_true rfl) rfl rfl ?_
    refine ev_aload_n 71 dX11_encode_70 rfl rfl ?_
    refine ev_aload_n 72 dX11_encode_71 rfl rfl ?_
    refine ev_getP 75 mm_cl0 (j := 3) (Nat.le_of_ble_eq_true rfl) dX11_encode_72 lk549 (fun _ _ _ => rfl) (hC.1 0 _ rfl) (a := (o + 4)) (hC.2.2.1 2 _ _ _ rfl) rfl ?_
    refine ev_getI 78 mm_cl2 (j := 10) (Nat.le_of_ble_eq_true rfl) dX11_encode_75 lk383 (fun _ _ _ => rfl) (hC.1 4 _ rfl) rfl ?_
    refine ev_eqI (y := nI (rt)) ((vzk r3 (by omega))) ?_
    refine ev_invS 81 (Mc := mX11_frameOf) ⟨lk639, lk75, hdX11_frameOf, (Nat.le_of_ble_eq_true rfl), (Nat.le_of_ble_eq_true rfl)⟩ lk637 lk638 dX11_encode_78 (ct_X11_frameOf (by omega)) rfl (Nat.le_of_ble_eq_true rfl) rfl rfl ?_
    refine ev_aload_n 82 dX11_encode_81 rfl rfl ?_
    refine ev_getP 85 mm_cl11 (j := 1) (Nat.le_of_ble_eq_true rfl) dX11_encode_82 lk262 (fun _ _ _ => rfl) (hV.1 0 _ rfl) (a := (x + 4)) (hV.2.2 1 _ _ _ rfl) rfl ?_
    refine ev_getP 88 mm_cl8 (j := 0) (Nat.le_of_ble_eq_true rfl) dX11_encode_85 lk134 (fun _ _ _ => rfl) (hV.1 4 _ rfl) (a := (x + 5)) (hV.2.2 8 _ _ _ rfl) rfl ?_
    refine ev_invVv 91 (Mc := mX0_takeWaiting) ⟨lk647, lk81, hdX0_takeWaiting, (Nat.le_of_ble_eq_true rfl), (Nat.le_of_ble_eq_true rfl)⟩ lk644 lk645 lk646 mm_cl0 rfl dX11_encode_88 (tk) rfl (hC.1 0 _ rfl) (Nat.le_of_ble_eq_true rfl) rfl rfl ?_
    refine ev_aload_n 92 dX11_encode_91 rfl rfl ?_
    refine ev_getP 95 mm_cl0 (j := 2) (Nat.le_of_ble_eq_true rfl) dX11_encode_92 lk547 (fun _ _ _ => rfl) (hC.1 0 _ rfl) (a := (o + 2)) (hC.2.2.1 1 _ _ _ rfl) rfl ?_
    refine ev_aload_n 96 dX11_encode_95 rfl rfl ?_
    refine ev_getP 99 mm_cl0 (j := 2) (Nat.le_of_ble_eq_true rfl) dX11_encode_96 lk547 (fun _ _ _ => rfl) (hC.1 0 _ rfl) (a := (o + 2)) (hC.2.2.1 1 _ _ _ rfl) rfl ?_
    refine ev_getI 102 mm_cl5 (j := 1) (Nat.le_of_ble_eq_true rfl) dX11_encode_99 lk320 (fun _ _ _ => rfl) (hC.1 2 _ rfl) rfl ?_
    refine ev_eqI (y := nI (L)) (i2) ?_
    refine ev_new 105 mm_cl4 dX11_encode_102 lk651 lk652 lk89 rfl ?_
    show Ev g _ 105 _ _ (mm_al B 104 0 3) _ _ _ _
    have hV := hV1
    have hC := hC1
    refine ev_dup 106 dX11_encode_105 rfl rfl ?_
    refine ev_iload_n 107 dX11_encode_106 rfl rfl ?_
    refine ev_aload_n 108 dX11_encode_107 rfl rfl ?_
    refine ev_getP 111 mm_cl0 (j := 3) (Nat.le_of_ble_eq_true rfl) dX11_encode_108 lk549 (fun _ _ _ => rfl) (hC.1 0 _ rfl) (a := (o + 4)) (hC.2.2.1 2 _ _ _ rfl) rfl ?_
    refine ev_invV 114 (Mc := mX2_encodeFrame) ⟨lk656, lk83, hdX2_encodeFrame, (Nat.le_of_ble_eq_true rfl), (Nat.le_of_ble_eq_true rfl)⟩ lk653 lk654 lk655 mm_cl2 rfl dX11_encode_111 (ef) rfl (hC.1 4 _ rfl) (Nat.le_of_ble_eq_true rfl) rfl rfl ?_
    have hV := hV2
    have hC := hC2
    refine ev_null 115 dX11_encode_114 rfl ?_
    refine ev_invIv 118 (Mc := mX4_init) ⟨lk858, lk89, hdX4_init, (Nat.le_of_ble_eq_true rfl), (Nat.le_of_ble_eq_true rfl)⟩ lk856 lk857 rfl rfl dX11_encode_115 (fi) rfl (Nat.le_of_ble_eq_true rfl) rfl rfl ?_
    refine ev_invVv 121 (Mc := mX5_insert) ⟨lk877, lk82, hdX5_insert, (Nat.le_of_ble_eq_true rfl), (Nat.le_of_ble_eq_true rfl)⟩ lk874 lk875 lk876 mm_cl5 rfl dX11_encode_118 (is) rfl (hC.1 2 _ rfl) (Nat.le_of_ble_eq_true rfl) rfl rfl ?_
    refine ev_iload_n 122 dX11_encode_121 rfl rfl ?_
    exact ev_iret dX11_encode_122 rfl (rfl)
theorem ml_encode_f {c : Int32} (hM : lyM B P m) (hn : I m 0 = nI n) (hc : ¬ (0 ≤ c ∧ c < nI n)) : Ct g mX12_encode [.ref m, .int c] B I J P (some (.int (-1)), B, mo_st I m (-1), J, P) := by
  refine ct_of (lv := [some (.ref m), some (.int (c)), none, none, none, none, none, none, none, none, none, none]) (by decide +kernel) (Nat.le_of_ble_eq_true rfl) rfl ?_
  refine ev_aload_n 1 dX12_encode_0 rfl rfl ?_
  refine ev_iload_n 2 dX12_encode_1 rfl rfl ?_
  refine ev_invV 5 (Mc := mX12_isCoder) ⟨lk1552, lk80, hdX12_isCoder, (Nat.le_of_ble_eq_true rfl), (Nat.le_of_ble_eq_true rfl)⟩ lk1549 lk1551 lk40 mm_cl12 rfl dX12_encode_2 (ct_X12_isCoder_f hM (by rw [hn]; exact hc)) rfl (hM.1 0 _ rfl) (Nat.le_of_ble_eq_true rfl) rfl rfl ?_
  refine ev_if_neN 8 14 dX12_encode_5 (by decide) (by omega) rfl (fun hx => absurd ((by omega)) hx) (fun hbr => ?_)
  refine ev_aload_n 9 dX12_encode_8 rfl rfl ?_
  refine ev_iconst 10 (v := -1) dX12_encode_9 (by decide +kernel) rfl ?_
  refine ev_invV 13 (Mc := mX12_refused) ⟨lk1540, lk80, hdX12_refused, (Nat.le_of_ble_eq_true rfl), (Nat.le_of_ble_eq_true rfl)⟩ lk1537 lk1539 lk38 mm_cl12 rfl dX12_encode_10 (ct_X12_refused hM) rfl (hM.1 0 _ rfl) (Nat.le_of_ble_eq_true rfl) rfl rfl ?_
  exact ev_iret dX12_encode_13 rfl (rfl)
theorem ml_encode_s {w rt : Nat} (h : MA B I P m n k) (hw : I (m + 11) k = nI w) (h6 : w ≤ 640) (hrt : rt ≤ 1) (r3 : I (m + 5) k = nI rt) (hl : w < 160 * (rt + 1)) : Ct g mX12_encode [.ref m, .int (nI k)] B I J P (some (.int (-2)), B, mo_st I m (-2), J, P) := by
  obtain ⟨hM, hn, h8, hk⟩ := h
  rcases (show rt = 0 ∨ rt = 1 by omega) with rfl | rfl
  · refine ct_of (lv := [some (.ref m), some (.int (nI (k))), none, none, none, none, none, none, none, none, none, none]) (by decide +kernel) (Nat.le_of_ble_eq_true rfl) rfl ?_
    refine ev_aload_n 1 dX12_encode_0 rfl rfl ?_
    refine ev_iload_n 2 dX12_encode_1 rfl rfl ?_
    refine ev_invV 5 (Mc := mX12_isCoder) ⟨lk1552, lk80, hdX12_isCoder, (Nat.le_of_ble_eq_true rfl), (Nat.le_of_ble_eq_true rfl)⟩ lk1549 lk1551 lk40 mm_cl12 rfl dX12_encode_2 (ct_X12_isCoder_t hM hn h8 hk) rfl (hM.1 0 _ rfl) (Nat.le_of_ble_eq_true rfl) rfl rfl ?_
    refine ev_if_neN 8 14 dX12_encode_5 (by decide) (by omega) rfl (fun hbr => ?_) (fun hx => absurd hx ((by omega)))
    refine ev_aload_n 15 dX12_encode_14 rfl rfl ?_
    refine ev_getP 18 mm_cl12 (j := 10) (Nat.le_of_ble_eq_true rfl) dX12_encode_15 lk1295 (fun _ _ _ => rfl) (hM.1 0 _ rfl) (a := (m + 5)) (hM.2.2 4 _ _ _ rfl) rfl ?_
    refine ev_iload_n 19 dX12_encode_18 rfl rfl ?_
    refine ev_iald 20 _ dX12_encode_19 (hM.1 5 _ rfl) rfl (by have hNN := hM.2.1 5 _ rfl; omega) rfl ?_
    refine ev_eqI (y := nI (0)) (r3) ?_
    refine ev_if_neN 23 29 dX12_encode_20 (by decide) (by omega) rfl (fun hx => absurd ((by omega)) hx) (fun hbr => ?_)
    refine ev_sipushN 26 160 dX12_encode_23 (by decide +kernel) rfl ?_
    refine ev_goto 32 dX12_encode_26 (by decide) ?_
    refine ev_istore_n 33 (lv' := [_, some (.int _), _, _, _, _, _, _, _, _, _, _]) dX12_encode_32 (Nat.le_of_ble_eq_true rfl) rfl rfl ?_
    refine ev_iload_n 34 dX12_encode_33 rfl rfl ?_
    refine ev_iconstN 35 4 dX12_encode_34 rfl ?_
    refine ev_idivN 36 dX12_encode_35 (by omega) (by omega) (by omega) rfl ?_
    refine ev_istore_n 37 (lv' := [_, _, some (.int _), _, _, _, _, _, _, _, _, _]) dX12_encode_36 (Nat.le_of_ble_eq_true rfl) rfl rfl ?_
    refine ev_aload_n 38 dX12_encode_37 rfl rfl ?_
    refine ev_getP 41 mm_cl12 (j := 16) (Nat.le_of_ble_eq_true rfl) dX12_encode_38 lk1301 (fun _ _ _ => rfl) (hM.1 0 _ rfl) (a := (m + 11)) (hM.2.2 10 _ _ _ rfl) rfl ?_
    refine ev_iload_n 42 dX12_encode_41 rfl rfl ?_
    refine ev_iald 43 _ dX12_encode_42 (hM.1 11 _ rfl) rfl (by have hNN := hM.2.1 11 _ rfl; omega) rfl ?_
    refine ev_eqI (y := nI (w)) (hw) ?_
    refine ev_iload_n 44 dX12_encode_43 rfl rfl ?_
    refine ev_icmp_geN 47 54 dX12_encode_44 (by decide) (by omega) (by omega) rfl (fun hx => absurd hx ((by omega))) (fun hbr => ?_)
    refine ev_aload_n 48 dX12_encode_47 rfl rfl ?_
    refine ev_bipush 50 (v := -2) dX12_encode_48 (by decide +kernel) rfl ?_
    refine ev_invV 53 (Mc := mX12_refused) ⟨lk1540, lk80, hdX12_refused, (Nat.le_of_ble_eq_true rfl), (Nat.le_of_ble_eq_true rfl)⟩ lk1537 lk1539 lk38 mm_cl12 rfl dX12_encode_50 (ct_X12_refused hM) rfl (hM.1 0 _ rfl) (Nat.le_of_ble_eq_true rfl) rfl rfl ?_
    exact ev_iret dX12_encode_53 rfl (rfl)
  · refine ct_of (lv := [some (.ref m), some (.int (nI (k))), none, none, none, none, none, none, none, none, none, none]) (by decide +kernel) (Nat.le_of_ble_eq_true rfl) rfl ?_
    refine ev_aload_n 1 dX12_encode_0 rfl rfl ?_
    refine ev_iload_n 2 dX12_encode_1 rfl rfl ?_
    refine ev_invV 5 (Mc := mX12_isCoder) ⟨lk1552, lk80, hdX12_isCoder, (Nat.le_of_ble_eq_true rfl), (Nat.le_of_ble_eq_true rfl)⟩ lk1549 lk1551 lk40 mm_cl12 rfl dX12_encode_2 (ct_X12_isCoder_t hM hn h8 hk) rfl (hM.1 0 _ rfl) (Nat.le_of_ble_eq_true rfl) rfl rfl ?_
    refine ev_if_neN 8 14 dX12_encode_5 (by decide) (by omega) rfl (fun hbr => ?_) (fun hx => absurd hx ((by omega)))
    refine ev_aload_n 15 dX12_encode_14 rfl rfl ?_
    refine ev_getP 18 mm_cl12 (j := 10) (Nat.le_of_ble_eq_true rfl) dX12_encode_15 lk1295 (fun _ _ _ => rfl) (hM.1 0 _ rfl) (a := (m + 5)) (hM.2.2 4 _ _ _ rfl) rfl ?_
    refine ev_iload_n 19 dX12_encode_18 rfl rfl ?_
    refine ev_iald 20 _ dX12_encode_19 (hM.1 5 _ rfl) rfl (by have hNN := hM.2.1 5 _ rfl; omega) rfl ?_
    refine ev_eqI (y := nI (1)) (r3) ?_
    refine ev_if_neN 23 29 dX12_encode_20 (by decide) (by omega) rfl (fun hbr => ?_) (fun hx => absurd hx ((by omega)))
    refine ev_sipushN 32 320 dX12_encode_29 (by decide +kernel) rfl ?_
    refine ev_istore_n 33 (lv' := [_, some (.int _), _, _, _, _, _, _, _, _, _, _]) dX12_encode_32 (Nat.le_of_ble_eq_true rfl) rfl rfl ?_
    refine ev_iload_n 34 dX12_encode_33 rfl rfl ?_
    refine ev_iconstN 35 4 dX12_encode_34 rfl ?_
    refine ev_idivN 36 dX12_encode_35 (by omega) (by omega) (by omega) rfl ?_
    refine ev_istore_n 37 (lv' := [_, _, some (.int _), _, _, _, _, _, _, _, _, _]) dX12_encode_36 (Nat.le_of_ble_eq_true rfl) rfl rfl ?_
    refine ev_aload_n 38 dX12_encode_37 rfl rfl ?_
    refine ev_getP 41 mm_cl12 (j := 16) (Nat.le_of_ble_eq_true rfl) dX12_encode_38 lk1301 (fun _ _ _ => rfl) (hM.1 0 _ rfl) (a := (m + 11)) (hM.2.2 10 _ _ _ rfl) rfl ?_
    refine ev_iload_n 42 dX12_encode_41 rfl rfl ?_
    refine ev_iald 43 _ dX12_encode_42 (hM.1 11 _ rfl) rfl (by have hNN := hM.2.1 11 _ rfl; omega) rfl ?_
    refine ev_eqI (y := nI (w)) (hw) ?_
    refine ev_iload_n 44 dX12_encode_43 rfl rfl ?_
    refine ev_icmp_geN 47 54 dX12_encode_44 (by decide) (by omega) (by omega) rfl (fun hx => absurd hx ((by omega))) (fun hbr => ?_)
    refine ev_aload_n 48 dX12_encode_47 rfl rfl ?_
    refine ev_bipush 50 (v := -2) dX12_encode_48 (by decide +kernel) rfl ?_
    refine ev_invV 53 (Mc := mX12_refused) ⟨lk1540, lk80, hdX12_refused, (Nat.le_of_ble_eq_true rfl), (Nat.le_of_ble_eq_true rfl)⟩ lk1537 lk1539 lk38 mm_cl12 rfl dX12_encode_50 (ct_X12_refused hM) rfl (hM.1 0 _ rfl) (Nat.le_of_ble_eq_true rfl) rfl rfl ?_
    exact ev_iret dX12_encode_53 rfl (rfl)
theorem ml_encode_u {w rt : Nat} (h : MA B I P m n k) (hw : I (m + 11) k = nI w) (h6 : w ≤ 640) (hrt : rt ≤ 1) (r3 : I (m + 5) k = nI rt) (hl : 160 * (rt + 1) ≤ w) (hL : I (m + 28) k = nI 250) : Ct g mX12_encode [.ref m, .int (nI k)] B I J P (some (.int (-3)), B, mo_st I m (-3), J, P) := by
  obtain ⟨hM, hn, h8, hk⟩ := h
  rcases (show rt = 0 ∨ rt = 1 by omega) with rfl | rfl
  · refine ct_of (lv := [some (.ref m), some (.int (nI (k))), none, none, none, none, none, none, none, none, none, none]) (by decide +kernel) (Nat.le_of_ble_eq_true rfl) rfl ?_
    refine ev_aload_n 1 dX12_encode_0 rfl rfl ?_
    refine ev_iload_n 2 dX12_encode_1 rfl rfl ?_
    refine ev_invV 5 (Mc := mX12_isCoder) ⟨lk1552, lk80, hdX12_isCoder, (Nat.le_of_ble_eq_true rfl), (Nat.le_of_ble_eq_true rfl)⟩ lk1549 lk1551 lk40 mm_cl12 rfl dX12_encode_2 (ct_X12_isCoder_t hM hn h8 hk) rfl (hM.1 0 _ rfl) (Nat.le_of_ble_eq_true rfl) rfl rfl ?_
    refine ev_if_neN 8 14 dX12_encode_5 (by decide) (by omega) rfl (fun hbr => ?_) (fun hx => absurd hx ((by omega)))
    refine ev_aload_n 15 dX12_encode_14 rfl rfl ?_
    refine ev_getP 18 mm_cl12 (j := 10) (Nat.le_of_ble_eq_true rfl) dX12_encode_15 lk1295 (fun _ _ _ => rfl) (hM.1 0 _ rfl) (a := (m + 5)) (hM.2.2 4 _ _ _ rfl) rfl ?_
    refine ev_iload_n 19 dX12_encode_18 rfl rfl ?_
    refine ev_iald 20 _ dX12_encode_19 (hM.1 5 _ rfl) rfl (by have hNN := hM.2.1 5 _ rfl; omega) rfl ?_
    refine ev_eqI (y := nI (0)) (r3) ?_
    refine ev_if_neN 23 29 dX12_encode_20 (by decide) (by omega) rfl (fun hx => absurd ((by omega)) hx) (fun hbr => ?_)
    refine ev_sipushN 26 160 dX12_encode_23 (by decide +kernel) rfl ?_
    refine ev_goto 32 dX12_encode_26 (by decide) ?_
    refine ev_istore_n 33 (lv' := [_, some (.int _), _, _, _, _, _, _, _, _, _, _]) dX12_encode_32 (Nat.le_of_ble_eq_true rfl) rfl rfl ?_
    refine ev_iload_n 34 dX12_encode_33 rfl rfl ?_
    refine ev_iconstN 35 4 dX12_encode_34 rfl ?_
    refine ev_idivN 36 dX12_encode_35 (by omega) (by omega) (by omega) rfl ?_
    refine ev_istore_n 37 (lv' := [_, _, some (.int _), _, _, _, _, _, _, _, _, _]) dX12_encode_36 (Nat.le_of_ble_eq_true rfl) rfl rfl ?_
    refine ev_aload_n 38 dX12_encode_37 rfl rfl ?_
    refine ev_getP 41 mm_cl12 (j := 16) (Nat.le_of_ble_eq_true rfl) dX12_encode_38 lk1301 (fun _ _ _ => rfl) (hM.1 0 _ rfl) (a := (m + 11)) (hM.2.2 10 _ _ _ rfl) rfl ?_
    refine ev_iload_n 42 dX12_encode_41 rfl rfl ?_
    refine ev_iald 43 _ dX12_encode_42 (hM.1 11 _ rfl) rfl (by have hNN := hM.2.1 11 _ rfl; omega) rfl ?_
    refine ev_eqI (y := nI (w)) (hw) ?_
    refine ev_iload_n 44 dX12_encode_43 rfl rfl ?_
    refine ev_icmp_geN 47 54 dX12_encode_44 (by decide) (by omega) (by omega) rfl (fun hbr => ?_) (fun hx => absurd ((by omega)) hx)
    refine ev_aload_n 55 dX12_encode_54 rfl rfl ?_
    refine ev_getP 58 mm_cl12 (j := 33) (Nat.le_of_ble_eq_true rfl) dX12_encode_55 lk1318 (fun _ _ _ => rfl) (hM.1 0 _ rfl) (a := (m + 28)) (hM.2.2 27 _ _ _ rfl) rfl ?_
    refine ev_iload_n 59 dX12_encode_58 rfl rfl ?_
    refine ev_iald 60 _ dX12_encode_59 (hM.1 28 _ rfl) rfl (by have hNN := hM.2.1 28 _ rfl; omega) rfl ?_
    refine ev_eqI (y := nI (250)) (hL) ?_
    refine ev_sipushN 63 250 dX12_encode_60 (by decide +kernel) rfl ?_
    refine ev_icmp_neN 66 73 dX12_encode_63 (by decide) (by omega) (by omega) rfl (fun hx => absurd ((by omega)) hx) (fun hbr => ?_)
    refine ev_aload_n 67 dX12_encode_66 rfl rfl ?_
    refine ev_bipush 69 (v := -3) dX12_encode_67 (by decide +kernel) rfl ?_
    refine ev_invV 72 (Mc := mX12_refused) ⟨lk1540, lk80, hdX12_refused, (Nat.le_of_ble_eq_true rfl), (Nat.le_of_ble_eq_true rfl)⟩ lk1537 lk1539 lk38 mm_cl12 rfl dX12_encode_69 (ct_X12_refused hM) rfl (hM.1 0 _ rfl) (Nat.le_of_ble_eq_true rfl) rfl rfl ?_
    exact ev_iret dX12_encode_72 rfl (rfl)
  · refine ct_of (lv := [some (.ref m), some (.int (nI (k))), none, none, none, none, none, none, none, none, none, none]) (by decide +kernel) (Nat.le_of_ble_eq_true rfl) rfl ?_
    refine ev_aload_n 1 dX12_encode_0 rfl rfl ?_
    refine ev_iload_n 2 dX12_encode_1 rfl rfl ?_
    refine ev_invV 5 (Mc := mX12_isCoder) ⟨lk1552, lk80, hdX12_isCoder, (Nat.le_of_ble_eq_true rfl), (Nat.le_of_ble_eq_true rfl)⟩ lk1549 lk1551 lk40 mm_cl12 rfl dX12_encode_2 (ct_X12_isCoder_t hM hn h8 hk) rfl (hM.1 0 _ rfl) (Nat.le_of_ble_eq_true rfl) rfl rfl ?_
    refine ev_if_neN 8 14 dX12_encode_5 (by decide) (by omega) rfl (fun hbr => ?_) (fun hx => absurd hx ((by omega)))
    refine ev_aload_n 15 dX12_encode_14 rfl rfl ?_
    refine ev_getP 18 mm_cl12 (j := 10) (Nat.le_of_ble_eq_true rfl) dX12_encode_15 lk1295 (fun _ _ _ => rfl) (hM.1 0 _ rfl) (a := (m + 5)) (hM.2.2 4 _ _ _ rfl) rfl ?_
    refine ev_iload_n 19 dX12_encode_18 rfl rfl ?_
    refine ev_iald 20 _ dX12_encode_19 (hM.1 5 _ rfl) rfl (by have hNN := hM.2.1 5 _ rfl; omega) rfl ?_
    refine ev_eqI (y := nI (1)) (r3) ?_
    refine ev_if_neN 23 29 dX12_encode_20 (by decide) (by omega) rfl (fun hbr => ?_) (fun hx => absurd hx ((by omega)))
    refine ev_sipushN 32 320 dX12_encode_29 (by decide +kernel) rfl ?_
    refine ev_istore_n 33 (lv' := [_, some (.int _), _, _, _, _, _, _, _, _, _, _]) dX12_encode_32 (Nat.le_of_ble_eq_true rfl) rfl rfl ?_
    refine ev_iload_n 34 dX12_encode_33 rfl rfl ?_
    refine ev_iconstN 35 4 dX12_encode_34 rfl ?_
    refine ev_idivN 36 dX12_encode_35 (by omega) (by omega) (by omega) rfl ?_
    refine ev_istore_n 37 (lv' := [_, _, some (.int _), _, _, _, _, _, _, _, _, _]) dX12_encode_36 (Nat.le_of_ble_eq_true rfl) rfl rfl ?_
    refine ev_aload_n 38 dX12_encode_37 rfl rfl ?_
    refine ev_getP 41 mm_cl12 (j := 16) (Nat.le_of_ble_eq_true rfl) dX12_encode_38 lk1301 (fun _ _ _ => rfl) (hM.1 0 _ rfl) (a := (m + 11)) (hM.2.2 10 _ _ _ rfl) rfl ?_
    refine ev_iload_n 42 dX12_encode_41 rfl rfl ?_
    refine ev_iald 43 _ dX12_encode_42 (hM.1 11 _ rfl) rfl (by have hNN := hM.2.1 11 _ rfl; omega) rfl ?_
    refine ev_eqI (y := nI (w)) (hw) ?_
    refine ev_iload_n 44 dX12_encode_43 rfl rfl ?_
    refine ev_icmp_geN 47 54 dX12_encode_44 (by decide) (by omega) (by omega) rfl (fun hbr => ?_) (fun hx => absurd ((by omega)) hx)
    refine ev_aload_n 55 dX12_encode_54 rfl rfl ?_
    refine ev_getP 58 mm_cl12 (j := 33) (Nat.le_of_ble_eq_true rfl) dX12_encode_55 lk1318 (fun _ _ _ => rfl) (hM.1 0 _ rfl) (a := (m + 28)) (hM.2.2 27 _ _ _ rfl) rfl ?_
    refine ev_iload_n 59 dX12_encode_58 rfl rfl ?_
    refine ev_iald 60 _ dX12_encode_59 (hM.1 28 _ rfl) rfl (by have hNN := hM.2.1 28 _ rfl; omega) rfl ?_
    refine ev_eqI (y := nI (250)) (hL) ?_
    refine ev_sipushN 63 250 dX12_encode_60 (by decide +kernel) rfl ?_
    refine ev_icmp_neN 66 73 dX12_encode_63 (by decide) (by omega) (by omega) rfl (fun hx => absurd ((by omega)) hx) (fun hbr => ?_)
    refine ev_aload_n 67 dX12_encode_66 rfl rfl ?_
    refine ev_bipush 69 (v := -3) dX12_encode_67 (by decide +kernel) rfl ?_
    refine ev_invV 72 (Mc := mX12_refused) ⟨lk1540, lk80, hdX12_refused, (Nat.le_of_ble_eq_true rfl), (Nat.le_of_ble_eq_true rfl)⟩ lk1537 lk1539 lk38 mm_cl12 rfl dX12_encode_69 (ct_X12_refused hM) rfl (hM.1 0 _ rfl) (Nat.le_of_ble_eq_true rfl) rfl rfl ?_
    exact ev_iret dX12_encode_72 rfl (rfl)
end EC0
