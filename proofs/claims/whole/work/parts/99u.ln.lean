/-! RC where a line, or a frame of it, was touched -/
section LNE
variable {g : mm_G} {B B' : mm_B} {I I' : mm_TI} {J J' : mm_TJ} {P P' : mm_TP} {x m n R R' K b c W : Nat}
def ly_nz (t : Option Nat) : Bool := match t with
  | some t => decide (t ≠ 0)
  | none => true
theorem ly_T_ext {TL : List (Option Nat)} (h : ly_T B b TL) (hB : Ext B B') (ht : TL.all ly_nz = true) : ly_T B' b TL := fun k t e => by
  have a := h k t e
  have nz : ly_nz (some t) = true := List.all_eq_true.mp ht _ (List.mem_of_getElem? e)
  have nz' : t ≠ 0 := of_decide_eq_true nz
  rw [(hB.1 _ (by omega)).1]; exact a
def ly_nt (TL NL : List (Option Nat)) (k : Nat) : Bool := match NL[k]? with
  | some (some _) => (match TL[k]? with | some (some t) => decide (t ≠ 0) | _ => false)
  | _ => true
theorem ly_N_ext {TL NL : List (Option Nat)} (h : ly_N B b NL) (hT : ly_T B b TL) (hB : Ext B B') (ht : (List.range NL.length).all (ly_nt TL NL) = true) : ly_N B' b NL := fun k t e => by
  have a := h k t e
  have hk : k < NL.length := (List.getElem?_eq_some_iff.mp e).1
  have q : ly_nt TL NL k = true := List.all_eq_true.mp ht _ (List.mem_range.mpr hk)
  unfold ly_nt at q
  rw [e] at q
  simp only at q
  split at q
  · rename_i t' e'
    have nz' : t' ≠ 0 := of_decide_eq_true q
    have := hT k t' e'
    rw [(hB.1 _ (by omega)).2]; exact a
  · cases q
theorem ly_P_ext {PL : List (Nat × Nat × Nat)} (h : ly_P P b c PL) (ha : PL.all (fun r => decide (r.1 < W)) = true) (hp : ∀ q, b ≤ q → q < b + W → P' q = P q) : ly_P P' b c PL := fun i k j t e => by
  have : decide (k < W) = true := List.all_eq_true.mp ha _ (List.mem_of_getElem? e)
  have := of_decide_eq_true this
  rw [hp _ (by omega) (by omega)]; exact h i k j t e
theorem lyV_ext (h : lyV B P x) (hB : Ext B B') (hp : ∀ q, x ≤ q → q < x + 22 → P' q = P q) : lyV B' P' x :=
  ⟨ly_T_ext h.1 hB (by decide), ly_N_ext h.2.1 h.1 hB (by decide), ly_P_ext (W := 22) h.2.2 (by decide) hp⟩
theorem lyM_ext (h : lyM B P m) (hB : Ext B B') (hp : ∀ q, m ≤ q → q < m + 64 → P' q = P q) : lyM B' P' m :=
  ⟨ly_T_ext h.1 hB (by decide), ly_N_ext h.2.1 h.1 hB (by decide), ly_P_ext (W := 64) h.2.2 (by decide) hp⟩
theorem Ext_tr {B1 B2 B3 : mm_B} (h1 : Ext B1 B2) (h2 : Ext B2 B3) : Ext B1 B3 := ⟨fun q hq => by
    have a := h1.1 q hq
    have b := h2.1 q (by omega)
    exact ⟨b.1.trans a.1, b.2.trans a.2⟩, Nat.le_trans h1.2.1 h2.2.1, Nat.le_trans h1.2.2 h2.2.2⟩
theorem Ext_al {t k sl : Nat} (hz : ∀ q, mm_nx B ≤ q → mm_T B q = 0) : Ext B (mm_al B t k sl) := ⟨fun q hq => by
    have : q ≠ mm_nx B := fun e => hq (hz q (by omega))
    exact ⟨al_T this, al_N this⟩, Nat.le_succ _, Nat.le_add_right _ _⟩
theorem al_z {t k sl : Nat} (hz : ∀ q, mm_nx B ≤ q → mm_T B q = 0) : ∀ q, mm_nx (mm_al B t k sl) ≤ q → mm_T (mm_al B t k sl) q = 0 := fun q hq => by
  rw [al_x] at hq
  rw [al_T (by omega)]; exact hz q (by omega)
theorem RGr_new {ρ : Nat → Nat} {a : Nat} (h : RGr B I m R ρ) (hB : Ext B B') (h0 : I' m 36 = nI (R + 1)) (ha : ∀ r, r < R → I' (ρ r) = I (ρ r)) (h1 : ∀ r, r < R → I' (m + 31) r = I (m + 31) r) (h2 : ∀ r, r < R → I' (m + 32) r = I (m + 32) r) (h3 : ∀ j, j < 64 * R → I' (m + 33) j = I (m + 33) j) (hn : VRw B' I' m R a) (hna : ∀ r, r < R → ρ r ≠ a) : RGr B' I' m (R + 1) (va_up ρ R a) := by
  refine ⟨h0, fun r hr => ?_, fun r s hr hs e => ?_⟩
  · by_cases e : r = R
    · subst e; rw [va_up_s]; exact hn
    · rw [va_up_n _ _ e]
      exact VRw_cg (h.2.1 r (by omega)) hB (ha r (by omega)) (h1 r (by omega)) (h2 r (by omega)) (fun k hk => h3 _ (by omega))
  · by_cases e1 : r = R
    · by_cases e2 : s = R
      · omega
      · rw [e1, va_up_s, va_up_n _ _ e2] at e; exact absurd e.symm (hna s (by omega))
    · by_cases e2 : s = R
      · rw [e2, va_up_s, va_up_n _ _ e1] at e; exact absurd e (hna r (by omega))
      · rw [va_up_n _ _ e1, va_up_n _ _ e2] at e; exact h.2.2 r s (by omega) (by omega) e
/-- a row's place was written -/
theorem RGr_w {ρ : Nat → Nat} {r j : Nat} {v : Int32} (h : RGr B I m R ρ) (hr : r < R) (h0 : I' m 36 = I m 36) (ha : ∀ s, s < R → s ≠ r → I' (ρ s) = I (ρ s)) (hj : j < mm_N B (ρ r)) (hw : I' (ρ r) = va_up (I (ρ r)) j v) (h1 : I' (m + 31) = I (m + 31)) (h2 : I' (m + 32) = I (m + 32)) (h3 : I' (m + 33) = va_up (I (m + 33)) (64 * r + j) v) (hv : (mm_T B (ρ r) = 201 ∧ b8 v = v) ∨ (mm_T B (ρ r) = 202 ∧ -256 ≤ v.toInt ∧ v.toInt ≤ 255)) : RGr B I' m R ρ := by
  refine ⟨by rw [h0]; exact h.1, fun s hs => ?_, h.2.2⟩
  obtain ⟨z1, z2, zn, zl, zN, -⟩ := h.2.1 r hr
  by_cases e : s = r
  · subst e
    obtain ⟨a1, a2, ln, b1, b2, b3, b4, b5⟩ := h.2.1 s hs
    refine ⟨a1, a2, ln, b1, b2, by rw [h1]; exact b3, fun k hk => ?_, ?_⟩
    · rw [hw, h3]
      by_cases ek : k = j
      · rw [ek, va_up_s, va_up_s]
      · rw [va_up_n _ _ ek, va_up_n _ _ (by omega)]; exact b4 k hk
    · rw [h2, hw]
      rcases b5 with ⟨c1, c2, c3⟩ | ⟨c1, c2, c3⟩
      · refine Or.inl ⟨c1, c2, fun k hk => ?_⟩
        by_cases ek : k = j
        · rw [ek, va_up_s]
          rcases hv with ⟨-, hv⟩ | ⟨hv, -⟩
          · exact hv
          · omega
        · rw [va_up_n _ _ ek]; exact c3 k hk
      · refine Or.inr ⟨c1, c2, fun k hk => ?_⟩
        by_cases ek : k = j
        · rw [ek, va_up_s]
          rcases hv with ⟨hv, -⟩ | ⟨-, hv⟩
          · omega
          · exact hv
        · rw [va_up_n _ _ ek]; exact c3 k hk
  · refine VRw_cg (h.2.1 s hs) (Ext_rf B) (ha s hs e) (by rw [h1]) (by rw [h2]) (fun k hk => ?_)
    have : 64 * s + k ≠ 64 * r + j := by omega
    rw [h3, va_up_n _ _ this]
end LNE
section LNG
variable {g : mm_G} {B B' : mm_B} {I I' : mm_TI} {J J' : mm_TJ} {P P' : mm_TP} {x m n R R' K k : Nat} {o : Nat → Nat} {fl φ : Nat → Nat → Nat} {ρ ρ' φ' : Nat → Nat}
/-- coder k's line was touched, and rows -/
theorem RC_ln (h : RC g B I J P x m n R K o fl φ ρ) (hk : k < n) (hB : Ext B B') (hz : ∀ q, mm_nx B' ≤ q → mm_T B' q = 0)
    (hP : ∀ q, q < mm_nx B → q ≠ o k + 3 → ¬ VCp I m (φ k) k q → P' q = P q)
    (hI : ∀ q, q < mm_nx B → q ≠ x → q ≠ m → q ≠ o k + 2 → q < m + 28 ∨ m + 33 < q → (∀ r, r < R → q ≠ ρ r) → I' q = I q)
    (hJ : ∀ q, q < mm_nx B → J' q = J q) (hst : I' x 9 = I' m 1) (hx : ∀ j, j = 4 ∨ j = 8 → I' x j = I x j) (hm : ∀ j, j = 0 ∨ j = 5 ∨ j = 9 → I' m j = I m j) (hp : RGp I' x m)
    (hs : ∀ r j, 28 ≤ r → r ≤ 30 → j < szM r * k ∨ szM r * k + szM r ≤ j → I' (m + r) j = I (m + r) j)
    (hR : R ≤ R') (hρ : ∀ r, r < R → ρ' r = ρ r) (hr : RGr B' I' m R' ρ') (h32 : ∀ r, r < R → I' (m + 32) r = I (m + 32) r)
    (hl : VCl B' I' P' m (o k) R' φ' ρ' k) (hfr : ∀ q, VCp I' m φ' k q → VCp I m (φ k) k q ∨ mm_nx B ≤ q) : RC g B' I' J' P' x m n R' K o fl (va_up φ k φ') ρ' := by
  obtain ⟨xm, mn⟩ := RC_xm h
  obtain ⟨hV, hM, -⟩ := RG_ly h
  have hv := RC_v h hk
  have mo := hv.1.2.1
  have no := hv.1.2.2.1
  have tg := fun j hj => VC_tg hv (k := j) hj
  have tf := fun i hi => VC_tf hv (i := i) hi
  have tp := fun q hq => VC_tp hv (q := q) hq
  have ro := fun r hr => RC_row h (r := r) hr
  have lo : ∀ q, q < m + 64 → P' q = P q := fun q hq => hP q (by omega) (by omega) (fun e => by have := tp q e; omega)
  have ri : ∀ q, q < mm_nx B → q < m + 64 → q ≠ x → q ≠ m → q < m + 28 ∨ m + 33 < q → I' q = I q := fun q q1 q2 q3 q4 q5 => hI q q1 q3 q4 (by omega) q5 (fun r hr e => by have := ro r hr; omega)
  have fI : ∀ j, j < 33 → j ≠ 2 → I' (o k + j) = I (o k + j) := fun j hj h2 => hI _ (by omega) (by omega) (by omega) (by omega) (by omega) (fun r hr e => by
    have a := (ro r hr).2.2
    have b := tg j hj
    rw [e] at b; omega)
  have fP : ∀ j, j < 33 → j ≠ 3 → P' (o k + j) = P (o k + j) := fun j hj h2 => hP _ (by omega) (by omega) (fun e => by have := tp _ e; omega)
  have fJ : ∀ j, j < 33 → J' (o k + j) = J (o k + j) := fun j hj => hJ _ (by omega)
  have fM : ∀ j, 1 ≤ j → j < 64 → j < 28 ∨ 33 < j → I' (m + j) = I (m + j) := fun j h1 h2 h3 => ri _ (by omega) (by omega) (by omega) (by omega) (by omega)
  have fX : ∀ j, 1 ≤ j → j < 22 → I' (x + j) = I (x + j) := fun j h1 h2 => ri _ (by omega) (by omega) (by omega) (by omega) (by omega)
  have hC : lyC B' P' x (o k) := by
    refine lyC_ext (P := va_up P (o k + 3) (P' (o k + 3))) (lyC_P3 hv.1.1) hB.1 (fun q q1 q2 => ?_)
    by_cases e : q = o k + 3
    · rw [e, va_up_s]
    · rw [va_up_n _ _ e, show q = o k + (q - o k) by omega]; exact fP _ (by omega) (by omega)
  have cn : ∀ q, q < mm_nx B → q ≠ x → q ≠ m → q < m + 28 ∨ m + 33 < q → (mm_T B q = 103 ∨ mm_T B q = 200) → I' q = I q := fun q h1 h2 h3 h4 h5 => hI q h1 h2 h3 (fun e => by
      have : mm_T B (o k + 2) = 105 := hv.1.1.1 2 _ rfl
      rw [e] at h5; omega) h4 (fun r hr e => by have := (ro r hr).2.2; rw [e] at h5; omega)
  refine RC_go (fl' := fl) (o' := o) h k hB.1 hB.2.1 (RCg_mk h hB hz (lyV_ext hV hB (fun q q1 q2 => lo q (by omega))) (lyM_ext hM hB (fun q q1 q2 => lo q (by omega))) (fun q hq => ri q (by omega) (by omega) (by omega) (by omega) (by omega)) ?_ ?_ (RGt_cg (RG_t h) ?_ (hm 5 (by omega)) (fX 3 (by omega) (by omega)) (fM 2 (by omega) (by omega) (by omega))) hp (RGb_cg (RG_b h) (hx 8 (by omega)) (hm 9 (by omega)) (fX 21 (by omega) (by omega)) (fM 4 (by omega) (by omega) (by omega))) (RGz_cg (RG_z h) (fun j j1 j2 => fX j (by omega) (by omega)) (hJ _ (by omega)) (hJ _ (by omega))) hr)
    hst hR hρ h32 (fun d d1 d2 => ⟨d1, rfl, rfl, va_up_n _ _ d2⟩) h.2.2.1 (fun q ho => ?_) (fun d _ _ => by rw [lo (x + 19) (by omega)]) (fun d r j d1 d2 r1 r2 r3 j1 j2 => ?_) (fun d j _ _ _ _ => by rw [hJ (m + 23) (by omega), hJ (m + 24) (by omega)]; exact ⟨rfl, rfl⟩) (fun _ => ?_) (fun q _ hq => ?_)
  · obtain ⟨n1, n2, n3⟩ := RG_n h
    exact ⟨n1, by rw [hx 4 (by omega)]; exact n2, by rw [hm 0 (by omega)]; exact n3⟩
  · obtain ⟨j1, j2⟩ := RG_j h
    exact ⟨by rw [hJ _ (by omega), hJ m (by omega)]; exact j1, fun i hi => by rw [fX 2 (by omega) (by omega), fM 1 (by omega) (by omega) (by omega)]; exact j2 i hi⟩
  · rw [fX 1 (by omega) (by omega)]
  · have h1 : ¬ (x ≤ q ∧ q < x + 22) := fun e => ho (Or.inl e)
    have h2 : ¬ (m ≤ q ∧ q < m + 64) := fun e => ho (Or.inr (Or.inl e))
    have h3 : ¬ (o k ≤ q ∧ q < o k + 33) := fun e => ho (Or.inr (Or.inr (Or.inl ⟨hk, Or.inl (Or.inl e)⟩)))
    have h4 : ¬ VCp I m (φ k) k q := fun e => ho (Or.inr (Or.inr (Or.inl ⟨hk, Or.inr e⟩)))
    have h5 : ∀ r, r < R → q ≠ ρ r := fun r hr e => ho (Or.inr (Or.inr (Or.inr (Or.inl ⟨r, hr, e⟩))))
    have h6 : ¬ mm_nx B ≤ q := fun e => ho (Or.inr (Or.inr (Or.inr (Or.inr e))))
    exact ⟨hI q (by omega) (by omega) (by omega) (by omega) (by omega) h5, hJ q (by omega), hP q (by omega) (by omega) h4⟩
  · by_cases e : 28 ≤ r ∧ r ≤ 30
    · refine hs r j e.1 e.2 ?_
      rcases Nat.lt_or_ge d k with e | e
      · have := Nat.mul_le_mul_left (szM r) (show d + 1 ≤ k by omega)
        rw [Nat.mul_add, Nat.mul_one] at this; omega
      · have := Nat.mul_le_mul_left (szM r) (show k + 1 ≤ d by omega)
        rw [Nat.mul_add, Nat.mul_one] at this; omega
    · rw [fM r (by omega) (by omega) (by omega)]
  · rw [va_up_s]
    refine ⟨⟨hC, mo, by have := hB.2.1; omega, by rw [lo (x + 19) (by omega)]; exact hv.1.2.2.2.1, fun i hi => by rw [fP 6 (by omega) (by omega)]; exact hv.1.2.2.2.2.1 i hi, fun i hi => by rw [fP 19 (by omega) (by omega)]; exact hv.1.2.2.2.2.2.1 i hi, fun i hi => ?_⟩, VCw_cg (RC_w h hk) (by rw [show I' (o k) = I (o k) from fI 0 (by omega) (by omega)]) (fI 1 (by omega) (by omega)) (fM 11 (by omega) (by omega) (by omega)) (fM 12 (by omega) (by omega) (by omega)), VCe_cg (RC_e h hk) (fI 4 (by omega) (by omega)) (fI 5 (by omega) (by omega)) (fun r hr => fM r (by omega) (by omega) (by omega)),
      VCs_cg (RC_s h hk) (by rw [fI 4 (by omega) (by omega)]) (by rw [fI 4 (by omega) (by omega)]) (fun j hj => fI j (by omega) (by omega)) (fun r r1 r2 => fM r (by omega) (by omega) (by omega)) (fun j j1 j2 => fJ j (by omega)) (hJ _ (by omega)) (hJ _ (by omega)), VCm_cw (RC_m1 h hk) (fun j hj => by rw [Nat.add_assoc]; exact fI _ (by omega) (by omega)) (fun r r1 r2 => fM r (by omega) (by omega) (by omega)), VCd_cg (RC_d h hk) (fI 17 (by omega) (by omega)) (fI 28 (by omega) (by omega)) (fun r r1 r2 => fM r (by omega) (by omega) (by omega)), VCm_cw (RC_m2 h hk) (fun j hj => by rw [Nat.add_assoc]; exact fI _ (by omega) (by omega)) (fun r r1 r2 => fM r (by omega) (by omega) (by omega)), fun i hi => ?_, hl⟩
    · obtain ⟨t1, t2⟩ := hv.1.2.2.2.2.2.2 i hi
      rw [(hB.1 _ (by omega)).1, (hB.1 _ (by omega)).1]; exact ⟨t1, t2⟩
    · obtain ⟨a, z, c0, g0, K, f1, f2⟩ := (RC_f h hk) i hi
      obtain ⟨t1, t2⟩ := tf i hi
      have fm := (h.2.2.1.2.1 k i hk hi).1
      have l1 := RC_nx h (q := fl k i) (by omega)
      have l2 := RC_nx h (q := fl k i + 1) (by omega)
      have e1 : I' (fl k i) = I (fl k i) := cn _ l1 (by omega) (by omega) (by omega) (by omega)
      have e2 : I' (fl k i + 1) = I (fl k i + 1) := cn _ l2 (by omega) (by omega) (by omega) (by omega)
      have e3 : P' (fl k i) = P (fl k i) := hP _ l1 (fun e => by
        have : mm_T B (o k + 3) = 209 := hv.1.1.1 3 _ rfl
        rw [e] at t1; omega) (fun e => by have := tp _ e; omega)
      have e4 := hJ _ l1
      refine ⟨a, z, c0, g0, K, ?_, ?_⟩
      · obtain ⟨s1, s2, s3, s4, s5, s6, s7, s8, s9⟩ := f1
        exact ⟨by rw [(hB.1 _ (by omega)).1]; exact s1, by rw [e3]; exact s2, by rw [(hB.1 _ (by omega)).1]; exact s3, s4, by rw [e1]; exact s5, fun e => ⟨by rw [(hB.1 _ (by omega)).2]; exact (s6 e).1, by rw [e2]; exact (s6 e).2⟩, by rw [e4]; exact s7, by rw [e1]; exact s8, by rw [e1]; exact s9⟩
      · unfold FSm at f2 ⊢
        rw [fM 48 (by omega) (by omega) (by omega), fM 49 (by omega) (by omega) (by omega), fM 50 (by omega) (by omega) (by omega), fM 51 (by omega) (by omega) (by omega), fM 52 (by omega) (by omega) (by omega)]; exact f2
  · rw [va_up_s] at hq
    rcases hfr q hq with e | e
    · exact Or.inl ⟨hk, e⟩
    · exact Or.inr e
/-- a frame that was not touched -/
theorem VFr_cg {f q q' : Nat} (h : RC g B I J P x m n R K o fl φ ρ) (hf : VFr B I P m R ρ f q) (hB : Ext B B') (hR : R ≤ R') (hρ : ∀ r, r < R → ρ' r = ρ r) (h32 : ∀ r, r < R → I' (m + 32) r = I (m + 32) r) (hI : I' f 0 = I f 0) (h29 : I' (m + 29) q' = I (m + 29) q) (h30 : I' (m + 30) q' = I (m + 30) q) (hP : P' f = P f) : VFr B' I' P' m R' ρ' f q' := by
  obtain ⟨v1, v2, v3, v4⟩ := hf
  refine ⟨by rw [(hB.1 _ (by omega)).1]; exact v1, by have := hB.2.1; omega, by rw [hI, h29]; exact v3, ?_⟩
  rw [h30, hP]
  rcases v4 with v4 | ⟨r, r1, r2, r3⟩
  · exact Or.inl v4
  · refine Or.inr ⟨r, by omega, r2, ?_⟩
    rw [h32 r r1, hρ r r1]; exact r3
/-- frame j of coder k alone was touched, and rows -/
theorem RC_fr {j L : Nat} (h : RC g B I J P x m n R K o fl φ ρ) (hk : k < n) (hL : I (m + 28) k = nI L) (hl : L ≤ 250) (hj : j < L) (hB : Ext B B') (hz : ∀ q, mm_nx B' ≤ q → mm_T B' q = 0)
    (hP : ∀ q, q < mm_nx B → q ≠ φ k j → P' q = P q)
    (hI : ∀ q, q < mm_nx B → q ≠ x → q ≠ m → q < m + 30 ∨ m + 33 < q → (∀ r, r < R → q ≠ ρ r) → I' q = I q)
    (hJ : ∀ q, q < mm_nx B → J' q = J q) (hst : I' x 9 = I' m 1) (hx : ∀ j, j = 4 ∨ j = 6 ∨ j = 8 → I' x j = I x j) (hm : ∀ j, j = 0 ∨ j = 5 ∨ j = 7 ∨ j = 9 → I' m j = I m j)
    (hs : ∀ q, q ≠ 250 * k + j → I' (m + 30) q = I (m + 30) q)
    (hR : R ≤ R') (hρ : ∀ r, r < R → ρ' r = ρ r) (hr : RGr B' I' m R' ρ') (h32 : ∀ r, r < R → I' (m + 32) r = I (m + 32) r)
    (hv' : VFr B' I' P' m R' ρ' (φ k j) (250 * k + j)) : RC g B' I' J' P' x m n R' K o fl φ ρ' := by
  obtain ⟨xm, mn⟩ := RC_xm h
  have hv := RC_v h hk
  have mo := hv.1.2.1
  have no := hv.1.2.2.1
  have ro := fun r hr => RC_row h (r := r) hr
  have tg := fun j hj => VC_tg hv (k := j) hj
  obtain ⟨L', l1, l2, l3, l4, l5⟩ := RC_l h hk
  obtain rfl : L = L' := (nI_eq (by omega) (by omega)).mp (hL.symm.trans l3)
  have fr : ∀ i, i < L → I' (φ k i) = I (φ k i) := fun i hi => by
    obtain ⟨a1, a2, a3⟩ := l4 i hi
    have := a3.2.1
    exact hI _ (by omega) (by omega) (by omega) (by omega) (fun r hr e => by
      have b := (ro r hr).2.2
      have c := a3.1
      rw [e] at c; omega)
  have fm : ∀ j, 1 ≤ j → j < 64 → j < 30 ∨ 33 < j → I' (m + j) = I (m + j) := fun j h1 h2 h3 => hI _ (by omega) (by omega) (by omega) (by omega) (fun r hr e => by have := ro r hr; omega)
  have tp := fun q hq => VC_tp hv (q := q) hq
  obtain ⟨b1, b2, b3⟩ := l4 j hj
  have key := RC_ln (φ' := φ k) h hk hB hz (fun q q1 q2 q3 => hP q q1 (fun e => q3 ⟨L, j, hL, hl, hj, e⟩)) (fun q q1 q2 q3 q4 q5 q6 => hI q q1 q2 q3 (by omega) q6) hJ hst (fun j hj => hx j (by omega)) (fun j hj => hm j (by omega)) (RGp_cg (RG_p h) (hx 6 (by omega)) (hm 7 (by omega)) (hI _ (by omega) (by omega) (by omega) (by omega) (fun r hr e => by have := ro r hr; omega)) (fm 3 (by omega) (by omega) (by omega))) (fun r i r1 r2 ri => ?_) hR hρ hr h32 ?_ (fun q hq => ?_)
  · rw [va_up_id] at key; exact key
  · by_cases e : r = 30
    · subst e
      have ri' : i < 250 * k ∨ 250 * k + 250 ≤ i := ri
      exact hs i (by omega)
    · rw [fm r (by omega) (by omega) (by omega)]
  · refine ⟨L, hl, ?_, by rw [fm 28 (by omega) (by omega) (by omega)]; exact l3, fun i hi => ?_, l5⟩
    · have e : I' (o k + 2) = I (o k + 2) := hI _ (by omega) (by omega) (by omega) (by omega) (fun r hr e => by
        have a := (ro r hr).2.2
        have b := tg 2 (by omega)
        rw [e] at b; omega)
      rw [e]; exact l2
    · obtain ⟨a1, a2, a3⟩ := l4 i hi
      have e : P' (o k + 3) = P (o k + 3) := hP _ (by omega) (by omega)
      refine ⟨by rw [e]; exact a1, a2, ?_⟩
      by_cases ei : i = j
      · subst ei; exact hv'
      · exact VFr_cg h a3 hB hR hρ h32 (by rw [fr i hi]) (by rw [fm 29 (by omega) (by omega) (by omega)]) (hs _ (by omega)) (hP _ a3.2.1 (fun e => ei (l5 i j hi hj e)))
  · left
    obtain ⟨L2, i, c1, c2⟩ := hq
    exact ⟨L2, i, by rw [← fm 28 (by omega) (by omega) (by omega)]; exact c1, c2⟩
/-- a joint step from its parts -/
theorem jo_m2 {β : Type} {κ : β → Value} {Mc Mm : mm_M} {as : List Value} (H : ∀ (K x m : Nat) (B : mm_B) (I : mm_TI) (J : mm_TJ) (P : mm_TP) (n R : Nat) (o : Nat → Nat) (fl φ : Nat → Nat → Nat) (ρ : Nat → Nat), K < 600 → R ≤ K → RC g B I J P x m n R K o fl φ ρ →
    (∃ (r : β) (a : Int32), Ct g Mc (.ref x :: as) B I J P (some (κ r), B, vst I x a, J, P) ∧ ∀ I1 : mm_TI, (∀ q, q ≠ x → I1 q = I q) → Ct g Mm (.ref m :: as) B I1 J P (some (κ r), B, mo_st I1 m a, J, P)) ∨
    (∃ (r : β) (B1 : mm_B) (I1 : mm_TI) (J1 : mm_TJ) (P1 : mm_TP) (I2 : mm_TI) (J2 : mm_TJ) (P2 : mm_TP) (n' R' : Nat) (o' : Nat → Nat) (fl' φ' : Nat → Nat → Nat) (ρ' : Nat → Nat), Ct g Mc (.ref x :: as) B I J P (some (κ r), B1, I1, J1, P1) ∧ Ct g Mm (.ref m :: as) B1 I1 J1 P1 (some (κ r), B1, I2, J2, P2) ∧ R' ≤ K + 1 ∧ RC g B1 I2 J2 P2 x m n' R' (K + 1) o' fl' φ' ρ' ∧ Ext B B1 ∧ mm_nx B1 ≤ mm_nx B + 100 ∧ mm_sl B1 ≤ mm_sl B + 10000 ∧ ∀ q, q < x → I2 q = I q)) : JOk κ g Mc Mm as := by
  intro K x m B I J P hK ⟨n, R, o, fl, φ, ρ, hR, h⟩
  have xm := (RC_xm h).1
  rcases H K x m B I J P n R o fl φ ρ hK hR h with ⟨r, a, h1, h2⟩ | ⟨r, B1, I1, J1, P1, I2, J2, P2, n', R', o', fl', φ', ρ', h1, h2, h3, h4, h5⟩
  · refine ⟨r, B, vst I x a, J, P, mo_st (vst I x a) m a, J, P, h1, h2 _ (fun q hq => vst_n hq), ⟨n, R, o, fl, φ, ρ, by omega, RC_mono (RC_2 h) (by omega)⟩, Ext_rf B, by omega, by omega, fun q hq => ?_⟩
    rw [show mo_st (vst I x a) m a q = vst I x a q from va_up_n _ _ (by omega), vst_n (by omega)]
  · exact ⟨r, B1, I1, J1, P1, I2, J2, P2, h1, h2, ⟨n', R', o', fl', φ', ρ', h3, h4⟩, h5⟩
end LNG
