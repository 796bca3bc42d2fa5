/-! JOINT STEPS -/
def Ext (B B' : mm_B) : Prop := (∀ q, mm_T B q ≠ 0 → mm_T B' q = mm_T B q ∧ mm_N B' q = mm_N B q) ∧ mm_nx B ≤ mm_nx B' ∧ mm_sl B ≤ mm_sl B'
theorem Ext_rf (B : mm_B) : Ext B B := ⟨fun _ _ => ⟨rfl, rfl⟩, Nat.le_refl _, Nat.le_refl _⟩
/-- the two stand alike after K calls -/
def RS (g : mm_G) (B : mm_B) (I : mm_TI) (J : mm_TJ) (P : mm_TP) (x m K : Nat) : Prop := ∃ (n R : Nat) (o : Nat → Nat) (fl φ : Nat → Nat → Nat) (ρ : Nat → Nat), R ≤ K ∧ RC g B I J P x m n R K o fl φ ρ
/-- one call of both -/
def JOk {β : Type} (κ : β → Value) (g : mm_G) (Mc Mm : mm_M) (as : List Value) : Prop := ∀ (K x m : Nat) (B : mm_B) (I : mm_TI) (J : mm_TJ) (P : mm_TP), K < 600 → RS g B I J P x m K →
  ∃ (r : β) (B1 : mm_B) (I1 : mm_TI) (J1 : mm_TJ) (P1 : mm_TP) (I2 : mm_TI) (J2 : mm_TJ) (P2 : mm_TP), Ct g Mc (.ref x :: as) B I J P (some (κ r), B1, I1, J1, P1) ∧ Ct g Mm (.ref m :: as) B1 I1 J1 P1 (some (κ r), B1, I2, J2, P2) ∧
    RS g B1 I2 J2 P2 x m (K + 1) ∧ Ext B B1 ∧ mm_nx B1 ≤ mm_nx B + 100 ∧ mm_sl B1 ≤ mm_sl B + 10000 ∧ ∀ q, q < x → I2 q = I q
abbrev JO (g : mm_G) (Mc Mm : mm_M) (as : List Value) : Prop := JOk Value.int g Mc Mm as
abbrev JOL (g : mm_G) (Mc Mm : mm_M) (as : List Value) : Prop := JOk Value.long g Mc Mm as
def vst (I : mm_TI) (x : Nat) (v : Int32) : mm_TI := va_up I x (va_up (I x) 9 v)
theorem vst_n {I : mm_TI} {x q : Nat} {v : Int32} (h : q ≠ x) : vst I x v q = I q := va_up_n _ _ h
theorem vst_9 {I : mm_TI} {x : Nat} {v : Int32} : vst I x v x 9 = v := by unfold vst; rw [va_up_s, va_up_s]
theorem vst_k {I : mm_TI} {x k : Nat} {v : Int32} (h : k ≠ 9) : vst I x v x k = I x k := by unfold vst; rw [va_up_s, va_up_n _ _ h]
theorem vst_v {I : mm_TI} {x : Nat} {v w : Int32} : vst (vst I x v) x w = vst I x w := by unfold vst; rw [bx_uu, va_up_s, bx_uu]
theorem cd_cases {n : Nat} (hn : n ≤ 8) (c : Int32) : (∃ k, k < n ∧ c = nI k) ∨ ¬ (0 ≤ c ∧ c < nI n) := by
  by_cases h : 0 ≤ c ∧ c < nI n
  · left
    have h1 : (0 : Int) ≤ c.toInt := by have := Int32.le_iff_toInt_le.mp h.1; simpa using this
    have h2 : c.toInt < (n : Int) := by have := Int32.lt_iff_toInt_lt.mp h.2; rw [nI_toInt (by omega)] at this; exact this
    refine ⟨c.toInt.toNat, by omega, Int32.toInt_inj.mp ?_⟩
    rw [nI_toInt (by omega)]; omega
  · exact Or.inr h
section RGP
variable {g : mm_G} {B B' : mm_B} {I I' : mm_TI} {J J' : mm_TJ} {P P' : mm_TP} {x m n n' R R' K K' : Nat} {o o' : Nat → Nat} {fl φ fl' φ' : Nat → Nat → Nat} {ρ ρ' : Nat → Nat} {c : Nat}
theorem VRw_cg {r a : Nat} (h : VRw B I m r a) (hB : Ext B B') (ha : I' a = I a) (h1 : I' (m + 31) r = I (m + 31) r) (h2 : I' (m + 32) r = I (m + 32) r) (h3 : ∀ k, k < 64 → I' (m + 33) (64 * r + k) = I (m + 33) (64 * r + k)) : VRw B' I' m r a := by
  obtain ⟨a1, a2, ln, b1, b2, b3, b4, b5⟩ := h
  have ht : mm_T B a ≠ 0 := by rcases b5 with h | h <;> omega
  refine ⟨a1, by have := hB.2.1; omega, ln, b1, by rw [(hB.1 _ ht).2]; exact b2, by rw [h1]; exact b3, fun k hk => ?_, ?_⟩
  · rw [ha, h3 k (by omega)]; exact b4 k hk
  · rw [h2, ha, (hB.1 _ ht).1]; exact b5
/-- the pieces of what all coders share -/
def RGt (I : mm_TI) (x m : Nat) : Prop := ∃ t, t ≤ 32 ∧ I (x + 1) 2 = nI t ∧ I m 5 = nI t ∧ ∀ i, i < t → I (x + 3) i = I (m + 2) i
def RGp (I : mm_TI) (x m : Nat) : Prop := ∃ t, t ≤ 64 ∧ I x 6 = nI t ∧ I m 7 = nI t ∧ ∀ i, i < t → I (x + 20) i = I (m + 3) i ∧ b8 (I (x + 20) i) = I (x + 20) i
def RGb (I : mm_TI) (x m : Nat) : Prop := ∃ b, b ≤ 1284 ∧ I x 8 = nI b ∧ I m 9 = nI b ∧ ∀ i, i < b → I (x + 21) i = I (m + 4) i
def RGz (I : mm_TI) (J : mm_TJ) (x : Nat) : Prop := (∀ k, 5 ≤ k → k ≤ 14 → I (x + k) = fun _ => 0) ∧ (∀ k, k < 9 → J (x + 15) k = 0) ∧ ∀ k, k < 8 → J (x + 16) k = 0
def RGr (B : mm_B) (I : mm_TI) (m R : Nat) (ρ : Nat → Nat) : Prop := I m 36 = nI R ∧ (∀ r, r < R → VRw B I m r (ρ r)) ∧ ∀ r s, r < R → s < R → ρ r = ρ s → r = s
theorem RG_t (h : RC g B I J P x m n R K o fl φ ρ) : RGt I x m := by
  obtain ⟨⟨-, -, -, -, -, -, -, -, -, -, -, -, -, h, -⟩, -⟩ := h; exact h
theorem RG_p (h : RC g B I J P x m n R K o fl φ ρ) : RGp I x m := by
  obtain ⟨⟨-, -, -, -, -, -, -, -, -, -, -, -, -, -, h, -⟩, -⟩ := h; exact h
theorem RG_b (h : RC g B I J P x m n R K o fl φ ρ) : RGb I x m := by
  obtain ⟨⟨-, -, -, -, -, -, -, -, -, -, -, -, -, -, -, h, -⟩, -⟩ := h; exact h
theorem RG_z (h : RC g B I J P x m n R K o fl φ ρ) : RGz I J x := by
  obtain ⟨⟨-, -, -, -, -, -, -, -, -, -, -, -, -, -, -, -, h1, h2, h3, -⟩, -⟩ := h; exact ⟨h1, h2, h3⟩
theorem RG_r (h : RC g B I J P x m n R K o fl φ ρ) : RGr B I m R ρ := by
  obtain ⟨⟨-, -, -, -, -, -, -, -, -, -, -, -, -, -, -, -, -, -, -, h1, h2, h3⟩, -⟩ := h; exact ⟨h1, h2, h3⟩
theorem RG_ly (h : RC g B I J P x m n R K o fl φ ρ) : lyV B P x ∧ lyM B P m ∧ ly_G g B ∧ st_c g I ∧ (∀ i, i < 3 → g.2.2 i < x) := by
  obtain ⟨⟨-, h1, h2, h3, h4, h5, -⟩, -⟩ := h; exact ⟨h1, h2, h3, h4, h5⟩
theorem RG_n (h : RC g B I J P x m n R K o fl φ ρ) : n ≤ 8 ∧ I x 4 = nI n ∧ I m 0 = nI n := by
  obtain ⟨⟨-, -, -, -, -, -, -, -, h1, h2, h3, -⟩, -⟩ := h; exact ⟨h1, h2, h3⟩
theorem RG_j (h : RC g B I J P x m n R K o fl φ ρ) : J (x + 1) 3 = J m 2 ∧ ∀ k, k < 8 → I (x + 2) k = I (m + 1) k := by
  obtain ⟨⟨-, -, -, -, -, -, -, -, -, -, -, h1, h2, -⟩, -⟩ := h; exact ⟨h1, h2⟩
theorem ly_G_ext (h : ly_G g B) (hB : Ext B B') : ly_G g B' := fun i n e => by
  obtain ⟨a, b⟩ := h i n e
  rw [(hB.1 _ (by omega)).1, (hB.1 _ (by omega)).2]; exact ⟨a, b⟩
theorem st_c_lo (h : st_c g I) (hg : ∀ i, i < 3 → g.2.2 i < x) (hi : ∀ q, q < x → I' q = I q) : st_c g I' := by
  unfold st_c at h ⊢
  rw [hi _ (hg 0 (by omega)), hi _ (hg 1 (by omega)), hi _ (hg 2 (by omega))]; exact h
theorem RCg_mk (h : RC g B I J P x m n R K o fl φ ρ) (hB : Ext B B') (hz : ∀ q, mm_nx B' ≤ q → mm_T B' q = 0) (hV : lyV B' P' x) (hM : lyM B' P' m) (hi : ∀ q, q < x → I' q = I q) (hn : n' ≤ 8 ∧ I' x 4 = nI n' ∧ I' m 0 = nI n') (hj : J' (x + 1) 3 = J' m 2 ∧ ∀ k, k < 8 → I' (x + 2) k = I' (m + 1) k)
    (ht : RGt I' x m) (hp : RGp I' x m) (hb : RGb I' x m) (hzz : RGz I' J' x) (hr : RGr B' I' m R' ρ') : RCg g B' I' J' P' x m n' R' ρ' := by
  obtain ⟨-, -, h3, h4, h5⟩ := RG_ly h
  obtain ⟨h6, h7⟩ := RC_xm h
  exact ⟨hz, hV, hM, ly_G_ext h3 hB, st_c_lo h4 h5 hi, h5, h6, by have := hB.2.1; omega, hn.1, hn.2.1, hn.2.2, hj.1, hj.2, ht, hp, hb, hzz.1, hzz.2.1, hzz.2.2, hr.1, hr.2.1, hr.2.2⟩
theorem RGt_cg (h : RGt I x m) (h1 : I' (x + 1) 2 = I (x + 1) 2) (h2 : I' m 5 = I m 5) (h3 : I' (x + 3) = I (x + 3)) (h4 : I' (m + 2) = I (m + 2)) : RGt I' x m := by
  unfold RGt; rw [h1, h2, h3, h4]; exact h
theorem RGp_cg (h : RGp I x m) (h1 : I' x 6 = I x 6) (h2 : I' m 7 = I m 7) (h3 : I' (x + 20) = I (x + 20)) (h4 : I' (m + 3) = I (m + 3)) : RGp I' x m := by
  unfold RGp; rw [h1, h2, h3, h4]; exact h
theorem RGb_cg (h : RGb I x m) (h1 : I' x 8 = I x 8) (h2 : I' m 9 = I m 9) (h3 : I' (x + 21) = I (x + 21)) (h4 : I' (m + 4) = I (m + 4)) : RGb I' x m := by
  unfold RGb; rw [h1, h2, h3, h4]; exact h
theorem RGz_cg (h : RGz I J x) (h1 : ∀ k, 5 ≤ k → k ≤ 14 → I' (x + k) = I (x + k)) (h2 : J' (x + 15) = J (x + 15)) (h3 : J' (x + 16) = J (x + 16)) : RGz I' J' x :=
  ⟨fun k a b => by rw [h1 k a b]; exact h.1 k a b, fun k a => by rw [h2]; exact h.2.1 k a, fun k a => by rw [h3]; exact h.2.2 k a⟩
theorem RGr_cg (h : RGr B I m R ρ) (hB : Ext B B') (h0 : I' m 36 = I m 36) (ha : ∀ r, r < R → I' (ρ r) = I (ρ r)) (h1 : I' (m + 31) = I (m + 31)) (h2 : I' (m + 32) = I (m + 32)) (h3 : I' (m + 33) = I (m + 33)) : RGr B' I' m R ρ :=
  ⟨by rw [h0]; exact h.1, fun r hr => VRw_cg (h.2.1 r hr) hB (ha r hr) (by rw [h1]) (by rw [h2]) (fun k _ => by rw [h3]), h.2.2⟩
/-- nothing that all coders share was touched -/
theorem RCg_cg (h : RC g B I J P x m n R K o fl φ ρ) (hB : Ext B B') (hz : ∀ q, mm_nx B' ≤ q → mm_T B' q = 0) (hV : lyV B' P' x) (hM : lyM B' P' m) (hi : ∀ q, q < x → I' q = I q) (hx : ∀ k, k = 4 ∨ k = 6 ∨ k = 8 → I' x k = I x k) (hx1 : ∀ k, 1 ≤ k → k ≤ 21 → k ≠ 4 → k ≠ 15 → k ≠ 16 → k ≠ 17 → k ≠ 18 → k ≠ 19 → I' (x + k) = I (x + k)) (hxj : ∀ k, k = 1 ∨ k = 15 ∨ k = 16 → J' (x + k) = J (x + k))
    (hm : ∀ k, k = 0 ∨ k = 5 ∨ k = 7 ∨ k = 9 ∨ k = 36 → I' m k = I m k) (hmj : J' m 2 = J m 2) (hm1 : ∀ k, 1 ≤ k → k ≤ 4 ∨ (31 ≤ k ∧ k ≤ 33) → I' (m + k) = I (m + k)) (hr : ∀ r, r < R → I' (ρ r) = I (ρ r)) : RCg g B' I' J' P' x m n R ρ := by
  obtain ⟨n1, n2, n3⟩ := RG_n h
  obtain ⟨j1, j2⟩ := RG_j h
  refine RCg_mk h hB hz hV hM hi ⟨n1, by rw [hx 4 (by omega)]; exact n2, by rw [hm 0 (by omega)]; exact n3⟩ ⟨by rw [hxj 1 (by omega), hmj]; exact j1, fun k hk => by rw [hx1 2 (by omega) (by omega) (by omega) (by omega) (by omega) (by omega) (by omega) (by omega), hm1 1 (by omega) (by omega)]; exact j2 k hk⟩ (RGt_cg (RG_t h) ?_ ?_ ?_ ?_) (RGp_cg (RG_p h) ?_ ?_ ?_ ?_) (RGb_cg (RG_b h) ?_ ?_ ?_ ?_) (RGz_cg (RG_z h) (fun k a b => hx1 k (by omega) (by omega) (by omega) (by omega) (by omega) (by omega) (by omega) (by omega)) (hxj 15 (by omega)) (hxj 16 (by omega))) (RGr_cg (RG_r h) hB (hm 36 (by omega)) hr (hm1 31 (by omega) (by omega)) (hm1 32 (by omega) (by omega)) (hm1 33 (by omega) (by omega)))
  · rw [hx1 1 (by omega) (by omega) (by omega) (by omega) (by omega) (by omega) (by omega) (by omega)]
  · exact hm 5 (by omega)
  · exact hx1 3 (by omega) (by omega) (by omega) (by omega) (by omega) (by omega) (by omega) (by omega)
  · exact hm1 2 (by omega) (by omega)
  · exact hx 6 (by omega)
  · exact hm 7 (by omega)
  · exact hx1 20 (by omega) (by omega) (by omega) (by omega) (by omega) (by omega) (by omega) (by omega)
  · exact hm1 3 (by omega) (by omega)
  · exact hx 8 (by omega)
  · exact hm 9 (by omega)
  · exact hx1 21 (by omega) (by omega) (by omega) (by omega) (by omega) (by omega) (by omega) (by omega)
  · exact hm1 4 (by omega) (by omega)
theorem VC_mono {oc : Nat} {fl φ : Nat → Nat} (h : VC B I J P x m oc R K fl φ ρ c) (hK : K ≤ K') : VC B I J P x m oc R K' fl φ ρ c := by
  obtain ⟨h1, h2, h3, h4, h5, ⟨d1, d2, d3, d4, d5, d6, d7, ⟨de, e1, e2⟩, ⟨rr, f1, f2⟩, d8⟩, h7⟩ := h
  exact ⟨h1, h2, h3, h4, h5, ⟨d1, d2, d3, d4, d5, d6, d7, ⟨de, by omega, e2⟩, ⟨rr, by omega, f2⟩, d8⟩, h7⟩
theorem RC_mono (h : RC g B I J P x m n R K o fl φ ρ) (hK : K ≤ K') : RC g B I J P x m n R K' o fl φ ρ :=
  ⟨h.1, h.2.1, h.2.2.1, fun c hc => VC_mono (h.2.2.2.1 c hc) hK, h.2.2.2.2⟩
/-- no coder was touched, nor any line -/
theorem RC_st (h : RC g B I J P x m n R K o fl φ ρ) (hz : I' x 9 = I' m 1) (hx : ∀ k, k = 4 ∨ k = 6 ∨ k = 8 → I' x k = I x k) (hm : ∀ k, k = 0 ∨ k = 5 ∨ k = 7 ∨ k = 9 ∨ k = 36 → I' m k = I m k) (hq : ∀ q, q ≠ x → q ≠ m → q ≠ x + 17 → q ≠ x + 18 → q < m + 53 ∨ m + 64 ≤ q → I' q = I q) (hj : ∀ q, q ≠ m → q ≠ x + 17 → q ≠ x + 18 → q < m + 53 ∨ m + 64 ≤ q → J' q = J q) (hmj : J' m 2 = J m 2) : RC g B I' J' P x m n R K o fl φ ρ := by
  obtain ⟨xm, mn⟩ := RC_xm h
  obtain ⟨hV, hM, -⟩ := RG_ly h
  have ro := fun r hr => (RC_row h (r := r) hr).1
  refine RC_go h n (fun _ _ => ⟨rfl, rfl⟩) (Nat.le_refl _) (RCg_cg h (Ext_rf B) h.1.1 hV hM (fun q hq' => hq q (by omega) (by omega) (by omega) (by omega) (by omega)) hx (fun k k1 k2 _ _ _ k3 k4 _ => hq _ (by omega) (by omega) (by omega) (by omega) (by omega)) (fun k hk => hj _ (by omega) (by omega) (by omega) (by omega)) hm hmj (fun k k1 k2 => hq _ (by omega) (by omega) (by omega) (by omega) (by omega)) (fun r hr => by have := ro r hr; exact hq _ (by omega) (by omega) (by omega) (by omega) (by omega)))
    hz (Nat.le_refl _) (fun _ _ => rfl) (fun r hr => by rw [hq (m + 32) (by omega) (by omega) (by omega) (by omega) (by omega)]) (fun d d1 d2 => ⟨d1, rfl, rfl, rfl⟩) h.2.2.1 (fun q ho => ?_) (fun _ _ _ => rfl) (fun d k j _ _ k1 k2 _ _ _ => by rw [hq (m + k) (by omega) (by omega) (by omega) (by omega) (by omega)]) (fun d j _ _ _ _ => by rw [hj (m + 23) (by omega) (by omega) (by omega) (by omega), hj (m + 24) (by omega) (by omega) (by omega) (by omega)]; exact ⟨rfl, rfl⟩) (fun e => absurd e (by omega)) (fun q e => absurd e (by omega))
  have h1 : ¬ (x ≤ q ∧ q < x + 22) := fun e => ho (Or.inl e)
  have h2 : ¬ (m ≤ q ∧ q < m + 64) := fun e => ho (Or.inr (Or.inl e))
  exact ⟨hq q (by omega) (by omega) (by omega) (by omega) (by omega), hj q (by omega) (by omega) (by omega) (by omega), rfl⟩
end RGP
