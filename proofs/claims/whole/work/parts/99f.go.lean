/-! RC from a memory in which one coder's own cells were touched -/
/-- what an act upon coder c may touch -/
def Own (B : mm_B) (I : mm_TI) (x m n R : Nat) (o : Nat → Nat) (fl φ : Nat → Nat → Nat) (ρ : Nat → Nat) (c q : Nat) : Prop := (x ≤ q ∧ q < x + 22) ∨ (m ≤ q ∧ q < m + 64) ∨ (c < n ∧ (VCq (o c) (fl c) q ∨ VCp I m (φ c) c q)) ∨ (∃ r, r < R ∧ q = ρ r) ∨ mm_nx B ≤ q
theorem lyC_tg : ∀ k, k < 33 → (∃ t, lyC_T[k]? = some (some t) ∧ t ≠ 104 ∧ t ≠ 201 ∧ t ≠ 202 ∧ t ≠ 0) ∨ (20 ≤ k ∧ k < 28) := by
  have key : ∀ k : Fin 33, (match lyC_T[k.val]? with | some (some t) => decide (t ≠ 104 ∧ t ≠ 201 ∧ t ≠ 202 ∧ t ≠ 0) | _ => decide (20 ≤ k.val ∧ k.val < 28)) = true := by decide
  intro k hk
  have h := key ⟨k, hk⟩
  simp only at h
  split at h
  · rename_i t e; exact Or.inl ⟨t, e, by simpa using h⟩
  · exact Or.inr (by simpa using h)
section RGO
variable {g : mm_G} {B B' : mm_B} {I I' : mm_TI} {J J' : mm_TJ} {P P' : mm_TP} {x m n n' R R' K : Nat} {o o' : Nat → Nat} {fl φ fl' φ' : Nat → Nat → Nat} {ρ ρ' : Nat → Nat} {c : Nat}
theorem VC_tg {oc : Nat} {fl φ : Nat → Nat} {c k : Nat} (h : VC B I J P x m oc R K fl φ ρ c) (hk : k < 33) : mm_T B (oc + k) ≠ 104 ∧ mm_T B (oc + k) ≠ 201 ∧ mm_T B (oc + k) ≠ 202 ∧ mm_T B (oc + k) ≠ 0 := by
  obtain ⟨⟨a1, -, -, -, -, -, a7⟩, -⟩ := h
  rcases lyC_tg k hk with ⟨t, e, h⟩ | ⟨h1, h2⟩
  · rw [a1.1 k t e]; exact h
  · obtain ⟨t1, t2⟩ := a7 ((k - 20) / 2) (by omega)
    rcases Nat.mod_two_eq_zero_or_one k with e | e
    · rw [show oc + k = oc + 20 + 2 * ((k - 20) / 2) by omega, t1]; decide
    · rw [show oc + k = oc + 21 + 2 * ((k - 20) / 2) by omega, t2]; decide
theorem VC_tf {oc : Nat} {fl φ : Nat → Nat} {c i : Nat} (h : VC B I J P x m oc R K fl φ ρ c) (hi : i < 4) : mm_T B (fl i) = 103 ∧ mm_T B (fl i + 1) = 200 := by
  obtain ⟨-, -, -, -, -, -, -, hf, -⟩ := h
  obtain ⟨k, z, c0, g0, K, f1, f2⟩ := hf i hi
  exact ⟨f1.1, f1.2.2.1⟩
theorem VC_tp {oc : Nat} {fl φ : Nat → Nat} {c q : Nat} (h : VC B I J P x m oc R K fl φ ρ c) (hq : VCp I m φ c q) : mm_T B q = 104 ∧ q < mm_nx B ∧ oc + 33 ≤ q := by
  obtain ⟨-, -, -, -, -, -, -, -, L, l1, l2, l3, l4, l5⟩ := h
  obtain ⟨L', i, p1, p2, p3, rfl⟩ := hq
  have e : L = L' := (nI_eq (by omega) (by omega)).mp (l3.symm.trans p1)
  subst e
  obtain ⟨u1, u2, u3⟩ := l4 i p3
  exact ⟨u3.1, u3.2.1, u2⟩
theorem RC_row (h : RC g B I J P x m n R K o fl φ ρ) {r : Nat} (hr : r < R) : m + 64 ≤ ρ r ∧ ρ r < mm_nx B ∧ (mm_T B (ρ r) = 201 ∨ mm_T B (ρ r) = 202) := by
  obtain ⟨hg, -⟩ := h
  obtain ⟨-, -, -, -, -, -, -, -, -, -, -, -, -, -, -, -, -, -, -, -, hr1, -⟩ := hg
  obtain ⟨a, b, ln, -, -, -, -, h | h⟩ := hr1 r hr
  · exact ⟨a, b, Or.inl h.2.1⟩
  · exact ⟨a, b, Or.inr h.2.1⟩
theorem RC_nx (h : RC g B I J P x m n R K o fl φ ρ) {q : Nat} (hq : mm_T B q ≠ 0) : q < mm_nx B := by
  rcases Nat.lt_or_ge q (mm_nx B) with e | e
  · exact e
  · exact absurd (h.1.1 q e) hq
theorem RC_xm (h : RC g B I J P x m n R K o fl φ ρ) : x + 22 ≤ m ∧ m + 64 ≤ mm_nx B := by
  obtain ⟨⟨-, -, -, -, -, -, a, b, -⟩, -⟩ := h
  exact ⟨a, b⟩
theorem RC_away (h : RC g B I J P x m n R K o fl φ ρ) {d q : Nat} (hd : d < n) (hdc : d ≠ c) (hq : VCq (o d) (fl d) q ∨ VCp I m (φ d) d q) : ¬ Own B I x m n R o fl φ ρ c q := by
  obtain ⟨hxm, hmn⟩ := RC_xm h
  have hV := h.2.2.2.1 d hd
  have hX := h.2.2.1
  have lo : m + 64 ≤ q ∧ q < mm_nx B ∧ mm_T B q ≠ 201 ∧ mm_T B q ≠ 202 := by
    rcases hq with (⟨h1, h2⟩ | ⟨i, hi, e⟩) | hp
    · have t := VC_tg hV (k := q - o d) (by omega)
      have a := hV.1.2.1
      rw [show o d + (q - o d) = q by omega] at t
      exact ⟨by omega, RC_nx h t.2.2.2, t.2.1, t.2.2.1⟩
    · have a := (hX.2.1 d i hd hi).1
      have t := VC_tf hV hi
      rcases e with rfl | rfl
      · exact ⟨by omega, RC_nx h (by omega), by omega, by omega⟩
      · exact ⟨by omega, RC_nx h (by omega), by omega, by omega⟩
    · have t := VC_tp hV hp
      have a := hV.1.2.1
      exact ⟨by omega, by omega, by omega, by omega⟩
  rintro (h1 | h1 | ⟨hc, h1⟩ | ⟨r, hr, rfl⟩ | h1)
  · omega
  · omega
  · have hW := h.2.2.2.1 c hc
    rcases h1 with (⟨h1, h2⟩ | ⟨i, hi, e⟩) | hp
    · rcases hq with (⟨k1, k2⟩ | ⟨j, hj, e⟩) | hp
      · have := hX.1 c d hc hd (fun e => hdc e.symm); omega
      · have := (hX.2.1 d j hd hj).2 c hc; omega
      · have t := VC_tp hV hp
        have u := VC_tg hW (k := q - o c) (by omega)
        rw [show o c + (q - o c) = q by omega] at u
        exact u.1 t.1
    · have t := VC_tf hW hi
      rcases hq with (⟨k1, k2⟩ | ⟨j, hj, e'⟩) | hp
      · have := (hX.2.1 c i hc hi).2 d hd; omega
      · have a := hX.2.2 c d i j hc hd hi hj (Or.inl (fun e => hdc e.symm))
        have b := hX.2.2 d c j i hd hc hj hi (Or.inl hdc)
        omega
      · have u := VC_tp hV hp
        rcases e with rfl | rfl <;> omega
    · have t := VC_tp hW hp
      rcases hq with (⟨k1, k2⟩ | ⟨j, hj, e'⟩) | hp'
      · have u := VC_tg hV (k := q - o d) (by omega)
        rw [show o d + (q - o d) = q by omega] at u
        exact u.1 t.1
      · have u := VC_tf hV hj
        rcases e' with rfl | rfl <;> omega
      · exact hdc (h.2.2.2.2 d c q hd hc hp' hp)
  · have t := RC_row h hr; omega
  · omega
theorem lyC_ext (h : lyC B P x c) (hB : ∀ q, mm_T B q ≠ 0 → mm_T B' q = mm_T B q ∧ mm_N B' q = mm_N B q) (hp : ∀ q, c ≤ q → q < c + 33 → P' q = P q) : lyC B' P' x c := by
  have tg : ∀ k t, lyC_T[k]? = some (some t) → t ≠ 0 ∧ k < 33 := fun k t e => by
    have hk : k < 33 := by
      rcases Nat.lt_or_ge k 33 with h | h
      · exact h
      · rw [List.getElem?_eq_none (by exact h)] at e; cases e
    rcases lyC_tg k hk with ⟨t', e', q⟩ | ⟨q1, q2⟩
    · rw [e] at e'; cases e'; exact ⟨q.2.2.2, hk⟩
    · have key : ∀ k : Fin 33, 20 ≤ k.val → k.val < 28 → lyC_T[k.val]? = some none := by decide
      rw [key ⟨k, hk⟩ q1 q2] at e; cases e
  refine ⟨fun k t e => ?_, fun k t e => ?_, fun i k j t e => ?_, fun i k j t e => ?_⟩
  · have := h.1 k t e; rw [(hB _ (by have := (tg k t e).1; omega)).1]; exact this
  · have key : ∀ k : Fin 33, (match lyC_N[k.val]? with | some (some _) => (match lyC_T[k.val]? with | some (some t) => decide (t ≠ 0) | _ => false) | _ => true) = true := by decide
    have hk : k < 33 := by
      rcases Nat.lt_or_ge k 33 with h | h
      · exact h
      · rw [List.getElem?_eq_none (by exact h)] at e; cases e
    have q := key ⟨k, hk⟩
    simp only [e] at q
    split at q
    · rename_i t' e'
      have := h.1 k t' e'
      rw [(hB _ (by have := (tg k t' e').1; omega)).2]; exact h.2.1 k t e
    · cases q
  · have key : ∀ r ∈ lyC_P, r.1 < 33 := by decide
    have := key _ (List.mem_of_getElem? e)
    simp only at this
    rw [hp _ (by omega) (by omega)]; exact h.2.2.1 i k j t e
  · have key : ∀ r ∈ lyC_O, r.1 < 33 := by decide
    have := key _ (List.mem_of_getElem? e)
    simp only at this
    rw [hp _ (by omega) (by omega)]; exact h.2.2.2 i k j t e
theorem RC_go (h : RC g B I J P x m n R K o fl φ ρ) (c : Nat) (hB : ∀ q, mm_T B q ≠ 0 → mm_T B' q = mm_T B q ∧ mm_N B' q = mm_N B q) (hnx : mm_nx B ≤ mm_nx B') (hg : RCg g B' I' J' P' x m n' R' ρ') (hst : I' x 9 = I' m 1) (hR : R ≤ R') (hρ : ∀ r, r < R → ρ' r = ρ r) (h32 : ∀ r, r < R → I' (m + 32) r = I (m + 32) r)
    (hn : ∀ d, d < n' → d ≠ c → d < n ∧ o' d = o d ∧ fl' d = fl d ∧ φ' d = φ d) (hX : RCx m n' o' fl')
    (hq : ∀ q, ¬ Own B I x m n R o fl φ ρ c q → I' q = I q ∧ J' q = J q ∧ P' q = P q) (h19 : ∀ d, d < n → d ≠ c → P' (x + 19) d = P (x + 19) d)
    (hs : ∀ d k j, d < n → d ≠ c → 5 ≤ k → k ≤ 52 → k < 31 ∨ 33 < k → szM k * d ≤ j → j < szM k * d + szM k → I' (m + k) j = I (m + k) j) (hJ : ∀ d j, d < n → d ≠ c → 4 * d ≤ j → j < 4 * d + 4 → J' (m + 23) j = J (m + 23) j ∧ J' (m + 24) j = J (m + 24) j)
    (hc : c < n' → VC B' I' J' P' x m (o' c) R' K (fl' c) (φ' c) ρ' c) (hfr : ∀ q, c < n' → VCp I' m (φ' c) c q → (c < n ∧ VCp I m (φ c) c q) ∨ mm_nx B ≤ q) : RC g B' I' J' P' x m n' R' K o' fl' φ' ρ' := by
  have s28 : ∀ d, d < n → d ≠ c → I' (m + 28) d = I (m + 28) d := fun d h1 h2 => hs d 28 d h1 h2 (by omega) (by omega) (by omega) (by show 1 * d ≤ d; omega) (by show d < 1 * d + 1; omega)
  refine ⟨hg, hst, hX, fun d hd => ?_, fun d e q hd he pd pe => ?_⟩
  · by_cases e : d = c
    · subst e; exact hc hd
    · obtain ⟨d1, d2, d3, d4⟩ := hn d hd e
      rw [d2, d3, d4]
      have hV := h.2.2.2.1 d d1
      have hV' := hV
      have un : ∀ q, VCq (o d) (fl d) q ∨ VCp I m (φ d) d q → I' q = I q ∧ J' q = J q ∧ P' q = P q := fun q hp => hq q (RC_away h d1 e hp)
      have hL : lyC B' P' x (o d) := lyC_ext hV.1.1 hB (fun q q1 q2 => (un q (Or.inl (Or.inl ⟨q1, q2⟩))).2.2)
      refine VC_cg (R' := R') (ρ' := ρ') hV hB hnx (fun q hp => un q (Or.inl hp)) (h19 d d1 e) hL ?_ (fun k j kk _ k1 k2 j1 j2 => ?_) (fun j j1 j2 => hJ d j d1 e j1 j2)
      · obtain ⟨-, -, -, -, -, -, -, -, L, l1, l2, l3, l4, l5⟩ := hV
        have q2 := (un (o d + 2) (Or.inl (Or.inl ⟨by omega, by omega⟩))).1
        have q3 := (un (o d + 3) (Or.inl (Or.inl ⟨by omega, by omega⟩))).2.2
        refine ⟨L, l1, by rw [q2]; exact l2, by rw [s28 d d1 e]; exact l3, fun i hi => ?_, l5⟩
        obtain ⟨u1, u2, v1, v2, v3, v4⟩ := l4 i hi
        obtain ⟨w1, -, w3⟩ := un (φ d i) (Or.inr ⟨L, i, l3, l1, hi, rfl⟩)
        have g29 := hs d 29 (250 * d + i) d1 e (by omega) (by omega) (by omega) (by show 250 * d ≤ _; omega) (by show _ < 250 * d + 250; omega)
        have g30 := hs d 30 (250 * d + i) d1 e (by omega) (by omega) (by omega) (by show 250 * d ≤ _; omega) (by show _ < 250 * d + 250; omega)
        refine ⟨by rw [q3]; exact u1, u2, by rw [(hB _ (by omega)).1]; exact v1, by omega, by rw [w1, g29]; exact v3, ?_⟩
        rw [g30, w3]
        rcases v4 with v4 | ⟨r, r1, r2, r3⟩
        · exact Or.inl v4
        · refine Or.inr ⟨r, by omega, r2, ?_⟩
          rw [h32 r r1, hρ r r1]; exact r3
      · exact hs d k j d1 e k1 k2 kk j1 j2
  · by_cases e1 : d = c
    · subst e1
      by_cases e2 : e = d
      · exact e2.symm
      · obtain ⟨d1, d2, d3, d4⟩ := hn e he e2
        rw [d4] at pe
        have pe' : VCp I m (φ e) e q := by
          obtain ⟨L, i, a1, a2⟩ := pe
          exact ⟨L, i, by rw [← s28 e d1 e2]; exact a1, a2⟩
        rcases hfr q hd pd with ⟨f1, f2⟩ | f
        · exact h.2.2.2.2 d e q f1 d1 f2 pe'
        · have := (VC_tp (h.2.2.2.1 e d1) pe').2.1; omega
    · obtain ⟨d1, d2, d3, d4⟩ := hn d hd e1
      rw [d4] at pd
      have pd' : VCp I m (φ d) d q := by
        obtain ⟨L, i, a1, a2⟩ := pd
        exact ⟨L, i, by rw [← s28 d d1 e1]; exact a1, a2⟩
      by_cases e2 : e = c
      · subst e2
        rcases hfr q he pe with ⟨f1, f2⟩ | f
        · exact h.2.2.2.2 d e q d1 f1 pd' f2
        · have := (VC_tp (h.2.2.2.1 d d1) pd').2.1; omega
      · obtain ⟨f1, f2, f3, f4⟩ := hn e he e2
        rw [f4] at pe
        have pe' : VCp I m (φ e) e q := by
          obtain ⟨L, i, a1, a2⟩ := pe
          exact ⟨L, i, by rw [← s28 e f1 e2]; exact a1, a2⟩
        exact h.2.2.2.2 d e q d1 f1 pd' pe'
end RGO
