/-! PULSES: the searches -/
abbrev sp_Q : Type := Option (Int × Nat)
abbrev sp_V : Type := Option (Nat × Nat)
def sp_o1 (e d : Int) (pl : Nat × Nat) (t : sp_Q × sp_V) : sp_Q × sp_V := (sp_bs e d t.1 52, if sp_bs e d t.1 52 = t.1 then t.2 else some pl)
def sp_o2 (sb : Nat) (hz : Nat → Int) (q sg r : Nat) (t : sp_Q × sp_V) : sp_Q × sp_V :=
  sp_o1 (sp_pe sb q sg r 1) (sp_pd hz q sg r 1) (r, 1) (sp_o1 (sp_pe sb q sg r 0) (sp_pd hz q sg r 0) (r, 0) t)
def sp_os (sb : Nat) (hz : Nat → Int) (q sg : Nat) (t : sp_Q × sp_V) : Nat → sp_Q × sp_V
  | 0 => t
  | k + 1 => sp_o2 sb hz q sg (2 * k + 1) (sp_os sb hz q sg t k)
def sp_e2 (sb : Nat) (hz : Nat → Int) (q : Nat) (t : sp_Q × sp_V) : sp_Q × sp_V :=
  sp_o1 (sp_en sb q : Nat) (sp_tn 1 (hz q)) (q, 1) (sp_o1 (sp_en sb q : Nat) (sp_tn 0 (hz q)) (q, 0) t)
def sp_es (sb : Nat) (hz : Nat → Int) (t : sp_Q × sp_V) : Nat → sp_Q × sp_V
  | 0 => t
  | k + 1 => sp_e2 sb hz (2 * k) (sp_es sb hz t k)
def sp_q1 (sb : Nat) (hz : Nat → Int) (q sg : Nat) (t : sp_Q × sp_V × sp_V) : sp_Q × sp_V × sp_V :=
  ((sp_os sb hz q sg (t.1, t.2.1) (sb / 2)).1, (sp_os sb hz q sg (t.1, t.2.1) (sb / 2)).2, if (sp_os sb hz q sg (t.1, t.2.1) (sb / 2)).1 = t.1 then t.2.2 else some (q, sg))
def sp_qs (sb : Nat) (hz : Nat → Int) (t : sp_Q × sp_V × sp_V) : Nat → sp_Q × sp_V × sp_V
  | 0 => t
  | k + 1 => sp_q1 sb hz (2 * k) 1 (sp_q1 sb hz (2 * k) 0 (sp_qs sb hz t k))
def sp_ev (v : sp_V) : Nat × Nat := v.getD (0, 0)
/-- PULSES: cost and gain, the odd one, the even one -/
def sp_pul (sb : Nat) (hz : Nat → Int) (wh : Prop) [Decidable wh] : sp_Q × sp_V × sp_V :=
  if wh then sp_qs sb hz (none, none, none) (sb / 2)
  else ((sp_os sb hz (sp_ev (sp_es sb hz (none, none) (sb / 2)).2).1 (sp_ev (sp_es sb hz (none, none) (sb / 2)).2).2 (none, none) (sb / 2)).1,
    (sp_os sb hz (sp_ev (sp_es sb hz (none, none) (sb / 2)).2).1 (sp_ev (sp_es sb hz (none, none) (sb / 2)).2).2 (none, none) (sb / 2)).2,
    (sp_es sb hz (none, none) (sb / 2)).2)
/-- as it was, or better -/
def sp_ch (s0 cur : sp_Q) : Prop := cur = s0 ∨ ∃ z, cur = some z ∧ sp_lt z.1 s0
theorem sp_ch_r (s : sp_Q) : sp_ch s s := Or.inl rfl
theorem sp_ch_t {a b c : sp_Q} (h1 : sp_ch a b) (h2 : sp_ch b c) : sp_ch a c := by
  rcases h2 with h | ⟨z, h, h3⟩
  · rw [h]; exact h1
  · rcases h1 with k | ⟨w, k, k2⟩
    · subst k; exact Or.inr ⟨z, h, h3⟩
    · subst k
      refine Or.inr ⟨z, h, ?_⟩
      cases a with
      | none => trivial
      | some y => exact Int.lt_trans h3 k2
theorem sp_ch_bs {e d : Int} {s : sp_Q} (k : Nat) : sp_ch s (sp_bs e d s k) := sp_bs_or k
theorem sp_ch_ne {a b c : sp_Q} (h1 : sp_ch a b) (h2 : sp_ch b c) (h : c ≠ b) : c ≠ a := by
  rcases h2 with k | ⟨z, k, k2⟩
  · exact absurd k h
  · subst k
    rcases h1 with k | ⟨w, k, k3⟩
    · subst k; exact h
    · subst k
      cases a with
      | none => intro e; cases e
      | some y =>
        intro e
        cases e
        have a1 : z.1 < w.1 := k2
        have a2 : w.1 < z.1 := k3
        omega
theorem sp_ch_os {sb : Nat} {hz : Nat → Int} {q sg : Nat} {t : sp_Q × sp_V} : ∀ k, sp_ch t.1 (sp_os sb hz q sg t k).1 := by
  intro k
  induction k with
  | zero => exact sp_ch_r _
  | succ k ih => exact sp_ch_t ih (sp_ch_t (sp_ch_bs 52) (sp_ch_bs 52))
theorem sp_im_i {s0 cur nw : sp_Q} (h1 : sp_ch s0 cur) (h2 : sp_ch cur nw) : sp_im s0 nw = if nw = cur then sp_im s0 cur else 1 := by
  by_cases c : nw = cur
  · rw [if_pos c, c]
  · rw [if_neg c]
    unfold sp_im
    rw [if_neg (fun z => sp_ch_ne h1 h2 c z.symm)]
/-- bounds of the hits -/
def sp_zb (hz : Nat → Int) : Prop := ∀ n, -4194304 ≤ hz n ∧ hz n ≤ 4194304
theorem sp_ok_o1 {sb q sg r ot : Nat} {hz : Nat → Int} {pl : Nat × Nat} {t : sp_Q × sp_V} (hb : sp_zb hz) (hq : q < sb) (hr : r < sb) (h1 : q ≠ r) (h : sp_ok t.1) : sp_ok (sp_o1 (sp_pe sb q sg r ot) (sp_pd hz q sg r ot) pl t).1 := by
  have be := sp_pe_b (sg := sg) (ot := ot) hq hr h1
  have bd := sp_pd_b (sg := sg) (ot := ot) (hb q) (hb r)
  exact sp_ok_bs be.1 be.2 bd.1 bd.2 h 52 (Nat.le_refl _)
theorem sp_ok_os {sb q sg : Nat} {hz : Nat → Int} {t : sp_Q × sp_V} (hb : sp_zb hz) (hq : q < sb) (hq2 : q % 2 = 0) (h : sp_ok t.1) : ∀ k, k ≤ sb / 2 → sp_ok (sp_os sb hz q sg t k).1 := by
  intro k
  induction k with
  | zero => intro _; exact h
  | succ k ih =>
    intro hk
    exact sp_ok_o1 hb hq (by omega) (by omega) (sp_ok_o1 hb hq (by omega) (by omega) (ih (by omega)))
theorem sp_tn_b {hz : Nat → Int} (hb : sp_zb hz) (s q : Nat) : -8388608 ≤ sp_tn s (hz q) ∧ sp_tn s (hz q) ≤ 8388608 := by
  have := hb q
  unfold sp_tn
  split <;> omega
theorem sp_ok_es {sb : Nat} {hz : Nat → Int} {t : sp_Q × sp_V} (hb : sp_zb hz) (h : sp_ok t.1) : ∀ k, sp_ok (sp_es sb hz t k).1 := by
  intro k
  induction k with
  | zero => exact h
  | succ k ih =>
    have a := sp_en_b (sb := sb) (q := 2 * k)
    have b0 := sp_tn_b hb 0 (2 * k)
    have b1 := sp_tn_b hb 1 (2 * k)
    exact sp_ok_bs (by omega) (by omega) b1.1 b1.2 (sp_ok_bs (by omega) (by omega) b0.1 b0.2 ih 52 (Nat.le_refl _)) 52 (Nat.le_refl _)
theorem sp_ok_q1 {sb q sg : Nat} {hz : Nat → Int} {t : sp_Q × sp_V × sp_V} (hb : sp_zb hz) (hq : q < sb) (hq2 : q % 2 = 0) (h : sp_ok t.1) : sp_ok (sp_q1 sb hz q sg t).1 := sp_ok_os (t := (t.1, t.2.1)) hb hq hq2 h _ (Nat.le_refl _)
theorem sp_ok_qs {sb : Nat} {hz : Nat → Int} {t : sp_Q × sp_V × sp_V} (hb : sp_zb hz) (h : sp_ok t.1) : ∀ k, k ≤ sb / 2 → sp_ok (sp_qs sb hz t k).1 := by
  intro k
  induction k with
  | zero => intro _; exact h
  | succ k ih =>
    intro hk
    exact sp_ok_q1 hb (by omega) (by omega) (sp_ok_q1 hb (by omega) (by omega) (ih (by omega)))
/-- what has been found: if a cost, then places with it -/
def sp_fo (sb c : Nat) (t : sp_Q × sp_V) : Prop := (t.1 = none ∧ t.2 = none) ∨ (∃ z, t.1 = some z) ∧ ∃ a b, t.2 = some (a, b) ∧ a < sb ∧ a % 2 = c ∧ b ≤ 1
theorem sp_fo_o1 {sb c : Nat} {e d : Int} {a b : Nat} {t : sp_Q × sp_V} (h : sp_fo sb c t) (ha : a < sb) (ha2 : a % 2 = c) (hb : b ≤ 1) : sp_fo sb c (sp_o1 e d (a, b) t) ∧ ∃ z, (sp_o1 e d (a, b) t).1 = some z := by
  obtain ⟨z, e1, e2⟩ := sp_bs_s (e := e) (d := d) (s := t.1) 51
  have e3 : (sp_o1 e d (a, b) t).1 = some z := e1
  refine ⟨Or.inr ⟨⟨z, e3⟩, ?_⟩, z, e3⟩
  unfold sp_o1
  by_cases k : sp_bs e d t.1 52 = t.1
  · rw [if_pos k]
    rcases h with h | h
    · rw [h.1] at k
      rw [h.1] at e1
      rw [show sp_bs e d none 52 = some z from e1] at k
      cases k
    · exact h.2
  · rw [if_neg k]
    exact ⟨a, b, rfl, ha, ha2, hb⟩
theorem sp_fo_os {sb q sg : Nat} {hz : Nat → Int} {t : sp_Q × sp_V} (h : sp_fo sb 1 t) : ∀ k, k ≤ sb / 2 → sp_fo sb 1 (sp_os sb hz q sg t k) ∧ (1 ≤ k → ∃ z, (sp_os sb hz q sg t k).1 = some z) := by
  intro k
  induction k with
  | zero => intro _; exact ⟨h, fun z => absurd z (by omega)⟩
  | succ k ih =>
    intro hk
    have a := sp_fo_o1 (e := sp_pe sb q sg (2 * k + 1) 0) (d := sp_pd hz q sg (2 * k + 1) 0) (a := 2 * k + 1) (b := 0) (ih (by omega)).1 (by omega) (by omega) (by omega)
    have b := sp_fo_o1 (e := sp_pe sb q sg (2 * k + 1) 1) (d := sp_pd hz q sg (2 * k + 1) 1) (a := 2 * k + 1) (b := 1) a.1 (by omega) (by omega) (by omega)
    exact ⟨b.1, fun _ => b.2⟩
theorem sp_fo_es {sb : Nat} {hz : Nat → Int} {t : sp_Q × sp_V} (h : sp_fo sb 0 t) : ∀ k, k ≤ sb / 2 → sp_fo sb 0 (sp_es sb hz t k) ∧ (1 ≤ k → ∃ z, (sp_es sb hz t k).1 = some z) := by
  intro k
  induction k with
  | zero => intro _; exact ⟨h, fun z => absurd z (by omega)⟩
  | succ k ih =>
    intro hk
    have a := sp_fo_o1 (e := (sp_en sb (2 * k) : Nat)) (d := sp_tn 0 (hz (2 * k))) (a := 2 * k) (b := 0) (ih (by omega)).1 (by omega) (by omega) (by omega)
    have b := sp_fo_o1 (e := (sp_en sb (2 * k) : Nat)) (d := sp_tn 1 (hz (2 * k))) (a := 2 * k) (b := 1) a.1 (by omega) (by omega) (by omega)
    exact ⟨b.1, fun _ => b.2⟩
def sp_fq (sb : Nat) (t : sp_Q × sp_V × sp_V) : Prop := sp_fo sb 1 (t.1, t.2.1) ∧ sp_fo sb 0 (t.1, t.2.2)
theorem sp_fq_q1 {sb q sg : Nat} {hz : Nat → Int} {t : sp_Q × sp_V × sp_V} (hs : 2 ≤ sb) (h : sp_fq sb t) (hq : q < sb) (hq2 : q % 2 = 0) (hg : sg ≤ 1) : sp_fq sb (sp_q1 sb hz q sg t) ∧ ∃ z, (sp_q1 sb hz q sg t).1 = some z := by
  obtain ⟨a, b⟩ := sp_fo_os (q := q) (sg := sg) (hz := hz) h.1 (sb / 2) (Nat.le_refl _)
  obtain ⟨z, b⟩ := b (by omega)
  refine ⟨⟨a, ?_⟩, z, b⟩
  refine Or.inr ⟨⟨z, b⟩, ?_⟩
  show ∃ a b, (if (sp_os sb hz q sg (t.1, t.2.1) (sb / 2)).1 = t.1 then t.2.2 else some (q, sg)) = some (a, b) ∧ _
  by_cases c : (sp_os sb hz q sg (t.1, t.2.1) (sb / 2)).1 = t.1
  · rw [if_pos c]
    rcases h.2 with k | k
    · have k1 : t.1 = none := k.1
      rw [b, k1] at c
      cases c
    · exact k.2
  · rw [if_neg c]
    exact ⟨q, sg, rfl, hq, hq2, hg⟩
theorem sp_fq_qs {sb : Nat} {hz : Nat → Int} {t : sp_Q × sp_V × sp_V} (hs : 2 ≤ sb) (h : sp_fq sb t) : ∀ k, k ≤ sb / 2 → sp_fq sb (sp_qs sb hz t k) ∧ (1 ≤ k → ∃ z, (sp_qs sb hz t k).1 = some z) := by
  intro k
  induction k with
  | zero => intro _; exact ⟨h, fun z => absurd z (by omega)⟩
  | succ k ih =>
    intro hk
    have a := sp_fq_q1 (hz := hz) (q := 2 * k) (sg := 0) hs (ih (by omega)).1 (by omega) (by omega) (by omega)
    have b := sp_fq_q1 (hz := hz) (q := 2 * k) (sg := 1) hs a.1 (by omega) (by omega) (by omega)
    exact ⟨b.1, fun _ => b.2⟩
theorem sp_fq_0 {sb : Nat} : sp_fq sb (none, none, none) := ⟨Or.inl ⟨rfl, rfl⟩, Or.inl ⟨rfl, rfl⟩⟩
theorem sp_ev_e {sb : Nat} {hz : Nat → Int} (hs : 2 ≤ sb) : (sp_es sb hz (none, none) (sb / 2)).2 = some (sp_ev (sp_es sb hz (none, none) (sb / 2)).2) ∧ (sp_ev (sp_es sb hz (none, none) (sb / 2)).2).1 < sb ∧ (sp_ev (sp_es sb hz (none, none) (sb / 2)).2).1 % 2 = 0 ∧ (sp_ev (sp_es sb hz (none, none) (sb / 2)).2).2 ≤ 1 := by
  obtain ⟨a, b⟩ := sp_fo_es (hz := hz) (t := (none, none)) (sb := sb) (Or.inl ⟨rfl, rfl⟩) (sb / 2) (Nat.le_refl _)
  obtain ⟨z, b⟩ := b (by omega)
  rcases a with a | ⟨_, u, v, e, h1, h2, h3⟩
  · rw [a.1] at b; cases b
  · rw [e]; exact ⟨rfl, h1, h2, h3⟩
/-- PULSES are found, and they are such -/
theorem sp_pul_e {sb : Nat} {hz : Nat → Int} {wh : Prop} [Decidable wh] (hs : 2 ≤ sb) (hb : sp_zb hz) : ∃ z j a b c d, sp_pul sb hz wh = (some (z, j), some (a, b), some (c, d)) ∧ -35184372088832 < z ∧ z < 35184372088832 ∧ j < 52 ∧ a < sb ∧ b ≤ 1 ∧ c < sb ∧ d ≤ 1 := by
  unfold sp_pul
  by_cases w : wh
  · rw [if_pos w]
    obtain ⟨h1, h2⟩ := sp_fq_qs (hz := hz) hs (sp_fq_0 (sb := sb)) (sb / 2) (Nat.le_refl _)
    have hk := sp_ok_qs (sb := sb) (t := (none, none, none)) hb trivial (sb / 2) (Nat.le_refl _)
    obtain ⟨⟨z, j⟩, h2⟩ := h2 (by omega)
    generalize sp_qs sb hz (none, none, none) (sb / 2) = T at h1 h2 hk ⊢
    obtain ⟨t1, t2, t3⟩ := T
    obtain ⟨k1, k2⟩ := h1
    have h3 : t1 = some (z, j) := h2
    subst h3
    rcases k1 with k1 | ⟨_, a, b, e1, a1, a2, a3⟩
    · cases k1.1
    · rcases k2 with k2 | ⟨_, c, d, e2, b1, b2, b3⟩
      · cases k2.1
      · have e1' : t2 = some (a, b) := e1
        have e2' : t3 = some (c, d) := e2
        subst e1'
        subst e2'
        exact ⟨z, j, a, b, c, d, rfl, hk.1, hk.2.1, hk.2.2, a1, a3, b1, b3⟩
  · rw [if_neg w]
    obtain ⟨g1, g2, g3, g4⟩ := sp_ev_e (sb := sb) (hz := hz) hs
    generalize hc : sp_ev (sp_es sb hz (none, none) (sb / 2)).2 = C at g1 g2 g3 g4
    obtain ⟨c, d⟩ := C
    rw [g1]
    obtain ⟨h1, h2⟩ := sp_fo_os (hz := hz) (q := c) (sg := d) (t := (none, none)) (sb := sb) (Or.inl ⟨rfl, rfl⟩) (sb / 2) (Nat.le_refl _)
    have hk := sp_ok_os (sb := sb) (q := c) (sg := d) (t := (none, none)) hb g2 g3 trivial (sb / 2) (Nat.le_refl _)
    obtain ⟨⟨z, j⟩, h2⟩ := h2 (by omega)
    rw [h2] at hk
    rcases h1 with k1 | ⟨_, a, b, e1, a1, a2, a3⟩
    · rw [k1.1] at h2; cases h2
    · refine ⟨z, j, a, b, c, d, ?_, hk.1, hk.2.1, hk.2.2, a1, a3, g2, g4⟩
      rw [h2, e1]
