/-! PULSES: numbers of the search -/
def sp_co (e d : Int) (j : Nat) : Int := (sp_gn j : Int) * ((sp_gn j : Int) * e - 64 * d)
def sp_lt (c : Int) : Option (Int × Nat) → Prop
  | none => True
  | some z => c < z.1
def sp_u1 (c : Int) (k : Nat) : Option (Int × Nat) → Option (Int × Nat)
  | none => some (c, k)
  | some z => if c < z.1 then some (c, k) else some z
theorem sp_u1_t {c : Int} {k : Nat} {s : Option (Int × Nat)} (h : sp_lt c s) : sp_u1 c k s = some (c, k) := by
  cases s with
  | none => rfl
  | some z => exact if_pos h
theorem sp_u1_f {c : Int} {k : Nat} {s : Option (Int × Nat)} (h : ¬ sp_lt c s) : sp_u1 c k s = s := by
  cases s with
  | none => exact absurd trivial h
  | some z => exact if_neg h
/-- k gains tried -/
def sp_bs (e d : Int) (s : Option (Int × Nat)) : Nat → Option (Int × Nat)
  | 0 => s
  | k + 1 => sp_u1 (sp_co e d k) k (sp_bs e d s k)
theorem sp_gn_lt : ∀ i, i < 52 → ∀ j, j < i → sp_gn j < sp_gn i := by decide +kernel
theorem sp_gn_b : ∀ j, j < 52 → 4 ≤ sp_gn j ∧ sp_gn j ≤ 28672 := by decide +kernel
theorem sp_mul_le {a b c : Int} (hc : 0 < c) (h : a * c ≤ b * c) : a ≤ b := Int.le_of_mul_le_mul_right h hc
theorem sp_cv {a b e d : Int} (h : a < b) : a * (a * e - 64 * d) ≤ b * (b * e - 64 * d) ↔ 64 * d ≤ (a + b) * e := by
  have k : b * (b * e - 64 * d) - a * (a * e - 64 * d) = (b - a) * ((a + b) * e - 64 * d) := by grind
  have hp : 0 < b - a := by omega
  constructor
  · intro z
    have z2 : 0 ≤ (b - a) * ((a + b) * e - 64 * d) := by rw [← k]; omega
    have z3 : 0 ≤ (a + b) * e - 64 * d := by
      refine sp_mul_le hp ?_
      rw [Int.zero_mul, Int.mul_comm]
      exact z2
    omega
  · intro z
    have z2 : 0 ≤ (b - a) * ((a + b) * e - 64 * d) := Int.mul_nonneg (by omega) (by omega)
    rw [← k] at z2
    omega
/-- the cost does not fall again -/
theorem sp_co_up {e d : Int} {j i : Nat} (he : 0 < e) (hj : 1 ≤ j) (hi : j < i) (h52 : i < 52) (h : sp_co e d (j - 1) ≤ sp_co e d j) : sp_co e d j ≤ sp_co e d i := by
  have g1 := sp_gn_lt j (by omega) (j - 1) (by omega)
  have g2 := sp_gn_lt i h52 j hi
  have k1 := (sp_cv (a := sp_gn (j - 1)) (b := sp_gn j) (e := e) (d := d) (by omega)).mp h
  refine (sp_cv (a := sp_gn j) (b := sp_gn i) (e := e) (d := d) (by omega)).mpr (Int.le_trans k1 ?_)
  exact Int.mul_le_mul_of_nonneg_right (by omega) (by omega)
theorem sp_bs_st {e d : Int} {s : Option (Int × Nat)} {j : Nat} : ∀ (n : Nat), (∀ i, j ≤ i → i < j + n → ¬ sp_lt (sp_co e d i) (sp_bs e d s j)) → sp_bs e d s (j + n) = sp_bs e d s j := by
  intro n
  induction n with
  | zero => intro _; rfl
  | succ n ih =>
    intro h
    have e1 := ih (fun i a b => h i a (by omega))
    show sp_u1 (sp_co e d (j + n)) (j + n) (sp_bs e d s (j + n)) = _
    rw [e1, sp_u1_f (h (j + n) (by omega) (by omega))]
theorem sp_bs_s {e d : Int} {s : Option (Int × Nat)} (k : Nat) : ∃ z, sp_bs e d s (k + 1) = some z ∧ z.1 ≤ sp_co e d k := by
  rw [sp_bs]
  by_cases c : sp_lt (sp_co e d k) (sp_bs e d s k)
  · rw [sp_u1_t c]; exact ⟨_, rfl, Int.le_refl _⟩
  · rw [sp_u1_f c]
    generalize sp_bs e d s k = q at c
    cases q with
    | none => exact absurd trivial c
    | some z => exact ⟨z, rfl, Int.not_lt.mp c⟩
/-- where the cost rises, or stays, the search may end -/
theorem sp_bs_end {e d : Int} {s : Option (Int × Nat)} {j : Nat} (he : 0 < e) (hj : 1 ≤ j) (h52 : j < 52) (h : sp_co e d (j - 1) ≤ sp_co e d j) : sp_bs e d s 52 = sp_bs e d s j := by
  obtain ⟨z, e1, e2⟩ := sp_bs_s (e := e) (d := d) (s := s) (j - 1)
  rw [show j - 1 + 1 = j by omega] at e1
  have k := sp_bs_st (e := e) (d := d) (s := s) (j := j) (52 - j) (fun i a b => by
    rw [e1]
    show ¬ _ < z.1
    by_cases c : i = j
    · subst c; omega
    · have := sp_co_up he hj (show j < i by omega) (by omega) h
      omega)
  rw [show j + (52 - j) = 52 by omega] at k
  exact k
/-- where the bound is not below, nothing is found -/
theorem sp_bs_no {e d z : Int} {j : Nat} (he : 0 < e) (h : z * e ≤ if 0 < d then -1024 * d * d else 0) : sp_bs e d (some (z, j)) 52 = some (z, j) := by
  have k := sp_bs_st (e := e) (d := d) (s := some (z, j)) (j := 0) 52 (fun i _ hi => by
    show ¬ sp_co e d i < z
    unfold sp_co
    have hg := (sp_gn_b i (by omega)).1
    have hG : (0 : Int) ≤ (sp_gn i : Int) := by omega
    generalize (sp_gn i : Int) = G at hG
    have q : 0 ≤ (G * e - 32 * d) * (G * e - 32 * d) := by
      by_cases c : 0 ≤ G * e - 32 * d
      · exact Int.mul_nonneg c c
      · have := Int.mul_nonneg (show 0 ≤ -(G * e - 32 * d) by omega) (show 0 ≤ -(G * e - 32 * d) by omega)
        rw [Int.neg_mul_neg] at this
        exact this
    have key : G * (G * e - 64 * d) * e = (G * e - 32 * d) * (G * e - 32 * d) - 1024 * d * d := by grind
    by_cases c : 0 < d
    · rw [if_pos c, show -1024 * d * d = -(1024 * d * d) by rw [Int.mul_assoc, Int.mul_assoc, Int.neg_mul]] at h
      have : z ≤ G * (G * e - 64 * d) := sp_mul_le he (by rw [key]; omega)
      omega
    · rw [if_neg c] at h
      have h1 : z ≤ 0 := sp_mul_le he (by rw [Int.zero_mul]; exact h)
      have h2 : 0 ≤ G * e := Int.mul_nonneg hG (by omega)
      have h3 : 0 ≤ G * (G * e - 64 * d) := Int.mul_nonneg hG (by omega)
      omega)
  exact k
/-- all costs are small -/
theorem sp_co_b {e d : Int} {j : Nat} (he : 0 < e) (he2 : e ≤ 4096) (hd : -8388608 ≤ d) (hd2 : d ≤ 8388608) (hj : j < 52) : -35184372088832 < sp_co e d j ∧ sp_co e d j < 35184372088832 := by
  obtain ⟨g1, g2⟩ := sp_gn_b j hj
  unfold sp_co
  have hG : (0 : Int) ≤ (sp_gn j : Int) := by omega
  have hG2 : (sp_gn j : Int) ≤ 28672 := by omega
  generalize (sp_gn j : Int) = G at hG hG2
  have h1 : 0 ≤ G * e := Int.mul_nonneg hG (by omega)
  have h2 : G * e ≤ 28672 * 4096 := Int.mul_le_mul hG2 he2 (by omega) (by omega)
  generalize G * e = X at h1 h2
  have a1 : G * (X - 64 * d) ≤ G * 654311424 := Int.mul_le_mul_of_nonneg_left (by omega) hG
  have a2 : G * (-654311424) ≤ G * (X - 64 * d) := Int.mul_le_mul_of_nonneg_left (by omega) hG
  omega
/-- what the state of a search holds -/
def sp_ok : Option (Int × Nat) → Prop
  | none => True
  | some z => -35184372088832 < z.1 ∧ z.1 < 35184372088832 ∧ z.2 < 52
theorem sp_ok_bs {e d : Int} {s : Option (Int × Nat)} (he : 0 < e) (he2 : e ≤ 4096) (hd : -8388608 ≤ d) (hd2 : d ≤ 8388608) (h : sp_ok s) : ∀ k, k ≤ 52 → sp_ok (sp_bs e d s k) := by
  intro k
  induction k with
  | zero => intro _; exact h
  | succ k ih =>
    intro hk
    show sp_ok (sp_u1 _ _ _)
    by_cases c : sp_lt (sp_co e d k) (sp_bs e d s k)
    · rw [sp_u1_t c]
      have := sp_co_b (j := k) he he2 hd hd2 (by omega)
      exact ⟨this.1, this.2, by omega⟩
    · rw [sp_u1_f c]; exact ih (by omega)
/-- it is better, or it is as it was -/
theorem sp_bs_or {e d : Int} {s : Option (Int × Nat)} : ∀ k, sp_bs e d s k = s ∨ ∃ z, sp_bs e d s k = some z ∧ sp_lt z.1 s := by
  intro k
  induction k with
  | zero => exact Or.inl rfl
  | succ k ih =>
    show sp_u1 _ _ _ = s ∨ ∃ z, sp_u1 _ _ _ = some z ∧ _
    by_cases c : sp_lt (sp_co e d k) (sp_bs e d s k)
    · rw [sp_u1_t c]
      refine Or.inr ⟨_, rfl, ?_⟩
      rcases ih with h | ⟨z, h, h2⟩
      · rw [h] at c; exact c
      · rw [h] at c
        cases s with
        | none => trivial
        | some w => exact Int.lt_trans c h2
    · rw [sp_u1_f c]; exact ih
theorem sp_lt_ne {z : Int × Nat} {s : Option (Int × Nat)} (h : sp_lt z.1 s) : some z ≠ s := by
  cases s with
  | none => intro e; cases e
  | some w => intro e; cases e; exact absurd h (Int.lt_irrefl _)
/-- longs and ints of Z -/
theorem ji_toInt {z : Int} (h : -9223372036854775808 ≤ z) (h2 : z < 9223372036854775808) : (Int64.ofInt z).toInt = z := by
  rw [Int64.toInt_ofInt, show Int64.size = 18446744073709551616 from rfl]
  exact Int.bmod_eq_of_le (by omega) (by omega)
theorem ji_lt {a b : Int} (h : -9223372036854775808 ≤ a) (h2 : a < 9223372036854775808) (h3 : -9223372036854775808 ≤ b) (h4 : b < 9223372036854775808) : Int64.ofInt a < Int64.ofInt b ↔ a < b := by
  rw [Int64.lt_iff_toInt_lt, ji_toInt h h2, ji_toInt h3 h4]
theorem ji_of (x : Int32) : x.toInt64 = Int64.ofInt x.toInt := rfl
theorem ji_i {z : Int} (h : -2147483648 ≤ z) (h2 : z < 2147483648) : (Int32.ofInt z).toInt64 = Int64.ofInt z := by
  rw [ji_of, Int32.toInt_ofInt, show Int32.size = 4294967296 from rfl, Int.bmod_eq_of_le (by omega) (by omega)]
theorem ji_n {n : Nat} (h : n < 2147483648) : (nI n).toInt64 = Int64.ofInt (n : Int) := by
  rw [← mm_ofI, ji_i (by omega) (by omega)]
