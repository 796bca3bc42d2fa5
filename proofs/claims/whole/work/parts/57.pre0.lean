/-! PREDICTION: words of it -/
def sp_cl (v : Int64) : Int64 := if v < -31 then -31 else if 31 < v then 31 else v
def sp_tc (v : Int64) : Int64 := if v < -31 ∨ 31 < v then 1 else 0
def sp_ab (v : Int64) : Int64 := if 0 < v then v else -v
theorem sp_mm {v L M : Int64} (h : L ≤ M) : (if (if v < M then v else M) < L then L else if v < M then v else M) = (if v < L then L else if M < v then M else v) := by
  simp only [Int64.lt_iff_toInt_lt, Int64.le_iff_toInt_le] at *
  apply Int64.toInt_inj.mp
  by_cases h1 : v.toInt < M.toInt
  · rw [if_pos h1]
    by_cases h2 : v.toInt < L.toInt
    · rw [if_pos h2, if_pos h2]
    · rw [if_neg h2, if_neg h2, if_neg (by omega)]
  · rw [if_neg h1, if_neg (by omega), if_neg (by omega)]
    by_cases h3 : M.toInt < v.toInt
    · rw [if_pos h3]
    · rw [if_neg h3]; omega
theorem sp_mme {v L M : Int64} (h : L ≤ M) : (if v < L then L else if M < v then M else v) = v ↔ ¬ (v < L ∨ M < v) := by
  simp only [Int64.lt_iff_toInt_lt, Int64.le_iff_toInt_le] at *
  by_cases h2 : v.toInt < L.toInt
  · rw [if_pos h2]
    refine ⟨fun e => ?_, fun e => absurd (Or.inl h2) e⟩
    rw [e] at h2; omega
  · rw [if_neg h2]
    by_cases h3 : M.toInt < v.toInt
    · rw [if_pos h3]
      refine ⟨fun e => ?_, fun e => absurd (Or.inr h3) e⟩
      rw [e] at h3; omega
    · rw [if_neg h3]
      exact ⟨fun _ e => e.elim h2 h3, fun _ => rfl⟩
/-- one number of the autocorrelation: d products -/
def sp_ac (X : Nat → Int32) (k : Nat) : Nat → Int64
  | 0 => 0
  | d + 1 => sp_ac X k d + (X (k + d)).toInt64 * (X d).toInt64
/-- how far it is shifted -/
def sp_sf (r : Int64) : Nat → Nat → Nat
  | 0, s => s
  | d + 1, s => if r >>> ((nI s).toInt64 &&& 63) < 1073741824 then s else sp_sf r d (s + 1)
theorem sp_sf_e (r : Int64) : r >>> ((nI 33).toInt64 &&& 63) < 1073741824 := by
  rw [Int64.lt_iff_toInt_lt]
  have e : (r >>> ((nI 33).toInt64 &&& 63)).toInt = r.toInt >>> 33 := by
    have hD : ((((nI 33).toInt64 &&& 63).toBitVec).smod 64).toNat = 33 := by decide +kernel
    rw [← hD]
    exact BitVec.toInt_sshiftRight ..
  have h : r.toInt < 2 ^ 63 := r.toBitVec.toInt_lt
  rw [e, Int.shiftRight_eq_div_pow, show (1073741824 : Int64).toInt = 1073741824 by decide +kernel]
  omega
theorem sp_sf_le (r : Int64) : ∀ d s, s + d = 33 → sp_sf r d s ≤ 33 := by
  intro d
  induction d with
  | zero => intro s h; show s ≤ 33; omega
  | succ d ih =>
    intro s h
    show (if _ then s else sp_sf r d (s + 1)) ≤ 33
    split
    · omega
    · exact ih (s + 1) (by omega)
/-- r as it is reflected, before its first number grows -/
def sp_ar (X : Nat → Int32) (n k : Nat) : Int64 := sp_ac X k (n - k) >>> ((nI (sp_sf (sp_ac X 0 n) 33 0)).toInt64 &&& 63)
/-- one reflection: i numbers of p and k -/
def sp_ro (z : Int64) (s : (Nat → Int64) × (Nat → Int64) × Int64) : Nat → (Nat → Int64) × (Nat → Int64) × Int64
  | 0 => s
  | i + 1 => (va_up (sp_ro z s i).1 (i + 1) (sp_W ((sp_ro z s i).1 (i + 1 + 1) + sp_half ((sp_ro z s i).2.1 (i + 1)) z)),
      va_up (sp_ro z s i).2.1 (i + 1) (sp_W ((sp_ro z s i).2.1 (i + 1) + sp_half ((sp_ro z s i).1 (i + 1 + 1)) z)),
      (sp_ro z s i).2.2 + (sp_tW ((sp_ro z s i).1 (i + 1 + 1) + sp_half ((sp_ro z s i).2.1 (i + 1)) z) + sp_tW ((sp_ro z s i).2.1 (i + 1) + sp_half ((sp_ro z s i).1 (i + 1 + 1)) z)))
def sp_r1 (z : Int64) (F K : Nat → Int64) (i : Nat) : (Nat → Int64) × (Nat → Int64) × Int64 := sp_ro z (va_up F 0 (sp_W (F 0 + sp_half (F 1) z)), K, sp_tW (F 0 + sp_half (F 1) z)) i
def sp_z (F : Nat → Int64) : Int64 := -32768 * F 1 / F 0
def sp_v (F : Nat → Int64) : Int64 := (sp_z F + 512) >>> ((nI 10).toInt64 &&& 63)
/-- the INDEXES: d rounds from the m-th on -/
def sp_rf : Nat → Nat → (Nat → Int64) → (Nat → Int64) → (Nat → Int32) → Int64 → (Nat → Int32) × Int64
  | 0, _, _, _, ix, t => (ix, t)
  | d + 1, m, F, K, ix, t => if ¬ 0 < F 0 ∨ ¬ sp_ab (F 1) < F 0 then (ix, t) else
      if d = 0 then (va_up ix m (sp_cl (sp_v F)).toInt32, t + sp_tc (sp_v F)) else
      sp_rf d (m + 1) (sp_r1 (sp_z F) F K (7 - m)).1 (sp_r1 (sp_z F) F K (7 - m)).2.1 (va_up ix m (sp_cl (sp_v F)).toInt32) (t + (sp_tc (sp_v F) + (sp_r1 (sp_z F) F K (7 - m)).2.2))
/-- the whole of it: INDEXES and saturations for a frame X of n -/
def sp_pr (X : Nat → Int32) (n : Nat) : (Nat → Int32) × Int64 :=
  if sp_ar X n 0 = 0 then (fun _ => 0, 0) else
  sp_rf 8 0 (va_up (sp_ar X n) 0 (sp_ar X n 0 + (sp_ar X n 0 >>> ((nI 10).toInt64 &&& 63) + 1))) (sp_ar X n) (fun _ => 0) 0
theorem sp_ro_cg {z : Int64} {F K F' K' : Nat → Int64} {t : Int64} (hF : ∀ j, j ≤ 8 → F j = F' j) (hK : ∀ j, 1 ≤ j → j ≤ 7 → K j = K' j) : ∀ i, i ≤ 7 →
    (∀ j, j ≤ 8 → (sp_ro z (F, K, t) i).1 j = (sp_ro z (F', K', t) i).1 j) ∧ (∀ j, 1 ≤ j → j ≤ 7 → (sp_ro z (F, K, t) i).2.1 j = (sp_ro z (F', K', t) i).2.1 j) ∧ (sp_ro z (F, K, t) i).2.2 = (sp_ro z (F', K', t) i).2.2 := by
  intro i
  induction i with
  | zero => intro _; exact ⟨hF, hK, rfl⟩
  | succ i ih =>
    intro hi
    obtain ⟨a, b, c⟩ := ih (by omega)
    have a1 := a (i + 1 + 1) (by omega)
    have b1 := b (i + 1) (by omega) (by omega)
    refine ⟨fun j hj => ?_, fun j h1 h2 => ?_, ?_⟩
    · show va_up _ _ _ j = va_up _ _ _ j
      rw [a1, b1]
      by_cases e : j = i + 1
      · subst e; rw [va_up_s, va_up_s]
      · rw [va_up_n _ _ e, va_up_n _ _ e]; exact a j hj
    · show va_up _ _ _ j = va_up _ _ _ j
      rw [a1, b1]
      by_cases e : j = i + 1
      · subst e; rw [va_up_s, va_up_s]
      · rw [va_up_n _ _ e, va_up_n _ _ e]; exact b j h1 h2
    · show _ + (_ + _) = _ + (_ + _)
      rw [a1, b1, c]
theorem sp_rf_cg : ∀ (d m : Nat) (F K F' K' : Nat → Int64) (ix : Nat → Int32) (t : Int64), (∀ j, j ≤ 8 → F j = F' j) → (∀ j, 1 ≤ j → j ≤ 7 → K j = K' j) → sp_rf d m F K ix t = sp_rf d m F' K' ix t := by
  intro d
  induction d with
  | zero => intros; rfl
  | succ d ih =>
    intro m F K F' K' ix t hF hK
    have h0 := hF 0 (by omega)
    have h1 := hF 1 (by omega)
    have hz : sp_z F = sp_z F' := by unfold sp_z; rw [h0, h1]
    have hv : sp_v F = sp_v F' := by unfold sp_v; rw [hz]
    have hr := sp_ro_cg (z := sp_z F') (F := va_up F 0 (sp_W (F' 0 + sp_half (F' 1) (sp_z F')))) (K := K) (F' := va_up F' 0 (sp_W (F' 0 + sp_half (F' 1) (sp_z F')))) (K' := K') (t := sp_tW (F' 0 + sp_half (F' 1) (sp_z F')))
      (fun j hj => by
        by_cases e : j = 0
        · subst e; rw [va_up_s, va_up_s]
        · rw [va_up_n _ _ e, va_up_n _ _ e]; exact hF j hj) hK (7 - m) (by omega)
    unfold sp_rf
    rw [h0, h1, hz, hv]
    have e1 : sp_r1 (sp_z F') F K (7 - m) = sp_ro (sp_z F') (va_up F 0 (sp_W (F' 0 + sp_half (F' 1) (sp_z F'))), K, sp_tW (F' 0 + sp_half (F' 1) (sp_z F'))) (7 - m) := by unfold sp_r1; rw [h0, h1]
    rw [e1, hr.2.2]
    unfold sp_r1
    rw [ih (m + 1) _ _ _ _ _ _ hr.1 hr.2.1]
