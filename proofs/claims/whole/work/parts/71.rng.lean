/-! RANGES: what S gives; then no search overflows -/
def r16 (v : Int32) : Prop := -32768 ≤ v.toInt ∧ v.toInt ≤ 32767
theorem sp_S_r (w : Int64) : r16 (sp_S w) := by
  unfold sp_S r16
  by_cases h1 : w < -32768
  · rw [if_pos h1]; decide
  · rw [if_neg h1]
    by_cases h2 : (32767 : Int64) < w
    · rw [if_pos h2]; decide
    · rw [if_neg h2]
      rw [Int64.lt_iff_toInt_lt] at h1 h2
      have e1 : (-32768 : Int64).toInt = -32768 := by decide
      have e2 : (32767 : Int64).toInt = 32767 := by decide
      rw [e1] at h1
      rw [e2] at h2
      rw [Int64.toInt_toInt32, Int.bmod_eq_of_le (by omega) (by omega)]
      omega
theorem r16_0 : r16 0 := by unfold r16; decide
theorem sp_sh5 (a : Int32) : (a >>> (nI 5 &&& 31)).toInt = a.toInt / 32 := by
  rw [show (nI 5 &&& 31) = 5 from rfl]
  rw [← Int32.toInt_toBitVec, Int32.toBitVec_shiftRight, BitVec.toInt_sshiftRight', Int32.toInt_toBitVec]
  rw [show ((5 : Int32).toBitVec.smod 32).toNat = 5 by decide, Int.shiftRight_eq_div_pow]
  rfl
theorem sp_Ub {r w p : Int32} (hr : r16 r) (hw : r16 w) (hp : 0 ≤ p.toInt) (hp7 : p.toInt ≤ 7) : -70000 ≤ (r - ((nI 5 * p * w) >>> (nI 5 &&& 31))).toInt ∧ (r - ((nI 5 * p * w) >>> (nI 5 &&& 31))).toInt ≤ 70000 := by
  unfold r16 at hr hw
  have h5 : (nI 5 * p).toInt = 5 * p.toInt := by
    rw [Int32.toInt_mul, show (nI 5).toInt = 5 from by decide, Int.bmod_eq_of_le (by omega) (by omega)]
  have hb : -1146880 ≤ 5 * p.toInt * w.toInt ∧ 5 * p.toInt * w.toInt ≤ 1146880 := by
    obtain ⟨k, hk⟩ : ∃ k : Nat, p.toInt = k := ⟨p.toInt.toNat, by omega⟩
    rw [hk]
    have : k ≤ 7 := by omega
    generalize w.toInt = y at hw
    have hk' : k = 0 ∨ k = 1 ∨ k = 2 ∨ k = 3 ∨ k = 4 ∨ k = 5 ∨ k = 6 ∨ k = 7 := by omega
    rcases hk' with rfl | rfl | rfl | rfl | rfl | rfl | rfl | rfl <;> omega
  have hm : (nI 5 * p * w).toInt = 5 * p.toInt * w.toInt := by
    rw [Int32.toInt_mul, h5, Int.bmod_eq_of_le (by omega) (by omega)]
  rw [Int32.toInt_sub, sp_sh5, hm]
  generalize 5 * p.toInt * w.toInt = v at hb
  rw [Int.bmod_eq_of_le (by omega) (by omega)]
  omega
theorem sp_zb_of {H R : Nat → Int32} {L sb p : Nat} (hH : ∀ n, n < 160 → r16 (H n)) (hR : ∀ n, r16 (R n)) (hL : 20 ≤ L) (hL2 : L ≤ 147) (hp : p ≤ 7) : sp_zb (sp_hz (sp_U H R L (nI p)) sb) := by
  intro q
  have hu : ∀ n, -70000 ≤ (sp_U H R L (nI p) n).toInt ∧ (sp_U H R L (nI p) n).toInt ≤ 70000 := fun n => by
    have hm : n % L < L := Nat.mod_lt _ (by omega)
    have e : (nI p).toInt = p := nI_toInt (by omega)
    exact sp_Ub (hR n) (hH (160 - L + n % L) (by omega)) (by omega) (by omega)
  have h0 := hu q
  have h1 := hu (q + 1)
  have h2 := hu (q + 2)
  unfold sp_hz
  split <;> split <;> omega
theorem sp_sh_r {H E : Nat → Int32} {sb : Nat} (hb : sb ≤ 160) (hH : ∀ n, n < 160 → r16 (H n)) (hE : ∀ n, r16 (E n)) : ∀ n, n < 160 → r16 (sp_sh H E sb n) := by
  intro n hn
  unfold sp_sh
  by_cases c : n < 160 - sb
  · rw [if_pos c]; exact hH _ (by omega)
  · rw [if_neg c, if_pos hn]; exact hE _
theorem sp_sh_z0 {H E : Nat → Int32} {sb : Nat} : ∀ n, 160 ≤ n → sp_sh H E sb n = 0 := by
  intro n hn
  unfold sp_sh
  rw [if_neg (by omega), if_neg (by omega)]
theorem sp_eE_r {p G : Int32} {A V : Nat → Int32} : ∀ n, r16 (sp_eE p G A V n) := fun _ => sp_S_r _
theorem sp_rs_r {ix : Nat → Int32} {x : Int32} {D : Nat → Int32} (m : Nat) : r16 (sp_rs ix x D (m + 1)).1 := by
  simp only [sp_rs]
  exact sp_S_r _
/-- SYNTHESIS: V and the saturations don't ask what y was; y is new from fr on -/
theorem sp_sq_Y {ix E V Y Y' : Nat → Int32} {fr : Nat} {t : Int64} : ∀ n, (sp_sq ix E fr (V, Y, t) n).1 = (sp_sq ix E fr (V, Y', t) n).1 ∧ (sp_sq ix E fr (V, Y, t) n).2.2 = (sp_sq ix E fr (V, Y', t) n).2.2 ∧
    (∀ k, k < fr + n → (k < fr → Y k = Y' k) → (sp_sq ix E fr (V, Y, t) n).2.1 k = (sp_sq ix E fr (V, Y', t) n).2.1 k) := by
  intro n
  induction n with
  | zero => exact ⟨rfl, rfl, fun k hk h => h (by omega)⟩
  | succ n ih =>
    obtain ⟨h1, h2, h3⟩ := ih
    refine ⟨?_, ?_, fun k hk h => ?_⟩
    · show (sp_syn ix 8 (E n) (sp_sq ix E fr (V, Y, t) n).1 0).2.1 = (sp_syn ix 8 (E n) (sp_sq ix E fr (V, Y', t) n).1 0).2.1
      rw [h1]
    · show (sp_sq ix E fr (V, Y, t) n).2.2 + (sp_syn ix 8 (E n) (sp_sq ix E fr (V, Y, t) n).1 0).2.2 = (sp_sq ix E fr (V, Y', t) n).2.2 + (sp_syn ix 8 (E n) (sp_sq ix E fr (V, Y', t) n).1 0).2.2
      rw [h1, h2]
    · show va_up (sp_sq ix E fr (V, Y, t) n).2.1 (fr + n) (sp_syn ix 8 (E n) (sp_sq ix E fr (V, Y, t) n).1 0).1 k = va_up (sp_sq ix E fr (V, Y', t) n).2.1 (fr + n) (sp_syn ix 8 (E n) (sp_sq ix E fr (V, Y', t) n).1 0).1 k
      by_cases c : k = fr + n
      · subst c; rw [va_up_s, va_up_s, h1]
      · rw [va_up_n _ _ c, va_up_n _ _ c]; exact h3 k (by omega) h
theorem sp_sq_V {ix E V Y : Nat → Int32} {fr : Nat} {t : Int64} (h : ∀ j, 8 ≤ j → V j = 0) : ∀ n j, 8 ≤ j → (sp_sq ix E fr (V, Y, t) n).1 j = 0 := by
  intro n
  induction n with
  | zero => exact h
  | succ n ih => exact fun j hj => sp_syn_z 8 (E n) _ 0 ih (Nat.le_refl _) j hj
/-- HUSH: the same -/
theorem sp_hu_Y {ix H V Y Y' : Nat → Int32} {pk : Int32} {z sb : Nat} {t : Int64} : ∀ n, (sp_hu ix pk z sb (H, V, Y, t) n).1 = (sp_hu ix pk z sb (H, V, Y', t) n).1 ∧ (sp_hu ix pk z sb (H, V, Y, t) n).2.1 = (sp_hu ix pk z sb (H, V, Y', t) n).2.1 ∧ (sp_hu ix pk z sb (H, V, Y, t) n).2.2.2 = (sp_hu ix pk z sb (H, V, Y', t) n).2.2.2 ∧
    (∀ k, k < sb * n → (sp_hu ix pk z sb (H, V, Y, t) n).2.2.1 k = (sp_hu ix pk z sb (H, V, Y', t) n).2.2.1 k) := by
  intro n
  induction n with
  | zero => exact ⟨rfl, rfl, rfl, fun k hk => by omega⟩
  | succ n ih =>
    obtain ⟨h1, h2, h3, h4⟩ := ih
    generalize hA : sp_hu ix pk z sb (H, V, Y, t) n = A at h1 h2 h3 h4
    generalize hA' : sp_hu ix pk z sb (H, V, Y', t) n = A' at h1 h2 h3 h4
    obtain ⟨s1, s2, s3⟩ := sp_sq_Y (ix := ix) (E := sp_hE pk (sp_dz z (n * sb))) (V := A.2.1) (Y := A.2.2.1) (Y' := A'.2.2.1) (fr := sb * n) (t := 0) sb
    rw [h2] at s1 s2 s3
    refine ⟨?_, ?_, ?_, fun k hk => ?_⟩
    · show sp_sh (sp_hu ix pk z sb (H, V, Y, t) n).1 _ sb = sp_sh (sp_hu ix pk z sb (H, V, Y', t) n).1 _ sb
      rw [hA, hA', h1]
    · show (sp_sq ix _ (sb * n) ((sp_hu ix pk z sb (H, V, Y, t) n).2.1, (sp_hu ix pk z sb (H, V, Y, t) n).2.2.1, 0) sb).1 = (sp_sq ix _ (sb * n) ((sp_hu ix pk z sb (H, V, Y', t) n).2.1, (sp_hu ix pk z sb (H, V, Y', t) n).2.2.1, 0) sb).1
      rw [hA, hA', h2]; exact s1
    · show (sp_hu ix pk z sb (H, V, Y, t) n).2.2.2 + (_ + (sp_sq ix _ (sb * n) ((sp_hu ix pk z sb (H, V, Y, t) n).2.1, (sp_hu ix pk z sb (H, V, Y, t) n).2.2.1, 0) sb).2.2) = (sp_hu ix pk z sb (H, V, Y', t) n).2.2.2 + (_ + (sp_sq ix _ (sb * n) ((sp_hu ix pk z sb (H, V, Y', t) n).2.1, (sp_hu ix pk z sb (H, V, Y', t) n).2.2.1, 0) sb).2.2)
      rw [hA, hA', h2, h3, s2]
    · show (sp_sq ix _ (sb * n) ((sp_hu ix pk z sb (H, V, Y, t) n).2.1, (sp_hu ix pk z sb (H, V, Y, t) n).2.2.1, 0) sb).2.1 k = (sp_sq ix _ (sb * n) ((sp_hu ix pk z sb (H, V, Y', t) n).2.1, (sp_hu ix pk z sb (H, V, Y', t) n).2.2.1, 0) sb).2.1 k
      rw [hA, hA', h2]
      exact s3 k (by rw [Nat.mul_succ] at hk; exact hk) (fun hk => h4 k hk)
theorem sp_hu_z0 {ix H V Y : Nat → Int32} {pk : Int32} {z sb : Nat} {t : Int64} (hH : ∀ j, 160 ≤ j → H j = 0) (hV : ∀ j, 8 ≤ j → V j = 0) : ∀ n, (∀ j, 160 ≤ j → (sp_hu ix pk z sb (H, V, Y, t) n).1 j = 0) ∧ (∀ j, 8 ≤ j → (sp_hu ix pk z sb (H, V, Y, t) n).2.1 j = 0) := by
  intro n
  induction n with
  | zero => exact ⟨hH, hV⟩
  | succ n ih => exact ⟨sp_sh_z0, sp_sq_V ih.2 sb⟩
theorem sp_hu_r {ix H V Y : Nat → Int32} {pk : Int32} {z sb : Nat} {t : Int64} (hb : sb ≤ 160) (hH : ∀ j, j < 160 → r16 (H j)) : ∀ n, (∀ j, j < 160 → r16 ((sp_hu ix pk z sb (H, V, Y, t) n).1 j)) := by
  intro n
  induction n with
  | zero => exact hH
  | succ n ih => exact sp_sh_r hb ih (fun n => sp_S_r _)
/-- LATTICE: the rests are new from 0 on -/
theorem sp_la_R {ix X D R R' : Nat → Int32} {t : Int64} : ∀ n, (sp_la ix X (D, R, t) n).1 = (sp_la ix X (D, R', t) n).1 ∧ (sp_la ix X (D, R, t) n).2.2 = (sp_la ix X (D, R', t) n).2.2 ∧ (∀ k, k < n → (sp_la ix X (D, R, t) n).2.1 k = (sp_la ix X (D, R', t) n).2.1 k) := by
  intro n
  induction n with
  | zero => exact ⟨rfl, rfl, fun k hk => by omega⟩
  | succ n ih =>
    obtain ⟨h1, h2, h3⟩ := ih
    refine ⟨?_, ?_, fun k hk => ?_⟩
    · show (sp_rs ix (X n) (sp_la ix X (D, R, t) n).1 8).2.2.1 = (sp_rs ix (X n) (sp_la ix X (D, R', t) n).1 8).2.2.1
      rw [h1]
    · show (sp_la ix X (D, R, t) n).2.2 + (sp_rs ix (X n) (sp_la ix X (D, R, t) n).1 8).2.2.2 = (sp_la ix X (D, R', t) n).2.2 + (sp_rs ix (X n) (sp_la ix X (D, R', t) n).1 8).2.2.2
      rw [h1, h2]
    · show va_up (sp_la ix X (D, R, t) n).2.1 n (sp_rs ix (X n) (sp_la ix X (D, R, t) n).1 8).1 k = va_up (sp_la ix X (D, R', t) n).2.1 n (sp_rs ix (X n) (sp_la ix X (D, R', t) n).1 8).1 k
      by_cases c : k = n
      · subst c; rw [va_up_s, va_up_s, h1]
      · rw [va_up_n _ _ c, va_up_n _ _ c]; exact h3 k (by omega)
theorem sp_la_cg {ix X X' : Nat → Int32} {s : (Nat → Int32) × (Nat → Int32) × Int64} : ∀ n, (∀ k, k < n → X k = X' k) → sp_la ix X s n = sp_la ix X' s n := by
  intro n
  induction n with
  | zero => intro _; rfl
  | succ n ih =>
    intro h
    show (_, _, _) = (_, _, _)
    rw [ih (fun k hk => h k (by omega)), h n (by omega)]
theorem sp_la_r {ix X D R : Nat → Int32} {t : Int64} : ∀ n k, k < n → r16 ((sp_la ix X (D, R, t) n).2.1 k) := by
  intro n
  induction n with
  | zero => intro k hk; omega
  | succ n ih =>
    intro k hk
    show r16 (va_up (sp_la ix X (D, R, t) n).2.1 n (sp_rs ix (X n) (sp_la ix X (D, R, t) n).1 8).1 k)
    by_cases c : k = n
    · subst c; rw [va_up_s]; exact sp_rs_r 7
    · rw [va_up_n _ _ c]; exact ih k (by omega)
theorem sp_la_D {ix X D R : Nat → Int32} {t : Int64} (h : ∀ j, 8 ≤ j → D j = 0) : ∀ n j, 8 ≤ j → (sp_la ix X (D, R, t) n).1 j = 0 := by
  intro n
  induction n with
  | zero => exact h
  | succ n ih => exact fun j hj => sp_rs_z ih 8 (Nat.le_refl _) j hj
