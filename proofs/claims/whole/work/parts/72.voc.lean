/-! VOICE: one PART after the other -/
section EQR
variable {g : mm_G} {M : mm_M} {pc : Nat} {lv : mm_L} {st : List Value} {B : mm_B} {I : mm_TI} {J : mm_TJ} {P : mm_TP} {Z : mm_Z}
theorem ev_eqR {y : Option Nat} {a : Nat} (e : y = some a) (h : Ev g M pc lv (.ref a :: st) B I J P Z) : Ev g M pc lv (va_rf y :: st) B I J P Z := by
  subst e; exact h
theorem ev_eqN {y : Option Nat} (e : y = none) (h : Ev g M pc lv (.null :: st) B I J P Z) : Ev g M pc lv (va_rf y :: st) B I J P Z := by
  subst e; exact h
theorem st_c_of {I' : mm_TI} (h : st_c g I) (e : ∀ i, i < 3 → I' (g.2.2 i) = I (g.2.2 i)) : st_c g I' := by
  unfold st_c
  rw [e 0 (by decide), e 1 (by decide), e 2 (by decide)]
  exact h
end EQR
def vk_P (H R : Nat → Int32) (sb w1 : Nat) : Int64 × Int32 × Int32 := sp_pit H R sb (w1 = 1)
def vk_L (H R : Nat → Int32) (sb w1 : Nat) : Nat := (vk_P H R sb w1).2.1.toInt.toNat
def vk_p (H R : Nat → Int32) (sb w1 : Nat) : Nat := (vk_P H R sb w1).2.2.toInt.toNat
def vk_Q (H R : Nat → Int32) (sb w1 w2 : Nat) : sp_Q × sp_V × sp_V := sp_pul sb (sp_hz (sp_U H R (vk_L H R sb w1) (nI (vk_p H R sb w1))) sb) (w2 = 1)
def vk_z (H R : Nat → Int32) (sb w1 w2 : Nat) : Int := ((vk_Q H R sb w1 w2).1.getD (0, 0)).1
def vk_j (H R : Nat → Int32) (sb w1 w2 : Nat) : Nat := ((vk_Q H R sb w1 w2).1.getD (0, 0)).2
def vk_o (H R : Nat → Int32) (sb w1 w2 : Nat) : Nat × Nat := (vk_Q H R sb w1 w2).2.1.getD (0, 0)
def vk_e (H R : Nat → Int32) (sb w1 w2 : Nat) : Nat × Nat := (vk_Q H R sb w1 w2).2.2.getD (0, 0)
def vk_E (H R : Nat → Int32) (sb w1 w2 : Nat) : Nat → Int32 := sp_eE (nI (vk_p H R sb w1)) (nI (sp_gn (vk_j H R sb w1 w2))) (sp_beh H (vk_L H R sb w1)) (sp_pv sb (vk_e H R sb w1 w2).1 (vk_e H R sb w1 w2).2 (vk_o H R sb w1 w2).1 (vk_o H R sb w1 w2).2)
def vk_T (H R : Nat → Int32) (sb w1 w2 : Nat) : Int64 := sp_eT (nI (vk_p H R sb w1)) (nI (sp_gn (vk_j H R sb w1 w2))) (sp_beh H (vk_L H R sb w1)) (sp_pv sb (vk_e H R sb w1 w2).1 (vk_e H R sb w1 w2).2 (vk_o H R sb w1 w2).1 (vk_o H R sb w1 w2).2) sb
theorem vk_P_e (H R : Nat → Int32) (sb w1 : Nat) : 20 ≤ vk_L H R sb w1 ∧ vk_L H R sb w1 ≤ 147 ∧ vk_p H R sb w1 ≤ 7 ∧ (vk_P H R sb w1).2.1 = nI (vk_L H R sb w1) ∧ (vk_P H R sb w1).2.2 = nI (vk_p H R sb w1) := by
  have hk : sp_pk (vk_P H R sb w1) := by
    unfold vk_P sp_pit
    by_cases c : w1 = 1
    · rw [if_pos c]; exact sp_pk_tls (by omega) 128 (by omega)
    · rw [if_neg c]
      obtain ⟨_, m1, m2⟩ := sp_mid_e (H := H) (R := R) (sb := sb)
      exact sp_pk_tls (by omega) _ (by omega)
  unfold vk_L vk_p
  generalize vk_P H R sb w1 = Q at hk
  obtain ⟨_, ⟨n, a, b, e⟩, p, hp, e2⟩ := hk
  have t1 : (nI n).toInt = n := nI_toInt (by omega)
  have t2 : (nI p).toInt = p := nI_toInt (by omega)
  rw [e, e2, t1, t2]
  refine ⟨by omega, by omega, by omega, ?_, ?_⟩
  · rw [show ((n : Int).toNat) = n by omega]
  · rw [show ((p : Int).toNat) = p by omega]
theorem vk_zb {H R : Nat → Int32} {sb w1 : Nat} (hH : ∀ n, n < 160 → r16 (H n)) (hR : ∀ n, r16 (R n)) : sp_zb (sp_hz (sp_U H R (vk_L H R sb w1) (nI (vk_p H R sb w1))) sb) := by
  obtain ⟨a, b, c, _⟩ := vk_P_e H R sb w1
  exact sp_zb_of hH hR a b c
theorem vk_Q_e {H R : Nat → Int32} {sb w1 w2 : Nat} (hb : 2 ≤ sb) (hH : ∀ n, n < 160 → r16 (H n)) (hR : ∀ n, r16 (R n)) : vk_Q H R sb w1 w2 = (some (vk_z H R sb w1 w2, vk_j H R sb w1 w2), some ((vk_o H R sb w1 w2).1, (vk_o H R sb w1 w2).2), some ((vk_e H R sb w1 w2).1, (vk_e H R sb w1 w2).2)) ∧
    vk_j H R sb w1 w2 < 52 ∧ (vk_o H R sb w1 w2).1 < sb ∧ (vk_o H R sb w1 w2).2 ≤ 1 ∧ (vk_e H R sb w1 w2).1 < sb ∧ (vk_e H R sb w1 w2).2 ≤ 1 := by
  obtain ⟨z, j, a, b, c, d, e, h1, h2, h3, h4, h5, h6, h7⟩ := sp_pul_e (wh := w2 = 1) hb (vk_zb (sb := sb) (w1 := w1) hH hR)
  unfold vk_z vk_j vk_o vk_e
  have hQ : vk_Q H R sb w1 w2 = (some (z, j), some (a, b), some (c, d)) := e
  rw [hQ]
  exact ⟨rfl, h3, h4, h5, h6, h7⟩
/-- H before the k-th PART -/
def sp_vH (R : Nat → Int32) (sb w1 w2 : Nat) (H0 : Nat → Int32) : Nat → Nat → Int32
  | 0 => H0
  | k + 1 => sp_sh (sp_vH R sb w1 w2 H0 k) (vk_E (sp_vH R sb w1 w2 H0 k) (sg R (sb * k) sb) sb w1 w2) sb
/-- V, y and the saturations -/
def sp_vV (ix R : Nat → Int32) (sb w1 w2 : Nat) (H0 : Nat → Int32) (s : (Nat → Int32) × (Nat → Int32) × Int64) : Nat → (Nat → Int32) × (Nat → Int32) × Int64
  | 0 => s
  | k + 1 => ((sp_sq ix (vk_E (sp_vH R sb w1 w2 H0 k) (sg R (sb * k) sb) sb w1 w2) (sb * k) ((sp_vV ix R sb w1 w2 H0 s k).1, (sp_vV ix R sb w1 w2 H0 s k).2.1, 0) sb).1,
      (sp_sq ix (vk_E (sp_vH R sb w1 w2 H0 k) (sg R (sb * k) sb) sb w1 w2) (sb * k) ((sp_vV ix R sb w1 w2 H0 s k).1, (sp_vV ix R sb w1 w2 H0 s k).2.1, 0) sb).2.1,
      (sp_vV ix R sb w1 w2 H0 s k).2.2 + (vk_T (sp_vH R sb w1 w2 H0 k) (sg R (sb * k) sb) sb w1 w2 + (sp_sq ix (vk_E (sp_vH R sb w1 w2 H0 k) (sg R (sb * k) sb) sb w1 w2) (sb * k) ((sp_vV ix R sb w1 w2 H0 s k).1, (sp_vV ix R sb w1 w2 H0 s k).2.1, 0) sb).2.2))
/-- the marks of the PARTS -/
def sp_tr (F : Nat → Int32) (t w1 w2 : Nat) : Nat → Nat → Int32
  | 0 => F
  | k + 1 => va_up (va_up (va_up (sp_tr F t w1 w2 k) (t + 3 * k) (nI (10 + w1))) (t + 3 * k + 1) (nI (12 + w2))) (t + 3 * k + 2) (nI 14)
theorem sp_vH_r {R H0 : Nat → Int32} {sb w1 w2 : Nat} (hb : sb ≤ 160) (h : ∀ n, n < 160 → r16 (H0 n)) : ∀ k n, n < 160 → r16 (sp_vH R sb w1 w2 H0 k n) := by
  intro k
  induction k with
  | zero => exact h
  | succ k ih => exact sp_sh_r hb ih sp_eE_r
theorem sp_vH_z {R H0 : Nat → Int32} {sb w1 w2 : Nat} (h : ∀ n, 160 ≤ n → H0 n = 0) : ∀ k n, 160 ≤ n → sp_vH R sb w1 w2 H0 k n = 0 := by
  intro k
  cases k with
  | zero => exact h
  | succ k => exact sp_sh_z0
theorem sp_vV_z {ix R H0 V Y : Nat → Int32} {sb w1 w2 : Nat} {t : Int64} (h : ∀ n, 8 ≤ n → V n = 0) : ∀ k n, 8 ≤ n → (sp_vV ix R sb w1 w2 H0 (V, Y, t) k).1 n = 0 := by
  intro k
  induction k with
  | zero => exact h
  | succ k ih => exact sp_sq_V ih sb
theorem sp_vV_Y {ix R H0 V Y Y' : Nat → Int32} {sb w1 w2 : Nat} {t : Int64} : ∀ k, (sp_vV ix R sb w1 w2 H0 (V, Y, t) k).1 = (sp_vV ix R sb w1 w2 H0 (V, Y', t) k).1 ∧ (sp_vV ix R sb w1 w2 H0 (V, Y, t) k).2.2 = (sp_vV ix R sb w1 w2 H0 (V, Y', t) k).2.2 := by
  intro k
  induction k with
  | zero => exact ⟨rfl, rfl⟩
  | succ k ih =>
    obtain ⟨h1, h2⟩ := ih
    obtain ⟨s1, s2, _⟩ := sp_sq_Y (ix := ix) (E := vk_E (sp_vH R sb w1 w2 H0 k) (sg R (sb * k) sb) sb w1 w2) (V := (sp_vV ix R sb w1 w2 H0 (V, Y, t) k).1) (Y := (sp_vV ix R sb w1 w2 H0 (V, Y, t) k).2.1) (Y' := (sp_vV ix R sb w1 w2 H0 (V, Y', t) k).2.1) (fr := sb * k) (t := 0) sb
    rw [h1] at s1 s2
    refine ⟨?_, ?_⟩
    · show (sp_sq ix _ (sb * k) ((sp_vV ix R sb w1 w2 H0 (V, Y, t) k).1, (sp_vV ix R sb w1 w2 H0 (V, Y, t) k).2.1, 0) sb).1 = (sp_sq ix _ (sb * k) ((sp_vV ix R sb w1 w2 H0 (V, Y', t) k).1, (sp_vV ix R sb w1 w2 H0 (V, Y', t) k).2.1, 0) sb).1
      rw [h1]; exact s1
    · show (sp_vV ix R sb w1 w2 H0 (V, Y, t) k).2.2 + (_ + (sp_sq ix _ (sb * k) ((sp_vV ix R sb w1 w2 H0 (V, Y, t) k).1, (sp_vV ix R sb w1 w2 H0 (V, Y, t) k).2.1, 0) sb).2.2) = (sp_vV ix R sb w1 w2 H0 (V, Y', t) k).2.2 + (_ + (sp_sq ix _ (sb * k) ((sp_vV ix R sb w1 w2 H0 (V, Y', t) k).1, (sp_vV ix R sb w1 w2 H0 (V, Y', t) k).2.1, 0) sb).2.2)
      rw [h1, h2, s2]
theorem cpy_in {f h : Nat → Int32} {a b n k : Nat} (hk : k < n) : va_cpy f h a b n (b + k) = f (a + k) := by
  unfold va_cpy
  rw [if_pos ⟨by omega, by omega⟩]
  congr 1; omega
theorem cpy_out {f h : Nat → Int32} {a b n k : Nat} (hk : k < b ∨ b + n ≤ k) : va_cpy f h a b n k = h k := by
  unfold va_cpy
  rw [if_neg (by omega)]
theorem cpy_0 {f h : Nat → Int32} {a n k : Nat} (hk : k < n) : va_cpy f h a 0 n k = f (a + k) := by
  have e := cpy_in (f := f) (h := h) (a := a) (b := 0) hk
  rw [Nat.zero_add] at e
  exact e
section VHL
variable {g : mm_G} {B : mm_B} {I : mm_TI} {J : mm_TJ} {P : mm_TP} {x o : Nat}
theorem ct_X9_load {qr qh fr sb : Nat} (hV : lyV B P x) (tr : mm_T B qr = 200) (th : mm_T B qh = 200) (nr : fr + sb ≤ mm_N B qr) (nh : fr + 160 ≤ mm_N B qh) (hb : sb ≤ 80) (r1 : qr ≠ x + 17) (h1 : qh ≠ x + 17) (h2 : qh ≠ x + 11) :
    Ct g mX9_load [.ref (x + 17), .ref qr, .ref qh, .int (nI fr), .int (nI sb)] B I J P
      (none, B, va_up (va_up (va_up I (x + 17) (va_up (I (x + 17)) 2 (nI sb))) (x + 11) (va_cpy (I qr) (I (x + 11)) fr 0 sb)) (x + 10) (va_cpy (I qh) (I (x + 10)) fr 0 160), J, P) := by
  refine ct_of (lv := [some (.ref (x + 17)), some (.ref qr), some (.ref qh), some (.int (nI fr)), some (.int (nI sb))]) (by decide +kernel) (Nat.le_of_ble_eq_true rfl) rfl ?_
  refine ev_aload_n 1 dX9_load_0 rfl rfl ?_
  refine ev_iload 3 dX9_load_1 rfl rfl ?_
  refine ev_putI 6 mm_cl9 (j := 2) (Nat.le_of_ble_eq_true rfl) dX9_load_3 lk245 rfl (fun _ _ _ => rfl) rfl rfl (hV.1 17 _ rfl) rfl ?_
  refine ev_aload_n 7 dX9_load_6 rfl rfl ?_
  refine ev_iload_n 8 dX9_load_7 rfl rfl ?_
  refine ev_aload_n 9 dX9_load_8 rfl rfl ?_
  refine ev_getP 12 mm_cl9 (j := 0) (Nat.le_of_ble_eq_true rfl) dX9_load_9 lk242 (fun _ _ _ => rfl) (hV.1 17 _ rfl) (a := (x + 4)) (hV.2.2 20 _ _ _ rfl) rfl ?_
  refine ev_getP 15 mm_cl8 (j := 6) (Nat.le_of_ble_eq_true rfl) dX9_load_12 lk149 (fun _ _ _ => rfl) (hV.1 4 _ rfl) (a := (x + 11)) (hV.2.2 14 _ _ _ rfl) rfl ?_
  refine ev_iconstN 16 0 dX9_load_15 rfl ?_
  refine ev_iload 18 dX9_load_16 rfl rfl ?_
  refine ev_copyI 21 (fr) (0) (sb) 0 dX9_load_18 lk741 lk650 lk649 lk88 (by decide) tr (hV.1 11 _ rfl) rfl rfl rfl (by have hNM := hV.2.1 11 _ rfl; omega) (by have hNM := hV.2.1 11 _ rfl; omega) (fun _ _ => rfl) (Nat.le_of_ble_eq_true rfl) (Nat.le_of_ble_eq_true rfl) (Nat.le_of_ble_eq_true rfl) rfl ?_
  refine ev_aload_n 22 dX9_load_21 rfl rfl ?_
  refine ev_iload_n 23 dX9_load_22 rfl rfl ?_
  refine ev_aload_n 24 dX9_load_23 rfl rfl ?_
  refine ev_getP 27 mm_cl9 (j := 0) (Nat.le_of_ble_eq_true rfl) dX9_load_24 lk242 (fun _ _ _ => rfl) (hV.1 17 _ rfl) (a := (x + 4)) (hV.2.2 20 _ _ _ rfl) rfl ?_
  refine ev_getP 30 mm_cl8 (j := 5) (Nat.le_of_ble_eq_true rfl) dX9_load_27 lk147 (fun _ _ _ => rfl) (hV.1 4 _ rfl) (a := (x + 10)) (hV.2.2 13 _ _ _ rfl) rfl ?_
  refine ev_iconstN 31 0 dX9_load_30 rfl ?_
  refine ev_sipushN 34 160 dX9_load_31 (by decide +kernel) rfl ?_
  refine ev_copyI 37 (fr) (0) (160) 0 dX9_load_34 lk741 lk650 lk649 lk88 (by decide) th (hV.1 10 _ rfl) rfl rfl rfl (by have hNM := hV.2.1 10 _ rfl; omega) (by have hNM := hV.2.1 10 _ rfl; omega) (fun _ _ => rfl) (Nat.le_of_ble_eq_true rfl) (Nat.le_of_ble_eq_true rfl) (Nat.le_of_ble_eq_true rfl) rfl ?_
  rw [va_up_n _ _ h2, va_up_n _ _ h1, va_up_n _ _ r1, va_up_n _ _ (show x + 11 ≠ x + 17 by omega), va_up_n _ _ (show x + 10 ≠ x + 11 by omega), va_up_n _ _ (show x + 10 ≠ x + 17 by omega)]
  exact ev_vret dX9_load_37 rfl (rfl)
end VHL
