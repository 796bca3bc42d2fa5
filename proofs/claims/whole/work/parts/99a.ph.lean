/-! the PATH, on both sides -/
def chY (ks zs : Nat → Nat) (cs gs : Nat → Int32) (Ks : Nat → Nat → Int32) (ga : Int32) (L N : Nat) (Y : Nat → Int32) : Nat → Nat → Int32
  | 0 => Y
  | i + 1 => fiY (ks i) (zs i) (cs i) (gs i) (Ks i) ga L N (chY ks zs cs gs Ks ga L N Y i)
def chT (ks zs : Nat → Nat) (cs gs : Nat → Int32) (Ks : Nat → Nat → Int32) (ga : Int32) (L N : Nat) (Y : Nat → Int32) : Nat → Int64
  | 0 => 0
  | i + 1 => chT ks zs cs gs Ks ga L N Y i + fiT (ks i) (zs i) (cs i) (gs i) (Ks i) ga L N (chY ks zs cs gs Ks ga L N Y i)
def chN (ks : Nat → Nat) : Nat → Nat
  | 0 => 0
  | i + 1 => chN ks i + fiN (ks i)
def chM (ks : Nat → Nat) (t : Nat) (F : Nat → Int32) : Nat → Nat → Int32
  | 0 => F
  | i + 1 => fiM (ks i) (t + chN ks i) (chM ks t F i)
theorem fiN_l (k : Nat) : fiN k ≤ 2 := by unfold fiN; split <;> (try split) <;> omega
theorem chN_l (ks : Nat → Nat) : ∀ i, chN ks i ≤ 2 * i := by
  intro i
  induction i with
  | zero => exact Nat.le_refl _
  | succ i ih => have := fiN_l (ks i); show chN ks i + fiN (ks i) ≤ 2 * (i + 1); omega
theorem fiY_r {k z lag N : Nat} {c0 g0 ga : Int32} {K Y : Nat → Int32} (hk : k ≤ 4) (h : ∀ n, n < N → r16 (Y n)) : ∀ n, n < N → r16 (fiY k z c0 g0 K ga lag N Y n) := by
  intro n hn
  rcases (show k = 0 ∨ k = 1 ∨ k = 2 ∨ k = 3 ∨ k = 4 by omega) with rfl | rfl | rfl | rfl | rfl
  · rw [fiY_0]; exact h n hn
  · rw [fiY_1]; exact sp_S_r _
  · rw [fiY_2]; exact sp_S_r _
  · rw [fiY_3, cmY_s N n hn]
    show r16 (va_up (cmY _ K lag n) n _ n)
    rw [va_up_s]; exact sp_S_r _
  · rw [fiY_4]; exact sp_S_r _
theorem chY_r {ks zs : Nat → Nat} {cs gs : Nat → Int32} {Ks : Nat → Nat → Int32} {ga : Int32} {L N : Nat} {Y : Nat → Int32} (h : ∀ n, n < N → r16 (Y n)) : ∀ i, (∀ j, j < i → ks j ≤ 4) → ∀ n, n < N → r16 (chY ks zs cs gs Ks ga L N Y i n) := by
  intro i
  induction i with
  | zero => intro _; exact h
  | succ i ih => intro hk; exact fiY_r (hk i (by omega)) (ih (fun j hj => hk j (by omega)))
/-- a filter's state in the class -/
def FSc (B : mm_B) (I : mm_TI) (J : mm_TJ) (P : mm_TP) (a k z : Nat) (c0 g0 : Int32) (K : Nat → Int32) : Prop :=
  mm_T B a = 103 ∧ P a 1 = some (a + 1) ∧ mm_T B (a + 1) = 200 ∧ k ≤ 4 ∧ I a 0 = nI k ∧ (k = 3 → mm_N B (a + 1) = 160 ∧ ∀ j, j < 160 → I (a + 1) j = K j) ∧ (k = 1 → z < 2 ^ 31 ∧ J a 2 = lN z) ∧ (k = 2 ∨ k = 3 → I a 3 = c0) ∧ (k = 4 → I a 4 = g0)
theorem FSc_cg {B : mm_B} {I I' : mm_TI} {J J' : mm_TJ} {P : mm_TP} {a k z : Nat} {c0 g0 : Int32} {K : Nat → Int32} (h : FSc B I J P a k z c0 g0 K) (h1 : I' a = I a) (h2 : I' (a + 1) = I (a + 1)) (h3 : J' a = J a) : FSc B I' J' P a k z c0 g0 K := by
  unfold FSc
  rw [h1, h2, h3]
  exact h
/-- and in the model -/
def FSm (I : mm_TI) (m at_ k z : Nat) (c0 g0 : Int32) (K : Nat → Int32) : Prop :=
  k ≤ 4 ∧ I (m + 48) at_ = nI k ∧ (k = 3 → ∀ j, j < 160 → I (m + 52) (160 * at_ + j) = K j) ∧ (k = 1 → z < 2 ^ 31 ∧ I (m + 49) at_ = nI z) ∧ (k = 2 ∨ k = 3 → I (m + 50) at_ = c0) ∧ (k = 4 → I (m + 51) at_ = g0)
/-- where a filter stands behind a frame -/
def fsC (k : Nat) (c0 : Int32) (Y : Nat → Int32) (N : Nat) : Int32 := if k = 2 ∨ k = 3 then Y (N - 1) else c0
def fsG (k : Nat) (g0 : Int32) (Y : Nat → Int32) (N : Nat) : Int32 := if k = 4 then emG g0 Y N else g0
def fsZ (k z N : Nat) : Nat := if k = 1 then sp_dz z N else z
section VPH
variable {g : mm_G} {B : mm_B} {I : mm_TI} {J : mm_TJ} {P : mm_TP} {m x o : Nat}
theorem lx_X1_fall {N L t : Nat} {ga : Int32} {fl ks zs : Nat → Nat} {cs gs : Nat → Int32} {Ks : Nat → Nat → Int32} {Y : Nat → Int32} {I0 : mm_TI} {J0 : mm_TJ} (hV : lyV B P x) (hC : lyC B P x o) (hxo : x + 22 ≤ o) (hN : N = 160 ∨ N = 320) (hL : 20 ≤ L) (hL2 : L ≤ 147) (r8 : I0 (o + 17) 8 = ga) (hlag : I0 (o + 29) 3 = nI L) (hP : ∀ i, i < 4 → P (o + 19) i = some (fl i)) (hfl : ∀ i, i < 4 → x + 22 ≤ fl i ∧ fl i ≠ o + 17 ∧ fl i + 1 ≠ o + 17 ∧ fl i ≠ o + 29 ∧ fl i + 1 ≠ o + 29) (hfd : ∀ i j, i < 4 → j < 4 → i ≠ j → fl i ≠ fl j ∧ fl i ≠ fl j + 1) (ht32 : t + 8 < 32) : ∀ (d i : Nat), i + d = 4 → ∀ (I : mm_TI) (J : mm_TJ),
    (∀ n, n < N → I (x + 6) n = chY ks zs cs gs Ks ga L N Y i n) → J (x + 1) 3 = J0 (x + 1) 3 + chT ks zs cs gs Ks ga L N Y i → I (x + 3) = chM ks t (I0 (x + 3)) i → I (x + 1) = va_up (I0 (x + 1)) 2 (nI (t + chN ks i)) →
    (∀ j, j < 4 → FSc B I J P (fl j) (ks j) (if j < i then fsZ (ks j) (zs j) N else zs j) (if j < i then fsC (ks j) (cs j) (chY ks zs cs gs Ks ga L N Y j) N else cs j) (if j < i then fsG (ks j) (gs j) (chY ks zs cs gs Ks ga L N Y j) N else gs j) (if j < i then (fun k => chY ks zs cs gs Ks ga L N Y (j + 1) (N - 160 + k)) else Ks j)) →
    (∀ q, q ≠ x + 1 → q ≠ x + 3 → q ≠ x + 6 → (∀ j, j < 4 → q ≠ fl j ∧ q ≠ fl j + 1) → I q = I0 q) → (∀ q, q ≠ x + 1 → (∀ j, j < 4 → q ≠ fl j) → J q = J0 q) →
    ∃ (I' : mm_TI) (J' : mm_TJ), (∀ n, n < N → I' (x + 6) n = chY ks zs cs gs Ks ga L N Y 4 n) ∧ J' (x + 1) 3 = J0 (x + 1) 3 + chT ks zs cs gs Ks ga L N Y 4 ∧ I' (x + 3) = chM ks t (I0 (x + 3)) 4 ∧ I' (x + 1) = va_up (I0 (x + 1)) 2 (nI (t + chN ks 4)) ∧
      (∀ j, j < 4 → FSc B I' J' P (fl j) (ks j) (fsZ (ks j) (zs j) N) (fsC (ks j) (cs j) (chY ks zs cs gs Ks ga L N Y j) N) (fsG (ks j) (gs j) (chY ks zs cs gs Ks ga L N Y j) N) (fun k => chY ks zs cs gs Ks ga L N Y (j + 1) (N - 160 + k))) ∧
      (∀ q, q ≠ x + 1 → q ≠ x + 3 → q ≠ x + 6 → (∀ j, j < 4 → q ≠ fl j ∧ q ≠ fl j + 1) → I' q = I0 q) ∧ (∀ q, q ≠ x + 1 → (∀ j, j < 4 → q ≠ fl j) → J' q = J0 q) ∧ Ev g mX1_filterAll 2 [some (.ref (o + 17)), some (.int (nI N)), some (.int (nI i))] [] B I J P (none, B, I', J', P) := by
  intro d
  induction d with
  | zero =>
    intro i hi I J h1 h2 h3 h4 h5 h6 h7
    obtain rfl : i = 4 := by omega
    refine ⟨I, J, h1, h2, h3, h4, fun j hj => by have h := h5 j hj; simp only [if_pos hj] at h; exact h, h6, h7, ?_⟩
    refine ev_iload_n 3 dX1_filterAll_2 rfl rfl ?_
    refine ev_iconstN 4 4 dX1_filterAll_3 rfl ?_
    refine ev_icmp_geN 7 45 dX1_filterAll_4 (by decide) (by omega) (by omega) rfl (fun hbr => ?_) (fun hx => absurd ((by omega)) hx)
    exact ev_vret dX1_filterAll_45 rfl (rfl)
  | succ d ih =>
    intro i hi I J h1 h2 h3 h4 h5 h6 h7
    have h5i := h5 i (by omega)
    simp only [if_neg (Nat.lt_irrefl i)] at h5i
    obtain ⟨ta, p1, tk, hk, f0, nk, hz, hc, hg⟩ := h5i
    obtain ⟨l1, l2, l3, l4, l5⟩ := hfl i (by omega)
    have cl := chN_l ks i
    have fr : ∀ q, q = o + 17 ∨ q = o + 29 → I q = I0 q := fun q hq => h6 q (by omega) (by omega) (by omega) (fun j hj => by
      obtain ⟨m1, m2, m3, m4, m5⟩ := hfl j hj
      rcases hq with rfl | rfl
      · exact ⟨fun e => m2 e.symm, fun e => m3 e.symm⟩
      · exact ⟨fun e => m4 e.symm, fun e => m5 e.symm⟩)
    have dY : chY ks zs cs gs Ks ga L N Y (i + 1) = fiY (ks i) (zs i) (cs i) (gs i) (Ks i) ga L N (chY ks zs cs gs Ks ga L N Y i) := rfl
    have dT : chT ks zs cs gs Ks ga L N Y (i + 1) = chT ks zs cs gs Ks ga L N Y i + fiT (ks i) (zs i) (cs i) (gs i) (Ks i) ga L N (chY ks zs cs gs Ks ga L N Y i) := rfl
    have dM : chM ks t (I0 (x + 3)) (i + 1) = fiM (ks i) (t + chN ks i) (chM ks t (I0 (x + 3)) i) := rfl
    have dN : chN ks (i + 1) = chN ks i + fiN (ks i) := rfl
    obtain ⟨I2, J2, c2, y1, y2, y3, y4, y5, y6, y7, y8, y9, y10, y11⟩ := cx_X3_pass (g := g) (B := B) (I := I) (J := J) (P := P) (x := x) (a := fl i) (k := ks i) (z := zs i) (N := N) (lag := L) (t := t + chN ks i) (c0 := cs i) (g0 := gs i) (ga := ga) (K := Ks i) (Y := chY ks zs cs gs Ks ga L N Y i) hV ta l1 p1 tk hk f0 nk hz hc hg (by omega) (by omega) hL hL2 h1 (by rw [h4, va_up_s]) (by omega)
    obtain ⟨I', J', r1, r2, r3, r4, r5, r6, r7, r8'⟩ := ih (i + 1) (by omega) I2 J2 (by rw [dY]; exact y1) (by rw [y2, h2, dT, Int64.add_assoc]) (by rw [y3, h3, dM]) (by rw [y4, h4, bx_uu, dN, Nat.add_assoc]) (fun j hj => by
        by_cases cj : j = i
        · subst cj
          simp only [if_pos (Nat.lt_succ_self j)]
          refine ⟨ta, p1, tk, hk, y5, fun e => ⟨(nk e).1, ?_⟩, fun e => ?_, fun e => ?_, fun e => ?_⟩
          · intro k hk'; rw [dY]; exact y8 e k hk'
          · unfold fsZ; rw [if_pos e]; exact ⟨sp_dz_lt (hz e).1 N, y6 e⟩
          · unfold fsC; rw [if_pos e]; exact y7 e
          · unfold fsG; rw [if_pos e]; exact y9 e
        · obtain ⟨n1, n2⟩ := hfd j i hj (by omega) cj
          obtain ⟨n3, n4⟩ := hfd i j (by omega) hj (fun e => cj e.symm)
          obtain ⟨q1, q2, q3, q4, q5⟩ := hfl j hj
          have hh := h5 j hj
          have hlt : (j < i + 1) = (j < i) := by apply propext; omega
          simp only [hlt]
          exact FSc_cg hh (y10 _ n1 n2 (by omega) (by omega) (by omega)) (y10 _ (by omega) (by omega) (by omega) (by omega) (by omega)) (y11 _ n1 (by omega)))
      (fun q g1 g2 g3 g4 => by rw [y10 q (g4 i (by omega)).1 (g4 i (by omega)).2 g1 g2 g3]; exact h6 q g1 g2 g3 g4) (fun q g1 g4 => by rw [y11 q (g4 i (by omega)) g1]; exact h7 q g1 g4)
    refine ⟨I', J', r1, r2, r3, r4, r5, r6, r7, ?_⟩
    refine ev_iload_n 3 dX1_filterAll_2 rfl rfl ?_
    refine ev_iconstN 4 4 dX1_filterAll_3 rfl ?_
    refine ev_icmp_geN 7 45 dX1_filterAll_4 (by decide) (by omega) (by omega) rfl (fun hx => absurd hx ((by omega))) (fun hbr => ?_)
    refine ev_aload_n 8 dX1_filterAll_7 rfl rfl ?_
    refine ev_getP 11 mm_cl1 (j := 4) (Nat.le_of_ble_eq_true rfl) dX1_filterAll_8 lk477 (fun _ _ _ => rfl) (hC.1 17 _ rfl) (a := (o + 19)) (hC.2.2.1 15 _ _ _ rfl) rfl ?_
    refine ev_iload_n 12 dX1_filterAll_11 rfl rfl ?_
    refine ev_aald 13 _ 3 dX1_filterAll_12 (hC.1 19 _ rfl) rfl (by have hNN := hC.2.1 19 _ rfl; omega) rfl ?_
    refine ev_eqR (a := (fl i)) ((hP i (by omega))) ?_
    refine ev_aload_n 14 dX1_filterAll_13 rfl rfl ?_
    refine ev_getP 17 mm_cl1 (j := 1) (Nat.le_of_ble_eq_true rfl) dX1_filterAll_14 lk473 (fun _ _ _ => rfl) (hC.1 17 _ rfl) (a := (x + 4)) (hC.2.2.2 6 _ _ _ rfl) rfl ?_
    refine ev_getP 20 mm_cl8 (j := 1) (Nat.le_of_ble_eq_true rfl) dX1_filterAll_17 lk137 (fun _ _ _ => rfl) (hV.1 4 _ rfl) (a := (x + 6)) (hV.2.2 9 _ _ _ rfl) rfl ?_
    refine ev_iload_n 21 dX1_filterAll_20 rfl rfl ?_
    refine ev_aload_n 22 dX1_filterAll_21 rfl rfl ?_
    refine ev_getI 25 mm_cl1 (j := 8) (Nat.le_of_ble_eq_true rfl) dX1_filterAll_22 lk484 (fun _ _ _ => rfl) (hC.1 17 _ rfl) rfl ?_
    refine ev_eqI (y := (ga)) ((by rw [fr _ (Or.inl rfl)]; exact r8)) ?_
    refine ev_aload_n 26 dX1_filterAll_25 rfl rfl ?_
    refine ev_getP 29 mm_cl1 (j := 2) (Nat.le_of_ble_eq_true rfl) dX1_filterAll_26 lk474 (fun _ _ _ => rfl) (hC.1 17 _ rfl) (a := (o + 29)) (hC.2.2.1 13 _ _ _ rfl) rfl ?_
    refine ev_getI 32 mm_cl6 (j := 3) (Nat.le_of_ble_eq_true rfl) dX1_filterAll_29 lk351 (fun _ _ _ => rfl) (hC.1 29 _ rfl) rfl ?_
    refine ev_eqI (y := nI (L)) ((by rw [fr _ (Or.inr rfl)]; exact hlag)) ?_
    refine ev_aload_n 33 dX1_filterAll_32 rfl rfl ?_
    refine ev_getP 36 mm_cl1 (j := 0) (Nat.le_of_ble_eq_true rfl) dX1_filterAll_33 lk472 (fun _ _ _ => rfl) (hC.1 17 _ rfl) (a := (x + 1)) (hC.2.2.2 5 _ _ _ rfl) rfl ?_
    refine ev_invVv 39 (Mc := mX3_pass) ⟨lk1129, lk86, hdX3_pass, (Nat.le_of_ble_eq_true rfl), (Nat.le_of_ble_eq_true rfl)⟩ lk1126 lk1127 lk1128 mm_cl3 rfl dX1_filterAll_36 (c2) rfl ta (Nat.le_of_ble_eq_true rfl) rfl rfl ?_
    refine ev_iincN 42 (lv' := [_, some (.int _), _]) 1 dX1_filterAll_39 rfl (Nat.le_of_ble_eq_true rfl) rfl rfl ?_
    refine ev_goto 2 dX1_filterAll_42 (by decide) ?_
    exact r8'
theorem lx_X12_fall {c lb f jo N L t : Nat} {v ga : Int32} {ks zs : Nat → Nat} {cs gs : Nat → Int32} {Ks : Nat → Nat → Int32} {Y : Nat → Int32} {I0 : mm_TI} {J0 : mm_TJ} {Z : mm_Z} (hM : lyM B P m) (hc8 : c < 8) (hN : N = 160 ∨ N = 320) (hL : 20 ≤ L) (hL2 : L ≤ 147) (r8 : I0 (m + 35) c = ga) (hlag : I0 (m + 18) (2 * c + 1) = nI L) (ht64 : t + 8 < 64) : ∀ (d i : Nat), i + d = 4 → ∀ (I : mm_TI),
    (∀ n, n < N → I (m + 54) n = chY ks zs cs gs Ks ga L N Y i n) → I (m + 2) = chM ks t (I0 (m + 2)) i → I m = va_up (I0 m) 5 (nI (t + chN ks i)) →
    (∀ j, j < 4 → FSm I m (4 * c + j) (ks j) (if j < i then fsZ (ks j) (zs j) N else zs j) (if j < i then fsC (ks j) (cs j) (chY ks zs cs gs Ks ga L N Y j) N else cs j) (if j < i then fsG (ks j) (gs j) (chY ks zs cs gs Ks ga L N Y j) N else gs j) (if j < i then (fun k => chY ks zs cs gs Ks ga L N Y (j + 1) (N - 160 + k)) else Ks j)) →
    (∀ q, q ≠ m → q ≠ m + 2 → q < m + 49 ∨ m + 54 < q ∨ q = m + 53 → I q = I0 q) → (∀ q j, q = m + 49 ∨ q = m + 50 ∨ q = m + 51 → j < 4 * c ∨ 4 * c + 4 ≤ j → I q j = I0 q j) → (∀ j, j < 640 * c ∨ 640 * c + 640 ≤ j → I (m + 52) j = I0 (m + 52) j) →
    ∃ I' : mm_TI, (∀ n, n < N → I' (m + 54) n = chY ks zs cs gs Ks ga L N Y 4 n) ∧ I' (m + 2) = chM ks t (I0 (m + 2)) 4 ∧ I' m = va_up (I0 m) 5 (nI (t + chN ks 4)) ∧
      (∀ j, j < 4 → FSm I' m (4 * c + j) (ks j) (fsZ (ks j) (zs j) N) (fsC (ks j) (cs j) (chY ks zs cs gs Ks ga L N Y j) N) (fsG (ks j) (gs j) (chY ks zs cs gs Ks ga L N Y j) N) (fun k => chY ks zs cs gs Ks ga L N Y (j + 1) (N - 160 + k))) ∧
      (∀ q, q ≠ m → q ≠ m + 2 → q < m + 49 ∨ m + 54 < q ∨ q = m + 53 → I' q = I0 q) ∧ (∀ q j, q = m + 49 ∨ q = m + 50 ∨ q = m + 51 → j < 4 * c ∨ 4 * c + 4 ≤ j → I' q j = I0 q j) ∧ (∀ j, j < 640 * c ∨ 640 * c + 640 ≤ j → I' (m + 52) j = I0 (m + 52) j) ∧
      ∀ Z : mm_Z, Ev g mX12_decode 301 [some (.ref m), some (.int (nI c)), some (.int (nI lb)), some (.int (nI f)), some (.int v), some (.int (nI jo)), some (.int (nI N)), none] [] B I' (sp_up J0 m 2 (chT ks zs cs gs Ks ga L N Y 4)) P Z → Ev g mX12_decode 276 [some (.ref m), some (.int (nI c)), some (.int (nI lb)), some (.int (nI f)), some (.int v), some (.int (nI jo)), some (.int (nI N)), some (.int (nI i))] [] B I (sp_up J0 m 2 (chT ks zs cs gs Ks ga L N Y i)) P Z := by
  intro d
  induction d with
  | zero =>
    intro i hi I h1 h3 h4 h5 h6 h7 h8
    obtain rfl : i = 4 := by omega
    refine ⟨I, h1, h3, h4, fun j hj => by have h := h5 j hj; simp only [if_pos hj] at h; exact h, h6, h7, h8, fun Z e => ?_⟩
    refine ev_iload 278 dX12_decode_276 rfl rfl ?_
    refine ev_iconstN 279 4 dX12_decode_278 rfl ?_
    refine ev_icmp_geN 282 301 dX12_decode_279 (by decide) (by omega) (by omega) rfl (fun hbr => ?_) (fun hx => absurd ((by omega)) hx)
    refine ev_le (mle_s (mle_s (mle_s (mle_s (mle_s (mle_s (mle_s (mle_n (mle_0))))))))) ?_
    exact e
  | succ d ih =>
    intro i hi I h1 h3 h4 h5 h6 h7 h8
    have h5i := h5 i (by omega)
    simp only [if_neg (Nat.lt_irrefl i)] at h5i
    obtain ⟨hk, f0, nk, hz, hc, hg⟩ := h5i
    have cl := chN_l ks i
    have dY : chY ks zs cs gs Ks ga L N Y (i + 1) = fiY (ks i) (zs i) (cs i) (gs i) (Ks i) ga L N (chY ks zs cs gs Ks ga L N Y i) := rfl
    have dT : chT ks zs cs gs Ks ga L N Y (i + 1) = chT ks zs cs gs Ks ga L N Y i + fiT (ks i) (zs i) (cs i) (gs i) (Ks i) ga L N (chY ks zs cs gs Ks ga L N Y i) := rfl
    have dM : chM ks t (I0 (m + 2)) (i + 1) = fiM (ks i) (t + chN ks i) (chM ks t (I0 (m + 2)) i) := rfl
    have dN : chN ks (i + 1) = chN ks i + fiN (ks i) := rfl
    obtain ⟨I2, J2, c2, y1, y2, y3, y4, y6, y7, y8, y9, z1, z2, z3, z4, y10⟩ := cx_X12_filter (g := g) (B := B) (I := I) (J := sp_up J0 m 2 (chT ks zs cs gs Ks ga L N Y i)) (P := P) (m := m) (c := c) (at_ := 4 * c + i) (k := ks i) (z := zs i) (N := N) (lag := L) (t := t + chN ks i) (c0 := cs i) (g0 := gs i) (ga := ga) (K := Ks i) (Y := chY ks zs cs gs Ks ga L N Y i) hM hc8 (by omega) hk f0 nk hz hc hg (by omega) (by omega) hL hL2 (by rw [h6 _ (by omega) (by omega) (by omega)]; exact hlag) (by rw [h6 _ (by omega) (by omega) (by omega)]; exact r8) h1 (by rw [h4, va_up_s]) (by omega)
    rw [sp_up_up, ← dT] at y2
    subst y2
    obtain ⟨I', r1, r3, r4, r5, r6, r7, r8a, r9⟩ := ih (i + 1) (by omega) I2 (by rw [dY]; exact y1) (by rw [y3, h3, dM]) (by rw [y4, h4, bx_uu, dN, Nat.add_assoc]) (fun j hj => by
        by_cases cj : j = i
        · subst cj
          simp only [if_pos (Nat.lt_succ_self j)]
          refine ⟨hk, by rw [y10 _ (by omega) (by omega) (by omega)]; exact f0, fun e => ?_, fun e => ?_, fun e => ?_, fun e => ?_⟩
          · intro k hk'; rw [dY]; exact y8 e k hk'
          · unfold fsZ; rw [if_pos e]; exact ⟨sp_dz_lt (hz e).1 N, y6 e⟩
          · unfold fsC; rw [if_pos e]; exact y7 e
          · unfold fsG; rw [if_pos e]; exact y9 e
        · have hh := h5 j hj
          have hlt : (j < i + 1) = (j < i) := by apply propext; omega
          simp only [hlt]
          unfold FSm at hh ⊢
          rw [y10 _ (show m + 48 ≠ m by omega) (show m + 48 ≠ m + 2 by omega) (by omega), z1 (4 * c + j) (by omega), z2 (4 * c + j) (by omega), z3 (4 * c + j) (by omega)]
          refine ⟨hh.1, hh.2.1, fun e k hk' => ?_, hh.2.2.2.1, hh.2.2.2.2.1, hh.2.2.2.2.2⟩
          rw [z4 _ (by omega)]; exact hh.2.2.1 e k hk')
      (fun q g1 g2 g3 => by rw [y10 q g1 g2 g3]; exact h6 q g1 g2 g3)
      (fun q j g1 g2 => by
        rcases g1 with rfl | rfl | rfl
        · rw [z1 j (by omega)]; exact h7 _ j (by omega) g2
        · rw [z2 j (by omega)]; exact h7 _ j (by omega) g2
        · rw [z3 j (by omega)]; exact h7 _ j (by omega) g2) (fun j g1 => by rw [z4 j (by omega)]; exact h8 j g1)
    refine ⟨I', r1, r3, r4, r5, r6, r7, r8a, fun Z e => ?_⟩
    have e2 := r9 Z e
    refine ev_iload 278 dX12_decode_276 rfl rfl ?_
    refine ev_iconstN 279 4 dX12_decode_278 rfl ?_
    refine ev_icmp_geN 282 301 dX12_decode_279 (by decide) (by omega) (by omega) rfl (fun hx => absurd hx ((by omega))) (fun hbr => ?_)
    refine ev_aload_n 283 dX12_decode_282 rfl rfl ?_
    refine ev_iload_n 284 dX12_decode_283 rfl rfl ?_
    refine ev_iconstN 285 4 dX12_decode_284 rfl ?_
    refine ev_iload_n 286 dX12_decode_285 rfl rfl ?_
    refine ev_imulN 287 dX12_decode_286 rfl ?_
    refine ev_iload 289 dX12_decode_287 rfl rfl ?_
    refine ev_iaddN 290 dX12_decode_289 rfl ?_
    refine ev_iload 292 dX12_decode_290 rfl rfl ?_
    refine ev_invVv 295 (Mc := mX12_filter) ⟨lk1817, lk80, hdX12_filter, (Nat.le_of_ble_eq_true rfl), (Nat.le_of_ble_eq_true rfl)⟩ lk1814 lk1816 lk71 mm_cl12 rfl dX12_decode_292 (c2) rfl (hM.1 0 _ rfl) (Nat.le_of_ble_eq_true rfl) rfl rfl ?_
    refine ev_iincN 298 (lv' := [_, _, _, _, _, _, some (.int _), _]) 1 dX12_decode_295 rfl (Nat.le_of_ble_eq_true rfl) rfl rfl ?_
    refine ev_goto 276 dX12_decode_298 (by decide) ?_
    exact e2
end VPH
