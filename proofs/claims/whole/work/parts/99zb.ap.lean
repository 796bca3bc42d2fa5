/-! LINES: again and feed -/
/-- the class's memory with a frame f behind coder's line -/
def APc (x o L f : Nat) (v : Int32) (p1 p2 : Option Nat) (φ : Nat → Nat) (I I1 : mm_TI) (J J1 : mm_TJ) (P P1 : mm_TP) : Prop :=
  I1 f 0 = v ∧ I1 (o + 2) = va_up (I (o + 2)) 1 (nI (L + 1)) ∧ P1 f 1 = p1 ∧ P1 f 2 = p2 ∧ (∀ q, q < L + 1 → P1 (o + 3) q = some (va_up φ L f q)) ∧ (∀ q, q < f → q ≠ x → q ≠ o + 2 → I1 q = I q) ∧ (∀ q, q < f → J1 q = J q) ∧ (∀ q, q < f → q ≠ o + 3 → P1 q = P q)
section AP0
variable {g : mm_G} {B : mm_B} {I : mm_TI} {J : mm_TJ} {P : mm_TP} {x m o n k i L f a : Nat} {φ : Nat → Nat}
theorem ap_in {F' : Nat → Option Nat} (h : ∀ k, k < L + 1 → F' k = some (if k < L then φ k else if k = L then f else φ (k - 1))) : ∀ q, q < L + 1 → F' q = some (va_up φ L f q) := fun q hq => by
  rw [h q hq]
  by_cases e : q = L
  · subst e; rw [if_neg (by omega), if_pos rfl, va_up_s]
  · rw [if_pos (by omega), va_up_n _ _ e]
theorem cl_again_f {c i : Int32} (hV : lyV B P x) (hf : Ct g mX11_frameAt [.ref x, .int c, .int i] B (vz I x) J P (some .null, B, vz I x, J, P)) : Ct g mX11_again [.ref x, .int c, .int i] B I J P (some (.int (-1)), B, vst I x (-1), J, P) := by
  refine ct_of (lv := [some (.ref x), some (.int (c)), some (.int (i)), none, none]) (by decide +kernel) (Nat.le_of_ble_eq_true rfl) rfl ?_
  refine ev_aload_n 1 dX11_again_0 rfl rfl ?_
  refine ev_iconstN 2 0 dX11_again_1 rfl ?_
  refine ev_putI 5 mm_cl11 (j := 9) (Nat.le_of_ble_eq_true rfl) dX11_again_2 lk270 rfl (fun _ _ _ => rfl) rfl rfl (hV.1 0 _ rfl) rfl ?_
  refine ev_aload_n 6 dX11_again_5 rfl rfl ?_
  refine ev_iload_n 7 dX11_again_6 rfl rfl ?_
  refine ev_iload_n 8 dX11_again_7 rfl rfl ?_
  refine ev_invV 11 (Mc := mX11_frameAt) ⟨lk923, lk75, hdX11_frameAt, (Nat.le_of_ble_eq_true rfl), (Nat.le_of_ble_eq_true rfl)⟩ lk920 lk922 lk23 mm_cl11 rfl dX11_again_8 (hf) rfl (hV.1 0 _ rfl) (Nat.le_of_ble_eq_true rfl) rfl rfl ?_
  refine ev_astore_nN 12 (lv' := [_, _, some (.int _), _, _]) dX11_again_11 (Nat.le_of_ble_eq_true rfl) rfl rfl ?_
  refine ev_aload_nN 13 dX11_again_12 rfl rfl ?_
  refine ev_ifnonnull_n 16 dX11_again_13 rfl ?_
  refine ev_aload_n 17 dX11_again_16 rfl rfl ?_
  refine ev_iconst 18 (v := -1) dX11_again_17 (by decide +kernel) rfl ?_
  refine ev_invV 21 (Mc := mX11_refuse) ⟨lk303, lk75, hdX11_refuse, (Nat.le_of_ble_eq_true rfl), (Nat.le_of_ble_eq_true rfl)⟩ lk300 lk302 lk0 mm_cl11 rfl dX11_again_18 (ct_refuse hV) rfl (hV.1 0 _ rfl) (Nat.le_of_ble_eq_true rfl) rfl rfl ?_
  exact ev_iret dX11_again_21 rfl (rfl)
theorem cl_again_u (h : CA B I P x o n k) (hL : I (o + 2) 1 = nI 250) (hi : i < 250) (hp : P (o + 3) i = some (φ i)) (tf : mm_T B (φ i) = 104) : Ct g mX11_again [.ref x, .int (nI k), .int (nI i)] B I J P (some (.int (-3)), B, vst I x (-3), J, P) := by
  have hf := ct_frameAt_t (g := g) (J := J) h hL (by omega) hi hp tf
  obtain ⟨hV, hC, hxo, hx, h8, hk, hP⟩ := h
  have isf := ct_X5_isFull (g := g) (J := J) (n := 250) (I := vz I x) hC (by rw [show vz I x (o + 2) = I (o + 2) from va_up_n _ _ (by omega)]; exact hL) (by omega)
  rw [if_pos rfl] at isf
  refine ct_of (lv := [some (.ref x), some (.int (nI (k))), some (.int (nI (i))), none, none]) (by decide +kernel) (Nat.le_of_ble_eq_true rfl) rfl ?_
  refine ev_aload_n 1 dX11_again_0 rfl rfl ?_
  refine ev_iconstN 2 0 dX11_again_1 rfl ?_
  refine ev_putI 5 mm_cl11 (j := 9) (Nat.le_of_ble_eq_true rfl) dX11_again_2 lk270 rfl (fun _ _ _ => rfl) rfl rfl (hV.1 0 _ rfl) rfl ?_
  refine ev_aload_n 6 dX11_again_5 rfl rfl ?_
  refine ev_iload_n 7 dX11_again_6 rfl rfl ?_
  refine ev_iload_n 8 dX11_again_7 rfl rfl ?_
  refine ev_invV 11 (Mc := mX11_frameAt) ⟨lk923, lk75, hdX11_frameAt, (Nat.le_of_ble_eq_true rfl), (Nat.le_of_ble_eq_true rfl)⟩ lk920 lk922 lk23 mm_cl11 rfl dX11_again_8 (hf) rfl (hV.1 0 _ rfl) (Nat.le_of_ble_eq_true rfl) rfl rfl ?_
  refine ev_astore_n 12 (lv' := [_, _, some (.int _), _, _]) dX11_again_11 (Nat.le_of_ble_eq_true rfl) rfl rfl ?_
  refine ev_aload_n 13 dX11_again_12 rfl rfl ?_
  refine ev_ifnonnull_r 22 dX11_again_13 (by decide) ?_
  refine ev_aload_n 23 dX11_again_22 rfl rfl ?_
  refine ev_getP 26 mm_cl11 (j := 3) (Nat.le_of_ble_eq_true rfl) dX11_again_23 lk264 (fun _ _ _ => rfl) (hV.1 0 _ rfl) (a := (x + 19)) (hV.2.2 3 _ _ _ rfl) rfl ?_
  refine ev_iload_n 27 dX11_again_26 rfl rfl ?_
  refine ev_aald 28 _ 0 dX11_again_27 (hV.1 19 _ rfl) rfl (by have hNN := hV.2.1 19 _ rfl; omega) rfl ?_
  refine ev_eqR (a := o) (hP) ?_
  refine ev_getP 31 mm_cl0 (j := 2) (Nat.le_of_ble_eq_true rfl) dX11_again_28 lk547 (fun _ _ _ => rfl) (hC.1 0 _ rfl) (a := (o + 2)) (hC.2.2.1 1 _ _ _ rfl) rfl ?_
  refine ev_astore 33 (lv' := [_, _, _, some (.ref _), _]) dX11_again_31 (Nat.le_of_ble_eq_true rfl) rfl rfl ?_
  refine ev_aload 35 dX11_again_33 rfl rfl ?_
  refine ev_invV 38 (Mc := mX5_isFull) ⟨lk643, lk82, hdX5_isFull, (Nat.le_of_ble_eq_true rfl), (Nat.le_of_ble_eq_true rfl)⟩ lk640 lk641 lk642 mm_cl5 rfl dX11_again_35 (isf) rfl (hC.1 2 _ rfl) (Nat.le_of_ble_eq_true rfl) rfl rfl ?_
  refine ev_if_eqN 41 48 dX11_again_38 (by decide) (by omega) rfl (fun hx => absurd hx ((by omega))) (fun hbr => ?_)
  refine ev_aload_n 42 dX11_again_41 rfl rfl ?_
  refine ev_bipush 44 (v := -3) dX11_again_42 (by decide +kernel) rfl ?_
  refine ev_invV 47 (Mc := mX11_refuse) ⟨lk303, lk75, hdX11_refuse, (Nat.le_of_ble_eq_true rfl), (Nat.le_of_ble_eq_true rfl)⟩ lk300 lk302 lk0 mm_cl11 rfl dX11_again_44 (ct_refuse hV) rfl (hV.1 0 _ rfl) (Nat.le_of_ble_eq_true rfl) rfl rfl ?_
  exact ev_iret dX11_again_47 rfl (rfl)
theorem cx_again {v : Int32} {p1 p2 : Option Nat} (h : CA B I P x o n k) (hL : I (o + 2) 1 = nI L) (hl : L < 250) (hi : i < L) (hnx : o + 33 ≤ mm_nx B) (hφ : ∀ q, q < L → P (o + 3) q = some (φ q) ∧ mm_T B (φ q) = 104 ∧ φ q < mm_nx B ∧ x < φ q) (hv : I (φ i) 0 = v) (h1 : P (φ i) 1 = p1) (h2 : P (φ i) 2 = p2)
    (hp : (p1 = none ∧ p2 = none) ∨ (∃ a, p1 = some a ∧ mm_T B a = 201 ∧ p2 = none) ∨ (∃ a, p1 = none ∧ p2 = some a ∧ mm_T B a = 202)) :
    ∃ (I1 : mm_TI) (J1 : mm_TJ) (P1 : mm_TP), APc x o L (mm_nx B) v p1 p2 φ I I1 J J1 P P1 ∧ I1 x = va_up (I x) 9 (nI 0) ∧ Ct g mX11_again [.ref x, .int (nI k), .int (nI i)] B I J P (some (.int (nI (L + 1))), mm_al B 104 0 3, I1, J1, P1) := by
  have hf := ct_frameAt_t (g := g) (J := J) h hL (by omega) hi (hφ i hi).1 (hφ i hi).2.1
  obtain ⟨hV, hC, hxo, hx, h8, hk, hP⟩ := h
  obtain ⟨f1, tf, fn, fx⟩ := hφ i hi
  have v2 : vz I x (o + 2) = I (o + 2) := va_up_n _ _ (by omega)
  have isf := ct_X5_isFull (g := g) (J := J) (n := L) (I := vz I x) hC (by rw [v2]; exact hL) (by omega)
  rw [if_neg (by omega)] at isf
  have hV' : lyV (mm_al B 104 0 3) (va_up P (mm_nx B) (fun _ => none)) x := lyV_al hV (by omega)
  have hC' : lyC (mm_al B 104 0 3) (va_up P (mm_nx B) (fun _ => none)) x o := lyC_al hC (by omega)
  have tf' : mm_T (mm_al B 104 0 3) (φ i) = 104 := (al_T (by omega)).trans tf
  have tn : mm_T (mm_al B 104 0 3) (mm_nx B) = 104 := al_Ts
  have hC2 : lyC (mm_al B 104 0 3) (va_up P (mm_nx B) (va_up (va_up (fun _ => none) 1 p1) 2 p2)) x o := lyC_al hC (by omega)
  obtain ⟨F', is, hF⟩ := cx_X5_insert (g := g) (B := mm_al B 104 0 3) (I := va_up (vz I x) (mm_nx B) (va_up (fun _ => 0) 0 v)) (J := va_up J (mm_nx B) (fun _ => 0)) (P := va_up P (mm_nx B) (va_up (va_up (fun _ => none) 1 p1) 2 p2)) (n := L) (i := L) (f := mm_nx B) (φ := φ) hC2 hl (Nat.le_refl _) (by rw [va_up_n _ _ (by omega), v2]; exact hL) tn (fun q hq => ⟨by rw [va_up_n _ _ (by omega)]; exact (hφ q hq).1, (al_T (by have := (hφ q hq).2.2.1; omega)).trans (hφ q hq).2.1⟩)
  rw [va_up_n _ _ (show o + 2 ≠ mm_nx B by omega), v2] at is
  refine ⟨va_up (va_up (vz I x) (mm_nx B) (va_up (fun _ => 0) 0 v)) (o + 2) (va_up (I (o + 2)) 1 (nI (L + 1))), va_up J (mm_nx B) (fun _ => 0), va_up (va_up P (mm_nx B) (va_up (va_up (fun _ => none) 1 p1) 2 p2)) (o + 3) F', ⟨?_, ?_, ?_, ?_, ?_, ?_, ?_, ?_⟩, ?_, ?_⟩
  · rw [va_up_n _ _ (by omega), va_up_s, va_up_s]
  · rw [va_up_s]
  · rw [va_up_n _ _ (by omega), va_up_s, va_up_n _ _ (by omega), va_up_s]
  · rw [va_up_n _ _ (by omega), va_up_s, va_up_s]
  · rw [va_up_s]; exact ap_in hF
  · intro q q1 q2 q3
    rw [va_up_n _ _ q3, va_up_n _ _ (by omega)]; exact va_up_n _ _ q2
  · exact fun q hq => va_up_n _ _ (by omega)
  · exact fun q q1 q2 => by rw [va_up_n _ _ q2, va_up_n _ _ (by omega)]
  · rw [va_up_n _ _ (by omega), va_up_n _ _ (by omega)]; exact va_up_s _ _ _
  · have lb : va_up (vz I x) (mm_nx B) (fun _ => 0) (φ i) 0 = v := by rw [va_up_n _ _ (by omega)]; exact vzk hv (by omega)
    rcases hp with ⟨rfl, rfl⟩ | ⟨a, rfl, ta, rfl⟩ | ⟨a, rfl, rfl, ta⟩
    · have fi := ct_finit_0 (g := g) (B := mm_al B 104 0 3) (f := mm_nx B) (I := va_up (vz I x) (mm_nx B) (fun _ => 0)) (J := va_up J (mm_nx B) (fun _ => 0)) (P := va_up P (mm_nx B) (fun _ => none)) (v := v) tn
      rw [va_up_s, bx_uu, va_up_s, bx_uu] at fi
      refine ct_of (lv := [some (.ref x), some (.int (nI k)), some (.int (nI i)), none, none]) (by decide +kernel) (Nat.le_of_ble_eq_true rfl) rfl ?_
      refine ev_aload_n 1 dX11_again_0 rfl rfl ?_
      refine ev_iconstN 2 0 dX11_again_1 rfl ?_
      refine ev_putI 5 mm_cl11 (j := 9) (Nat.le_of_ble_eq_true rfl) dX11_again_2 lk270 rfl (fun _ _ _ => rfl) rfl rfl (hV.1 0 _ rfl) rfl ?_
      refine ev_aload_n 6 dX11_again_5 rfl rfl ?_
      refine ev_iload_n 7 dX11_again_6 rfl rfl ?_
      refine ev_iload_n 8 dX11_again_7 rfl rfl ?_
      refine ev_invV 11 (Mc := mX11_frameAt) ⟨lk923, lk75, hdX11_frameAt, (Nat.le_of_ble_eq_true rfl), (Nat.le_of_ble_eq_true rfl)⟩ lk920 lk922 lk23 mm_cl11 rfl dX11_again_8 (hf) rfl (hV.1 0 _ rfl) (Nat.le_of_ble_eq_true rfl) rfl rfl ?_
      refine ev_astore_n 12 (lv' := [_, _, some (.int _), _, _]) dX11_again_11 (Nat.le_of_ble_eq_true rfl) rfl rfl ?_
      refine ev_aload_n 13 dX11_again_12 rfl rfl ?_
      refine ev_ifnonnull_r 22 dX11_again_13 (by decide) ?_
      refine ev_aload_n 23 dX11_again_22 rfl rfl ?_
      refine ev_getP 26 mm_cl11 (j := 3) (Nat.le_of_ble_eq_true rfl) dX11_again_23 lk264 (fun _ _ _ => rfl) (hV.1 0 _ rfl) (a := (x + 19)) (hV.2.2 3 _ _ _ rfl) rfl ?_
      refine ev_iload_n 27 dX11_again_26 rfl rfl ?_
      refine ev_aald 28 _ 0 dX11_again_27 (hV.1 19 _ rfl) rfl (by have hNN := hV.2.1 19 _ rfl; omega) rfl ?_
      refine ev_eqR (a := o) (hP) ?_
      refine ev_getP 31 mm_cl0 (j := 2) (Nat.le_of_ble_eq_true rfl) dX11_again_28 lk547 (fun _ _ _ => rfl) (hC.1 0 _ rfl) (a := (o + 2)) (hC.2.2.1 1 _ _ _ rfl) rfl ?_
      refine ev_astore 33 (lv' := [_, _, _, some (.ref _), _]) dX11_again_31 (Nat.le_of_ble_eq_true rfl) rfl rfl ?_
      refine ev_aload 35 dX11_again_33 rfl rfl ?_
      refine ev_invV 38 (Mc := mX5_isFull) ⟨lk643, lk82, hdX5_isFull, (Nat.le_of_ble_eq_true rfl), (Nat.le_of_ble_eq_true rfl)⟩ lk640 lk641 lk642 mm_cl5 rfl dX11_again_35 (isf) rfl (hC.1 2 _ rfl) (Nat.le_of_ble_eq_true rfl) rfl rfl ?_
      refine ev_if_eqN 41 48 dX11_again_38 (by decide) (by omega) rfl (fun hbr => ?_) (fun hx => absurd ((by omega)) hx)
      refine ev_aload 50 dX11_again_48 rfl rfl ?_
      refine ev_aload 52 dX11_again_50 rfl rfl ?_
      refine ev_getI 55 mm_cl5 (j := 1) (Nat.le_of_ble_eq_true rfl) dX11_again_52 lk320 (fun _ _ _ => rfl) (hC.1 2 _ rfl) rfl ?_
      refine ev_eqI (y := nI (L)) ((by rw [v2]; exact hL)) ?_
      refine ev_new 58 mm_cl4 dX11_again_55 lk651 lk652 lk89 rfl ?_
      show Ev g _ 58 _ _ (mm_al B 104 0 3) _ _ _ _
      have hC := hC'
      refine ev_dup 59 dX11_again_58 rfl rfl ?_
      refine ev_aload_n 60 dX11_again_59 rfl rfl ?_
      refine ev_getI 63 mm_cl4 (j := 0) (Nat.le_of_ble_eq_true rfl) dX11_again_60 lk862 (fun _ _ _ => rfl) tf' rfl ?_
      refine ev_eqI (y := (v)) (lb) ?_
      refine ev_aload_n 64 dX11_again_63 rfl rfl ?_
      refine ev_getN 67 mm_cl4 (j := 1) (Nat.le_of_ble_eq_true rfl) dX11_again_64 lk864 (fun _ _ _ => rfl) tf' ((by rw [va_up_n _ _ (show φ i ≠ mm_nx B by omega)]; exact h1)) rfl ?_
      refine ev_aload_n 68 dX11_again_67 rfl rfl ?_
      refine ev_getN 71 mm_cl4 (j := 2) (Nat.le_of_ble_eq_true rfl) dX11_again_68 lk866 (fun _ _ _ => rfl) tf' ((by rw [va_up_n _ _ (show φ i ≠ mm_nx B by omega)]; exact h2)) rfl ?_
      refine ev_invIv 74 (Mc := mX4_init) ⟨lk858, lk89, hdX4_init, (Nat.le_of_ble_eq_true rfl), (Nat.le_of_ble_eq_true rfl)⟩ lk856 lk857 rfl rfl dX11_again_71 (fi) rfl (Nat.le_of_ble_eq_true rfl) rfl rfl ?_
      refine ev_invVv 77 (Mc := mX5_insert) ⟨lk877, lk82, hdX5_insert, (Nat.le_of_ble_eq_true rfl), (Nat.le_of_ble_eq_true rfl)⟩ lk874 lk875 lk876 mm_cl5 rfl dX11_again_74 (is) rfl (hC.1 2 _ rfl) (Nat.le_of_ble_eq_true rfl) rfl rfl ?_
      refine ev_aload 79 dX11_again_77 rfl rfl ?_
      refine ev_getI 82 mm_cl5 (j := 1) (Nat.le_of_ble_eq_true rfl) dX11_again_79 lk320 (fun _ _ _ => rfl) (hC.1 2 _ rfl) rfl ?_
      refine ev_eqI (y := nI ((L+1))) ((by rw [va_up_s, va_up_s])) ?_
      exact ev_iret dX11_again_82 rfl (rfl)
    · have fi := ct_finit_1 (g := g) (B := mm_al B 104 0 3) (f := mm_nx B) (a := a) (I := va_up (vz I x) (mm_nx B) (fun _ => 0)) (J := va_up J (mm_nx B) (fun _ => 0)) (P := va_up P (mm_nx B) (fun _ => none)) (v := v) tn
      rw [va_up_s, bx_uu, va_up_s, bx_uu] at fi
      refine ct_of (lv := [some (.ref x), some (.int (nI k)), some (.int (nI i)), none, none]) (by decide +kernel) (Nat.le_of_ble_eq_true rfl) rfl ?_
      refine ev_aload_n 1 dX11_again_0 rfl rfl ?_
      refine ev_iconstN 2 0 dX11_again_1 rfl ?_
      refine ev_putI 5 mm_cl11 (j := 9) (Nat.le_of_ble_eq_true rfl) dX11_again_2 lk270 rfl (fun _ _ _ => rfl) rfl rfl (hV.1 0 _ rfl) rfl ?_
      refine ev_aload_n 6 dX11_again_5 rfl rfl ?_
      refine ev_iload_n 7 dX11_again_6 rfl rfl ?_
      refine ev_iload_n 8 dX11_again_7 rfl rfl ?_
      refine ev_invV 11 (Mc := mX11_frameAt) ⟨lk923, lk75, hdX11_frameAt, (Nat.le_of_ble_eq_true rfl), (Nat.le_of_ble_eq_true rfl)⟩ lk920 lk922 lk23 mm_cl11 rfl dX11_again_8 (hf) rfl (hV.1 0 _ rfl) (Nat.le_of_ble_eq_true rfl) rfl rfl ?_
      refine ev_astore_n 12 (lv' := [_, _, some (.int _), _, _]) dX11_again_11 (Nat.le_of_ble_eq_true rfl) rfl rfl ?_
      refine ev_aload_n 13 dX11_again_12 rfl rfl ?_
      refine ev_ifnonnull_r 22 dX11_again_13 (by decide) ?_
      refine ev_aload_n 23 dX11_again_22 rfl rfl ?_
      refine ev_getP 26 mm_cl11 (j := 3) (Nat.le_of_ble_eq_true rfl) dX11_again_23 lk264 (fun _ _ _ => rfl) (hV.1 0 _ rfl) (a := (x + 19)) (hV.2.2 3 _ _ _ rfl) rfl ?_
      refine ev_iload_n 27 dX11_again_26 rfl rfl ?_
      refine ev_aald 28 _ 0 dX11_again_27 (hV.1 19 _ rfl) rfl (by have hNN := hV.2.1 19 _ rfl; omega) rfl ?_
      refine ev_eqR (a := o) (hP) ?_
      refine ev_getP 31 mm_cl0 (j := 2) (Nat.le_of_ble_eq_true rfl) dX11_again_28 lk547 (fun _ _ _ => rfl) (hC.1 0 _ rfl) (a := (o + 2)) (hC.2.2.1 1 _ _ _ rfl) rfl ?_
      refine ev_astore 33 (lv' := [_, _, _, some (.ref _), _]) dX11_again_31 (Nat.le_of_ble_eq_true rfl) rfl rfl ?_
      refine ev_aload 35 dX11_again_33 rfl rfl ?_
      refine ev_invV 38 (Mc := mX5_isFull) ⟨lk643, lk82, hdX5_isFull, (Nat.le_of_ble_eq_true rfl), (Nat.le_of_ble_eq_true rfl)⟩ lk640 lk641 lk642 mm_cl5 rfl dX11_again_35 (isf) rfl (hC.1 2 _ rfl) (Nat.le_of_ble_eq_true rfl) rfl rfl ?_
      refine ev_if_eqN 41 48 dX11_again_38 (by decide) (by omega) rfl (fun hbr => ?_) (fun hx => absurd ((by omega)) hx)
      refine ev_aload 50 dX11_again_48 rfl rfl ?_
      refine ev_aload 52 dX11_again_50 rfl rfl ?_
      refine ev_getI 55 mm_cl5 (j := 1) (Nat.le_of_ble_eq_true rfl) dX11_again_52 lk320 (fun _ _ _ => rfl) (hC.1 2 _ rfl) rfl ?_
      refine ev_eqI (y := nI (L)) ((by rw [v2]; exact hL)) ?_
      refine ev_new 58 mm_cl4 dX11_again_55 lk651 lk652 lk89 rfl ?_
      show Ev g _ 58 _ _ (mm_al B 104 0 3) _ _ _ _
      have hC := hC'
      refine ev_dup 59 dX11_again_58 rfl rfl ?_
      refine ev_aload_n 60 dX11_again_59 rfl rfl ?_
      refine ev_getI 63 mm_cl4 (j := 0) (Nat.le_of_ble_eq_true rfl) dX11_again_60 lk862 (fun _ _ _ => rfl) tf' rfl ?_
      refine ev_eqI (y := (v)) (lb) ?_
      refine ev_aload_n 64 dX11_again_63 rfl rfl ?_
      refine ev_getP 67 mm_cl4 (j := 1) (Nat.le_of_ble_eq_true rfl) dX11_again_64 lk864 (fun _ _ _ => rfl) tf' (a := a) ((by rw [va_up_n _ _ (show φ i ≠ mm_nx B by omega)]; exact h1)) rfl ?_
      refine ev_aload_n 68 dX11_again_67 rfl rfl ?_
      refine ev_getN 71 mm_cl4 (j := 2) (Nat.le_of_ble_eq_true rfl) dX11_again_68 lk866 (fun _ _ _ => rfl) tf' ((by rw [va_up_n _ _ (show φ i ≠ mm_nx B by omega)]; exact h2)) rfl ?_
      refine ev_invIv 74 (Mc := mX4_init) ⟨lk858, lk89, hdX4_init, (Nat.le_of_ble_eq_true rfl), (Nat.le_of_ble_eq_true rfl)⟩ lk856 lk857 rfl rfl dX11_again_71 (fi) rfl (Nat.le_of_ble_eq_true rfl) rfl rfl ?_
      refine ev_invVv 77 (Mc := mX5_insert) ⟨lk877, lk82, hdX5_insert, (Nat.le_of_ble_eq_true rfl), (Nat.le_of_ble_eq_true rfl)⟩ lk874 lk875 lk876 mm_cl5 rfl dX11_again_74 (is) rfl (hC.1 2 _ rfl) (Nat.le_of_ble_eq_true rfl) rfl rfl ?_
      refine ev_aload 79 dX11_again_77 rfl rfl ?_
      refine ev_getI 82 mm_cl5 (j := 1) (Nat.le_of_ble_eq_true rfl) dX11_again_79 lk320 (fun _ _ _ => rfl) (hC.1 2 _ rfl) rfl ?_
      refine ev_eqI (y := nI ((L+1))) ((by rw [va_up_s, va_up_s])) ?_
      exact ev_iret dX11_again_82 rfl (rfl)
    · have fi := ct_finit_2 (g := g) (B := mm_al B 104 0 3) (f := mm_nx B) (a := a) (I := va_up (vz I x) (mm_nx B) (fun _ => 0)) (J := va_up J (mm_nx B) (fun _ => 0)) (P := va_up P (mm_nx B) (fun _ => none)) (v := v) tn
      rw [va_up_s, bx_uu, va_up_s, bx_uu] at fi
      refine ct_of (lv := [some (.ref x), some (.int (nI k)), some (.int (nI i)), none, none]) (by decide +kernel) (Nat.le_of_ble_eq_true rfl) rfl ?_
      refine ev_aload_n 1 dX11_again_0 rfl rfl ?_
      refine ev_iconstN 2 0 dX11_again_1 rfl ?_
      refine ev_putI 5 mm_cl11 (j := 9) (Nat.le_of_ble_eq_true rfl) dX11_again_2 lk270 rfl (fun _ _ _ => rfl) rfl rfl (hV.1 0 _ rfl) rfl ?_
      refine ev_aload_n 6 dX11_again_5 rfl rfl ?_
      refine ev_iload_n 7 dX11_again_6 rfl rfl ?_
      refine ev_iload_n 8 dX11_again_7 rfl rfl ?_
      refine ev_invV 11 (Mc := mX11_frameAt) ⟨lk923, lk75, hdX11_frameAt, (Nat.le_of_ble_eq_true rfl), (Nat.le_of_ble_eq_true rfl)⟩ lk920 lk922 lk23 mm_cl11 rfl dX11_again_8 (hf) rfl (hV.1 0 _ rfl) (Nat.le_of_ble_eq_true rfl) rfl rfl ?_
      refine ev_astore_n 12 (lv' := [_, _, some (.int _), _, _]) dX11_again_11 (Nat.le_of_ble_eq_true rfl) rfl rfl ?_
      refine ev_aload_n 13 dX11_again_12 rfl rfl ?_
      refine ev_ifnonnull_r 22 dX11_again_13 (by decide) ?_
      refine ev_aload_n 23 dX11_again_22 rfl rfl ?_
      refine ev_getP 26 mm_cl11 (j := 3) (Nat.le_of_ble_eq_true rfl) dX11_again_23 lk264 (fun _ _ _ => rfl) (hV.1 0 _ rfl) (a := (x + 19)) (hV.2.2 3 _ _ _ rfl) rfl ?_
      refine ev_iload_n 27 dX11_again_26 rfl rfl ?_
      refine ev_aald 28 _ 0 dX11_again_27 (hV.1 19 _ rfl) rfl (by have hNN := hV.2.1 19 _ rfl; omega) rfl ?_
      refine ev_eqR (a := o) (hP) ?_
      refine ev_getP 31 mm_cl0 (j := 2) (Nat.le_of_ble_eq_true rfl) dX11_again_28 lk547 (fun _ _ _ => rfl) (hC.1 0 _ rfl) (a := (o + 2)) (hC.2.2.1 1 _ _ _ rfl) rfl ?_
      refine ev_astore 33 (lv' := [_, _, _, some (.ref _), _]) dX11_again_31 (Nat.le_of_ble_eq_true rfl) rfl rfl ?_
      refine ev_aload 35 dX11_again_33 rfl rfl ?_
      refine ev_invV 38 (Mc := mX5_isFull) ⟨lk643, lk82, hdX5_isFull, (Nat.le_of_ble_eq_true rfl), (Nat.le_of_ble_eq_true rfl)⟩ lk640 lk641 lk642 mm_cl5 rfl dX11_again_35 (isf) rfl (hC.1 2 _ rfl) (Nat.le_of_ble_eq_true rfl) rfl rfl ?_
      refine ev_if_eqN 41 48 dX11_again_38 (by decide) (by omega) rfl (fun hbr => ?_) (fun hx => absurd ((by omega)) hx)
      refine ev_aload 50 dX11_again_48 rfl rfl ?_
      refine ev_aload 52 dX11_again_50 rfl rfl ?_
      refine ev_getI 55 mm_cl5 (j := 1) (Nat.le_of_ble_eq_true rfl) dX11_again_52 lk320 (fun _ _ _ => rfl) (hC.1 2 _ rfl) rfl ?_
      refine ev_eqI (y := nI (L)) ((by rw [v2]; exact hL)) ?_
      refine ev_new 58 mm_cl4 dX11_again_55 lk651 lk652 lk89 rfl ?_
      show Ev g _ 58 _ _ (mm_al B 104 0 3) _ _ _ _
      have hC := hC'
      refine ev_dup 59 dX11_again_58 rfl rfl ?_
      refine ev_aload_n 60 dX11_again_59 rfl rfl ?_
      refine ev_getI 63 mm_cl4 (j := 0) (Nat.le_of_ble_eq_true rfl) dX11_again_60 lk862 (fun _ _ _ => rfl) tf' rfl ?_
      refine ev_eqI (y := (v)) (lb) ?_
      refine ev_aload_n 64 dX11_again_63 rfl rfl ?_
      refine ev_getN 67 mm_cl4 (j := 1) (Nat.le_of_ble_eq_true rfl) dX11_again_64 lk864 (fun _ _ _ => rfl) tf' ((by rw [va_up_n _ _ (show φ i ≠ mm_nx B by omega)]; exact h1)) rfl ?_
      refine ev_aload_n 68 dX11_again_67 rfl rfl ?_
      refine ev_getP 71 mm_cl4 (j := 2) (Nat.le_of_ble_eq_true rfl) dX11_again_68 lk866 (fun _ _ _ => rfl) tf' (a := a) ((by rw [va_up_n _ _ (show φ i ≠ mm_nx B by omega)]; exact h2)) rfl ?_
      refine ev_invIv 74 (Mc := mX4_init) ⟨lk858, lk89, hdX4_init, (Nat.le_of_ble_eq_true rfl), (Nat.le_of_ble_eq_true rfl)⟩ lk856 lk857 rfl rfl dX11_again_71 (fi) rfl (Nat.le_of_ble_eq_true rfl) rfl rfl ?_
      refine ev_invVv 77 (Mc := mX5_insert) ⟨lk877, lk82, hdX5_insert, (Nat.le_of_ble_eq_true rfl), (Nat.le_of_ble_eq_true rfl)⟩ lk874 lk875 lk876 mm_cl5 rfl dX11_again_74 (is) rfl (hC.1 2 _ rfl) (Nat.le_of_ble_eq_true rfl) rfl rfl ?_
      refine ev_aload 79 dX11_again_77 rfl rfl ?_
      refine ev_getI 82 mm_cl5 (j := 1) (Nat.le_of_ble_eq_true rfl) dX11_again_79 lk320 (fun _ _ _ => rfl) (hC.1 2 _ rfl) rfl ?_
      refine ev_eqI (y := nI ((L+1))) ((by rw [va_up_s, va_up_s])) ?_
      exact ev_iret dX11_again_82 rfl (rfl)
theorem ml_again_f {c i : Int32} (hM : lyM B P m) (hf : Ct g mX12_isFrame [.ref m, .int c, .int i] B I J P (some (.int (nI 0)), B, I, J, P)) : Ct g mX12_again [.ref m, .int c, .int i] B I J P (some (.int (-1)), B, mo_st I m (-1), J, P) := by
  refine ct_of (lv := [some (.ref m), some (.int (c)), some (.int (i))]) (by decide +kernel) (Nat.le_of_ble_eq_true rfl) rfl ?_
  refine ev_aload_n 1 dX12_again_0 rfl rfl ?_
  refine ev_iload_n 2 dX12_again_1 rfl rfl ?_
  refine ev_iload_n 3 dX12_again_2 rfl rfl ?_
  refine ev_invV 6 (Mc := mX12_isFrame) ⟨lk1728, lk80, hdX12_isFrame, (Nat.le_of_ble_eq_true rfl), (Nat.le_of_ble_eq_true rfl)⟩ lk1725 lk1727 lk62 mm_cl12 rfl dX12_again_3 (hf) rfl (hM.1 0 _ rfl) (Nat.le_of_ble_eq_true rfl) rfl rfl ?_
  refine ev_if_neN 9 15 dX12_again_6 (by decide) (by omega) rfl (fun hx => absurd ((by omega)) hx) (fun hbr => ?_)
  refine ev_aload_n 10 dX12_again_9 rfl rfl ?_
  refine ev_iconst 11 (v := -1) dX12_again_10 (by decide +kernel) rfl ?_
  refine ev_invV 14 (Mc := mX12_refused) ⟨lk1540, lk80, hdX12_refused, (Nat.le_of_ble_eq_true rfl), (Nat.le_of_ble_eq_true rfl)⟩ lk1537 lk1539 lk38 mm_cl12 rfl dX12_again_11 (ct_X12_refused hM) rfl (hM.1 0 _ rfl) (Nat.le_of_ble_eq_true rfl) rfl rfl ?_
  exact ev_iret dX12_again_14 rfl (rfl)
theorem ml_again_u (h : MA B I P m n k) (hL : I (m + 28) k = nI 250) (hi : i < 250) : Ct g mX12_again [.ref m, .int (nI k), .int (nI i)] B I J P (some (.int (-3)), B, mo_st I m (-3), J, P) := by
  have hf := ct_isFrame_t (g := g) (J := J) h hL (by omega) hi
  obtain ⟨hM, hn, h8, hk⟩ := h
  refine ct_of (lv := [some (.ref m), some (.int (nI (k))), some (.int (nI (i)))]) (by decide +kernel) (Nat.le_of_ble_eq_true rfl) rfl ?_
  refine ev_aload_n 1 dX12_again_0 rfl rfl ?_
  refine ev_iload_n 2 dX12_again_1 rfl rfl ?_
  refine ev_iload_n 3 dX12_again_2 rfl rfl ?_
  refine ev_invV 6 (Mc := mX12_isFrame) ⟨lk1728, lk80, hdX12_isFrame, (Nat.le_of_ble_eq_true rfl), (Nat.le_of_ble_eq_true rfl)⟩ lk1725 lk1727 lk62 mm_cl12 rfl dX12_again_3 (hf) rfl (hM.1 0 _ rfl) (Nat.le_of_ble_eq_true rfl) rfl rfl ?_
  refine ev_if_neN 9 15 dX12_again_6 (by decide) (by omega) rfl (fun hbr => ?_) (fun hx => absurd hx ((by omega)))
  refine ev_aload_n 16 dX12_again_15 rfl rfl ?_
  refine ev_getP 19 mm_cl12 (j := 33) (Nat.le_of_ble_eq_true rfl) dX12_again_16 lk1318 (fun _ _ _ => rfl) (hM.1 0 _ rfl) (a := (m + 28)) (hM.2.2 27 _ _ _ rfl) rfl ?_
  refine ev_iload_n 20 dX12_again_19 rfl rfl ?_
  refine ev_iald 21 _ dX12_again_20 (hM.1 28 _ rfl) rfl (by have hNN := hM.2.1 28 _ rfl; omega) rfl ?_
  refine ev_eqI (y := nI (250)) (hL) ?_
  refine ev_sipushN 24 250 dX12_again_21 (by decide +kernel) rfl ?_
  refine ev_icmp_neN 27 34 dX12_again_24 (by decide) (by omega) (by omega) rfl (fun hx => absurd ((by omega)) hx) (fun hbr => ?_)
  refine ev_aload_n 28 dX12_again_27 rfl rfl ?_
  refine ev_bipush 30 (v := -3) dX12_again_28 (by decide +kernel) rfl ?_
  refine ev_invV 33 (Mc := mX12_refused) ⟨lk1540, lk80, hdX12_refused, (Nat.le_of_ble_eq_true rfl), (Nat.le_of_ble_eq_true rfl)⟩ lk1537 lk1539 lk38 mm_cl12 rfl dX12_again_30 (ct_X12_refused hM) rfl (hM.1 0 _ rfl) (Nat.le_of_ble_eq_true rfl) rfl rfl ?_
  exact ev_iret dX12_again_33 rfl (rfl)
theorem ml_again_t {v w : Int32} (h : MA B I P m n k) (hL : I (m + 28) k = nI L) (hl : L < 250) (hi : i < L) (hv : I (m + 29) (250 * k + i) = v) (hw : I (m + 30) (250 * k + i) = w) : Ct g mX12_again [.ref m, .int (nI k), .int (nI i)] B I J P (some (.int (nI (L + 1))), B, mo_st (va_up (va_up (va_up I (m + 29) (va_up (I (m + 29)) (250 * k + L) v)) (m + 30) (va_up (I (m + 30)) (250 * k + L) w)) (m + 28) (va_up (I (m + 28)) k (nI (L + 1)))) m (nI 0), J, P) := by
  have hf := ct_isFrame_t (g := g) (J := J) h hL (by omega) hi
  obtain ⟨hM, hn, h8, hk⟩ := h
  have ap := ct_X12_append (g := g) (J := J) (v := v) (rw := w - nI 1) hM (show k < 8 by omega) hL hl
  rw [Int32.sub_add_cancel] at ap
  refine ct_of (lv := [some (.ref m), some (.int (nI (k))), some (.int (nI (i)))]) (by decide +kernel) (Nat.le_of_ble_eq_true rfl) rfl ?_
  refine ev_aload_n 1 dX12_again_0 rfl rfl ?_
  refine ev_iload_n 2 dX12_again_1 rfl rfl ?_
  refine ev_iload_n 3 dX12_again_2 rfl rfl ?_
  refine ev_invV 6 (Mc := mX12_isFrame) ⟨lk1728, lk80, hdX12_isFrame, (Nat.le_of_ble_eq_true rfl), (Nat.le_of_ble_eq_true rfl)⟩ lk1725 lk1727 lk62 mm_cl12 rfl dX12_again_3 (hf) rfl (hM.1 0 _ rfl) (Nat.le_of_ble_eq_true rfl) rfl rfl ?_
  refine ev_if_neN 9 15 dX12_again_6 (by decide) (by omega) rfl (fun hbr => ?_) (fun hx => absurd hx ((by omega)))
  refine ev_aload_n 16 dX12_again_15 rfl rfl ?_
  refine ev_getP 19 mm_cl12 (j := 33) (Nat.le_of_ble_eq_true rfl) dX12_again_16 lk1318 (fun _ _ _ => rfl) (hM.1 0 _ rfl) (a := (m + 28)) (hM.2.2 27 _ _ _ rfl) rfl ?_
  refine ev_iload_n 20 dX12_again_19 rfl rfl ?_
  refine ev_iald 21 _ dX12_again_20 (hM.1 28 _ rfl) rfl (by have hNN := hM.2.1 28 _ rfl; omega) rfl ?_
  refine ev_eqI (y := nI (L)) (hL) ?_
  refine ev_sipushN 24 250 dX12_again_21 (by decide +kernel) rfl ?_
  refine ev_icmp_neN 27 34 dX12_again_24 (by decide) (by omega) (by omega) rfl (fun hbr => ?_) (fun hx => absurd hx ((by omega)))
  refine ev_aload_n 35 dX12_again_34 rfl rfl ?_
  refine ev_iload_n 36 dX12_again_35 rfl rfl ?_
  refine ev_aload_n 37 dX12_again_36 rfl rfl ?_
  refine ev_getP 40 mm_cl12 (j := 34) (Nat.le_of_ble_eq_true rfl) dX12_again_37 lk1319 (fun _ _ _ => rfl) (hM.1 0 _ rfl) (a := (m + 29)) (hM.2.2 28 _ _ _ rfl) rfl ?_
  refine ev_sipushN 43 250 dX12_again_40 (by decide +kernel) rfl ?_
  refine ev_iload_n 44 dX12_again_43 rfl rfl ?_
  refine ev_imulN 45 dX12_again_44 rfl ?_
  refine ev_iload_n 46 dX12_again_45 rfl rfl ?_
  refine ev_iaddN 47 dX12_again_46 rfl ?_
  refine ev_iald 48 _ dX12_again_47 (hM.1 29 _ rfl) rfl (by have hNN := hM.2.1 29 _ rfl; omega) rfl ?_
  refine ev_eqI (y := (v)) (hv) ?_
  refine ev_aload_n 49 dX12_again_48 rfl rfl ?_
  refine ev_getP 52 mm_cl12 (j := 35) (Nat.le_of_ble_eq_true rfl) dX12_again_49 lk1320 (fun _ _ _ => rfl) (hM.1 0 _ rfl) (a := (m + 30)) (hM.2.2 29 _ _ _ rfl) rfl ?_
  refine ev_sipushN 55 250 dX12_again_52 (by decide +kernel) rfl ?_
  refine ev_iload_n 56 dX12_again_55 rfl rfl ?_
  refine ev_imulN 57 dX12_again_56 rfl ?_
  refine ev_iload_n 58 dX12_again_57 rfl rfl ?_
  refine ev_iaddN 59 dX12_again_58 rfl ?_
  refine ev_iald 60 _ dX12_again_59 (hM.1 30 _ rfl) rfl (by have hNN := hM.2.1 30 _ rfl; omega) rfl ?_
  refine ev_eqI (y := (w)) (hw) ?_
  refine ev_iconstN 61 1 dX12_again_60 rfl ?_
  refine ev_isub 62 dX12_again_61 rfl ?_
  refine ev_invVv 65 (Mc := mX12_append) ⟨lk1702, lk80, hdX12_append, (Nat.le_of_ble_eq_true rfl), (Nat.le_of_ble_eq_true rfl)⟩ lk1699 lk1701 lk60 mm_cl12 rfl dX12_again_62 (ap) rfl (hM.1 0 _ rfl) (Nat.le_of_ble_eq_true rfl) rfl rfl ?_
  refine ev_aload_n 66 dX12_again_65 rfl rfl ?_
  refine ev_aload_n 67 dX12_again_66 rfl rfl ?_
  refine ev_getP 70 mm_cl12 (j := 33) (Nat.le_of_ble_eq_true rfl) dX12_again_67 lk1318 (fun _ _ _ => rfl) (hM.1 0 _ rfl) (a := (m + 28)) (hM.2.2 27 _ _ _ rfl) rfl ?_
  refine ev_iload_n 71 dX12_again_70 rfl rfl ?_
  refine ev_iald 72 _ dX12_again_71 (hM.1 28 _ rfl) rfl (by have hNN := hM.2.1 28 _ rfl; omega) rfl ?_
  refine ev_eqI (y := nI ((L+1))) ((by rw [va_up_s, va_up_s])) ?_
  refine ev_invV 75 (Mc := mX12_done) ⟨lk1544, lk80, hdX12_done, (Nat.le_of_ble_eq_true rfl), (Nat.le_of_ble_eq_true rfl)⟩ lk1541 lk1543 lk39 mm_cl12 rfl dX12_again_72 (ct_X12_done hM) rfl (hM.1 0 _ rfl) (Nat.le_of_ble_eq_true rfl) rfl rfl ?_
  exact ev_iret dX12_again_75 rfl (rfl)
/-! feed -/
theorem cl_feed_f {c v : Int32} (hV : lyV B P x) (hx : I x 4 = nI n) (hc : ¬ (0 ≤ c ∧ c < nI n)) : Ct g mX11_feed [.ref x, .int c, .int v] B I J P (some (.int (-1)), B, vst I x (-1), J, P) := by
  refine ct_of (lv := [some (.ref x), some (.int (c)), some (.int (v)), none, none]) (by decide +kernel) (Nat.le_of_ble_eq_true rfl) rfl ?_
  refine ev_aload_n 1 dX11_feed_0 rfl rfl ?_
  refine ev_iconstN 2 0 dX11_feed_1 rfl ?_
  refine ev_putI 5 mm_cl11 (j := 9) (Nat.le_of_ble_eq_true rfl) dX11_feed_2 lk270 rfl (fun _ _ _ => rfl) rfl rfl (hV.1 0 _ rfl) rfl ?_
  refine ev_aload_n 6 dX11_feed_5 rfl rfl ?_
  refine ev_iload_n 7 dX11_feed_6 rfl rfl ?_
  refine ev_invV 10 (Mc := mX11_coderAt) ⟨lk570, lk75, hdX11_coderAt, (Nat.le_of_ble_eq_true rfl), (Nat.le_of_ble_eq_true rfl)⟩ lk567 lk569 lk1 mm_cl11 rfl dX11_feed_7 (ca_f hV hx hc) rfl (hV.1 0 _ rfl) (Nat.le_of_ble_eq_true rfl) rfl rfl ?_
  refine ev_astore_nN 11 (lv' := [_, _, some (.int _), _, _]) dX11_feed_10 (Nat.le_of_ble_eq_true rfl) rfl rfl ?_
  refine ev_aload_nN 12 dX11_feed_11 rfl rfl ?_
  refine ev_ifnull_n 22 dX11_feed_12 (by decide) ?_
  refine ev_aload_n 23 dX11_feed_22 rfl rfl ?_
  refine ev_iconst 24 (v := -1) dX11_feed_23 (by decide +kernel) rfl ?_
  refine ev_invV 27 (Mc := mX11_refuse) ⟨lk303, lk75, hdX11_refuse, (Nat.le_of_ble_eq_true rfl), (Nat.le_of_ble_eq_true rfl)⟩ lk300 lk302 lk0 mm_cl11 rfl dX11_feed_24 (ct_refuse hV) rfl (hV.1 0 _ rfl) (Nat.le_of_ble_eq_true rfl) rfl rfl ?_
  exact ev_iret dX11_feed_27 rfl (rfl)
theorem cl_feed_b {v : Int32} (h : CA B I P x o n k) (hv : ¬ (nI 0 ≤ v ∧ v ≤ nI 65535)) : Ct g mX11_feed [.ref x, .int (nI k), .int v] B I J P (some (.int (-1)), B, vst I x (-1), J, P) := by
  have ca := ca_t (g := g) (J := J) h
  obtain ⟨hV, hC, hxo, hx, h8, hk, hP⟩ := h
  refine ct_of (lv := [some (.ref x), some (.int (nI (k))), some (.int (v)), none, none]) (by decide +kernel) (Nat.le_of_ble_eq_true rfl) rfl ?_
  refine ev_aload_n 1 dX11_feed_0 rfl rfl ?_
  refine ev_iconstN 2 0 dX11_feed_1 rfl ?_
  refine ev_putI 5 mm_cl11 (j := 9) (Nat.le_of_ble_eq_true rfl) dX11_feed_2 lk270 rfl (fun _ _ _ => rfl) rfl rfl (hV.1 0 _ rfl) rfl ?_
  refine ev_aload_n 6 dX11_feed_5 rfl rfl ?_
  refine ev_iload_n 7 dX11_feed_6 rfl rfl ?_
  refine ev_invV 10 (Mc := mX11_coderAt) ⟨lk570, lk75, hdX11_coderAt, (Nat.le_of_ble_eq_true rfl), (Nat.le_of_ble_eq_true rfl)⟩ lk567 lk569 lk1 mm_cl11 rfl dX11_feed_7 (ca) rfl (hV.1 0 _ rfl) (Nat.le_of_ble_eq_true rfl) rfl rfl ?_
  refine ev_astore_n 11 (lv' := [_, _, some (.int _), _, _]) dX11_feed_10 (Nat.le_of_ble_eq_true rfl) rfl rfl ?_
  refine ev_aload_n 12 dX11_feed_11 rfl rfl ?_
  refine ev_ifnull_r 15 dX11_feed_12 rfl ?_
  refine ev_iload_n 16 dX11_feed_15 rfl rfl ?_
  refine ev_invS 19 (Mc := mX11_isLabel) ⟨lk597, lk75, hdX11_isLabel, (Nat.le_of_ble_eq_true rfl), (Nat.le_of_ble_eq_true rfl)⟩ lk595 lk596 dX11_feed_16 (ct_isLabel_f hv) rfl (Nat.le_of_ble_eq_true rfl) rfl rfl ?_
  refine ev_if_neN 22 28 dX11_feed_19 (by decide) (by omega) rfl (fun hx => absurd ((by omega)) hx) (fun hbr => ?_)
  refine ev_aload_n 23 dX11_feed_22 rfl rfl ?_
  refine ev_iconst 24 (v := -1) dX11_feed_23 (by decide +kernel) rfl ?_
  refine ev_invV 27 (Mc := mX11_refuse) ⟨lk303, lk75, hdX11_refuse, (Nat.le_of_ble_eq_true rfl), (Nat.le_of_ble_eq_true rfl)⟩ lk300 lk302 lk0 mm_cl11 rfl dX11_feed_24 (ct_refuse hV) rfl (hV.1 0 _ rfl) (Nat.le_of_ble_eq_true rfl) rfl rfl ?_
  exact ev_iret dX11_feed_27 rfl (rfl)
theorem cl_feed_u {v : Nat} (h : CA B I P x o n k) (hv : v ≤ 65535) (hL : I (o + 2) 1 = nI 250) : Ct g mX11_feed [.ref x, .int (nI k), .int (nI v)] B I J P (some (.int (-3)), B, vst I x (-3), J, P) := by
  have ca := ca_t (g := g) (J := J) h
  obtain ⟨hV, hC, hxo, hx, h8, hk, hP⟩ := h
  have isf := ct_X5_isFull (g := g) (J := J) (n := 250) (I := vz I x) hC (by rw [show vz I x (o + 2) = I (o + 2) from va_up_n _ _ (by omega)]; exact hL) (by omega)
  rw [if_pos rfl] at isf
  refine ct_of (lv := [some (.ref x), some (.int (nI (k))), some (.int (nI (v))), none, none]) (by decide +kernel) (Nat.le_of_ble_eq_true rfl) rfl ?_
  refine ev_aload_n 1 dX11_feed_0 rfl rfl ?_
  refine ev_iconstN 2 0 dX11_feed_1 rfl ?_
  refine ev_putI 5 mm_cl11 (j := 9) (Nat.le_of_ble_eq_true rfl) dX11_feed_2 lk270 rfl (fun _ _ _ => rfl) rfl rfl (hV.1 0 _ rfl) rfl ?_
  refine ev_aload_n 6 dX11_feed_5 rfl rfl ?_
  refine ev_iload_n 7 dX11_feed_6 rfl rfl ?_
  refine ev_invV 10 (Mc := mX11_coderAt) ⟨lk570, lk75, hdX11_coderAt, (Nat.le_of_ble_eq_true rfl), (Nat.le_of_ble_eq_true rfl)⟩ lk567 lk569 lk1 mm_cl11 rfl dX11_feed_7 (ca) rfl (hV.1 0 _ rfl) (Nat.le_of_ble_eq_true rfl) rfl rfl ?_
  refine ev_astore_n 11 (lv' := [_, _, some (.int _), _, _]) dX11_feed_10 (Nat.le_of_ble_eq_true rfl) rfl rfl ?_
  refine ev_aload_n 12 dX11_feed_11 rfl rfl ?_
  refine ev_ifnull_r 15 dX11_feed_12 rfl ?_
  refine ev_iload_n 16 dX11_feed_15 rfl rfl ?_
  refine ev_invS 19 (Mc := mX11_isLabel) ⟨lk597, lk75, hdX11_isLabel, (Nat.le_of_ble_eq_true rfl), (Nat.le_of_ble_eq_true rfl)⟩ lk595 lk596 dX11_feed_16 (ct_isLabel_t hv) rfl (Nat.le_of_ble_eq_true rfl) rfl rfl ?_
  refine ev_if_neN 22 28 dX11_feed_19 (by decide) (by omega) rfl (fun hbr => ?_) (fun hx => absurd hx ((by omega)))
  refine ev_aload_n 29 dX11_feed_28 rfl rfl ?_
  refine ev_getP 32 mm_cl0 (j := 2) (Nat.le_of_ble_eq_true rfl) dX11_feed_29 lk547 (fun _ _ _ => rfl) (hC.1 0 _ rfl) (a := (o + 2)) (hC.2.2.1 1 _ _ _ rfl) rfl ?_
  refine ev_astore 34 (lv' := [_, _, _, some (.ref _), _]) dX11_feed_32 (Nat.le_of_ble_eq_true rfl) rfl rfl ?_
  refine ev_aload 36 dX11_feed_34 rfl rfl ?_
  refine ev_invV 39 (Mc := mX5_isFull) ⟨lk643, lk82, hdX5_isFull, (Nat.le_of_ble_eq_true rfl), (Nat.le_of_ble_eq_true rfl)⟩ lk640 lk641 lk642 mm_cl5 rfl dX11_feed_36 (isf) rfl (hC.1 2 _ rfl) (Nat.le_of_ble_eq_true rfl) rfl rfl ?_
  refine ev_if_eqN 42 49 dX11_feed_39 (by decide) (by omega) rfl (fun hx => absurd hx ((by omega))) (fun hbr => ?_)
  refine ev_aload_n 43 dX11_feed_42 rfl rfl ?_
  refine ev_bipush 45 (v := -3) dX11_feed_43 (by decide +kernel) rfl ?_
  refine ev_invV 48 (Mc := mX11_refuse) ⟨lk303, lk75, hdX11_refuse, (Nat.le_of_ble_eq_true rfl), (Nat.le_of_ble_eq_true rfl)⟩ lk300 lk302 lk0 mm_cl11 rfl dX11_feed_45 (ct_refuse hV) rfl (hV.1 0 _ rfl) (Nat.le_of_ble_eq_true rfl) rfl rfl ?_
  exact ev_iret dX11_feed_48 rfl (rfl)
theorem cx_feed {v t : Nat} (h : CA B I P x o n k) (hv : v ≤ 65535) (hL : I (o + 2) 1 = nI L) (hl : L < 250) (hnx : o + 33 ≤ mm_nx B) (hφ : ∀ q, q < L → P (o + 3) q = some (φ q) ∧ mm_T B (φ q) = 104 ∧ φ q < mm_nx B) (ht : I x 6 = nI t) (ht6 : t ≤ 64) (hb : ∀ q, q < t → b8 (I (x + 20) q) = I (x + 20) q) :
    ∃ (I1 : mm_TI) (J1 : mm_TJ) (P1 : mm_TP), APc x o L (mm_nx B) (nI v) (some (mm_nx B + 1)) none φ I I1 J J1 P P1 ∧ (∀ q, q < t → I1 (mm_nx B + 1) q = I (x + 20) q) ∧ I1 x = va_up (va_up (I x) 9 (nI 0)) 6 (nI 0) ∧ Ct g mX11_feed [.ref x, .int (nI k), .int (nI v)] B I J P (some (.int (nI (L + 1))), mm_al (mm_al B 104 0 3) 201 t t, I1, J1, P1) := by
  have ca := ca_t (g := g) (J := J) h
  obtain ⟨hV, hC, hxo, hx, h8, hk, hP⟩ := h
  have v2 : vz I x (o + 2) = I (o + 2) := va_up_n _ _ (by omega)
  have isf := ct_X5_isFull (g := g) (J := J) (n := L) (I := vz I x) hC (by rw [v2]; exact hL) (by omega)
  rw [if_neg (by omega)] at isf
  have nx1 : mm_nx (mm_al B 104 0 3) = mm_nx B + 1 := rfl
  have hV1 : lyV (mm_al B 104 0 3) (va_up P (mm_nx B) (fun _ => none)) x := lyV_al hV (by omega)
  have tn : mm_T (mm_al B 104 0 3) (mm_nx B) = 104 := al_Ts
  have hC1 : lyC (mm_al B 104 0 3) (va_up P (mm_nx B) (fun _ => none)) x o := lyC_al hC (by omega)
  have e20 : va_up (vz I x) (mm_nx B) (fun _ => 0) (x + 20) = I (x + 20) := by rw [va_up_n _ _ (by omega)]; exact va_up_n _ _ (by omega)
  obtain ⟨Fr, hFr, cp⟩ := cx_copyB (g := g) (B := mm_al B 104 0 3) (I := va_up (vz I x) (mm_nx B) (fun _ => 0)) (J := va_up J (mm_nx B) (fun _ => 0)) (P := va_up P (mm_nx B) (fun _ => none)) (q := x + 20) (n := 64) (s := t) (hV1.1 20 _ rfl) (hV1.2.1 20 _ rfl) (by rw [nx1]; omega) (by omega) ht6 (fun q hq => by rw [e20]; exact hb q hq)
  rw [e20] at hFr
  rw [nx1] at cp
  have tn2 : mm_T (mm_al (mm_al B 104 0 3) 201 t t) (mm_nx B) = 104 := (al_T (by rw [nx1]; omega)).trans tn
  have hV2 : lyV (mm_al (mm_al B 104 0 3) 201 t t) (va_up (va_up P (mm_nx B) (fun _ => none)) (mm_nx B + 1) (fun _ => none)) x := lyV_al hV1 (by rw [nx1]; omega)
  have hC2 : lyC (mm_al (mm_al B 104 0 3) 201 t t) (va_up (va_up P (mm_nx B) (fun _ => none)) (mm_nx B + 1) (fun _ => none)) x o := lyC_al hC1 (by rw [nx1]; omega)
  have fi := ct_finit_1 (g := g) (B := mm_al (mm_al B 104 0 3) 201 t t) (f := mm_nx B) (a := mm_nx B + 1) (I := va_up (va_up (vz I x) (mm_nx B) (fun _ => 0)) (mm_nx B + 1) Fr) (J := va_up (va_up J (mm_nx B) (fun _ => 0)) (mm_nx B + 1) (fun _ => 0)) (P := va_up (va_up P (mm_nx B) (fun _ => none)) (mm_nx B + 1) (fun _ => none)) (v := nI v) tn2
  rw [va_up_n _ _ (show mm_nx B ≠ mm_nx B + 1 by omega), va_up_s, va_3 _ _ _ _ (by omega), va_up_n _ _ (show mm_nx B ≠ mm_nx B + 1 by omega), va_up_s, va_3 _ _ _ _ (by omega)] at fi
  generalize hIa : va_up (va_up (vz I x) (mm_nx B) (va_up (fun _ => 0) 0 (nI v))) (mm_nx B + 1) Fr = Ia at fi
  generalize hPa : va_up (va_up P (mm_nx B) (va_up (va_up (fun _ => none) 1 (some (mm_nx B + 1))) 2 none)) (mm_nx B + 1) (fun _ => none) = Pa at fi
  have hCa : lyC (mm_al (mm_al B 104 0 3) 201 t t) Pa x o := by
    rw [← hPa]; exact lyC_al (lyC_al hC (by omega)) (by rw [nx1]; omega)
  have ga : ∀ q, q ≠ mm_nx B → q ≠ mm_nx B + 1 → Ia q = vz I x q := fun q q1 q2 => by rw [← hIa, va_up_n _ _ q2, va_up_n _ _ q1]
  have pa : ∀ q, q ≠ mm_nx B → q ≠ mm_nx B + 1 → Pa q = P q := fun q q1 q2 => by rw [← hPa, va_up_n _ _ q2, va_up_n _ _ q1]
  obtain ⟨F', is, hF⟩ := cx_X5_insert (g := g) (B := mm_al (mm_al B 104 0 3) 201 t t) (I := Ia) (J := va_up (va_up J (mm_nx B) (fun _ => 0)) (mm_nx B + 1) (fun _ => 0)) (P := Pa) (n := L) (i := L) (f := mm_nx B) (φ := φ) hCa hl (Nat.le_refl _) (by rw [ga _ (by omega) (by omega), v2]; exact hL) tn2 (fun q hq => ⟨by rw [pa _ (by omega) (by omega)]; exact (hφ q hq).1, (al_T (by have := (hφ q hq).2.2; rw [nx1]; omega)).trans ((al_T (by have := (hφ q hq).2.2; omega)).trans (hφ q hq).2.1)⟩)
  rw [ga _ (by omega) (by omega), v2] at is
  generalize hIb : va_up Ia (o + 2) (va_up (I (o + 2)) 1 (nI (L + 1))) = Ib at is
  have gb : ∀ q, q ≠ o + 2 → Ib q = Ia q := fun q q1 => by rw [← hIb, va_up_n _ _ q1]
  refine ⟨va_up Ib x (va_up (Ib x) 6 (nI 0)), va_up (va_up J (mm_nx B) (fun _ => 0)) (mm_nx B + 1) (fun _ => 0), va_up Pa (o + 3) F', ⟨?_, ?_, ?_, ?_, ?_, ?_, ?_, ?_⟩, ?_, ?_, ?_⟩
  · rw [va_up_n _ _ (by omega), gb _ (by omega), ← hIa, va_up_n _ _ (by omega), va_up_s, va_up_s]
  · rw [va_up_n _ _ (by omega), ← hIb, va_up_s]
  · rw [va_up_n _ _ (by omega), ← hPa, va_up_n _ _ (by omega), va_up_s, va_up_n _ _ (by omega), va_up_s]
  · rw [va_up_n _ _ (by omega), ← hPa, va_up_n _ _ (by omega), va_up_s, va_up_s]
  · rw [va_up_s]; exact ap_in hF
  · intro q q1 q2 q3
    rw [va_up_n _ _ q2, gb _ q3, ga _ (by omega) (by omega)]; exact va_up_n _ _ q2
  · exact fun q hq => by rw [va_up_n _ _ (by omega), va_up_n _ _ (by omega)]
  · exact fun q q1 q2 => by rw [va_up_n _ _ q2, pa _ (by omega) (by omega)]
  · intro q hq
    rw [va_up_n _ _ (by omega), gb _ (by omega), ← hIa, va_up_s]; exact hFr q hq
  · rw [va_up_s, gb _ (by omega), ga _ (by omega) (by omega), show vz I x x = va_up (I x) 9 (nI 0) from va_up_s _ _ _]
  · have e6 : va_up (vz I x) (mm_nx B) (fun _ => 0) x 6 = nI t := by rw [va_up_n _ _ (by omega)]; exact vzx ht (by omega)
    refine ct_of (lv := [some (.ref x), some (.int (nI k)), some (.int (nI v)), none, none]) (by decide +kernel) (Nat.le_of_ble_eq_true rfl) rfl ?_
    refine ev_aload_n 1 dX11_feed_0 rfl rfl ?_
    refine ev_iconstN 2 0 dX11_feed_1 rfl ?_
    refine ev_putI 5 mm_cl11 (j := 9) (Nat.le_of_ble_eq_true rfl) dX11_feed_2 lk270 rfl (fun _ _ _ => rfl) rfl rfl (hV.1 0 _ rfl) rfl ?_
    refine ev_aload_n 6 dX11_feed_5 rfl rfl ?_
    refine ev_iload_n 7 dX11_feed_6 rfl rfl ?_
    refine ev_invV 10 (Mc := mX11_coderAt) ⟨lk570, lk75, hdX11_coderAt, (Nat.le_of_ble_eq_true rfl), (Nat.le_of_ble_eq_true rfl)⟩ lk567 lk569 lk1 mm_cl11 rfl dX11_feed_7 (ca) rfl (hV.1 0 _ rfl) (Nat.le_of_ble_eq_true rfl) rfl rfl ?_
    refine ev_astore_n 11 (lv' := [_, _, some (.int _), _, _]) dX11_feed_10 (Nat.le_of_ble_eq_true rfl) rfl rfl ?_
    refine ev_aload_n 12 dX11_feed_11 rfl rfl ?_
    refine ev_ifnull_r 15 dX11_feed_12 rfl ?_
    refine ev_iload_n 16 dX11_feed_15 rfl rfl ?_
    refine ev_invS 19 (Mc := mX11_isLabel) ⟨lk597, lk75, hdX11_isLabel, (Nat.le_of_ble_eq_true rfl), (Nat.le_of_ble_eq_true rfl)⟩ lk595 lk596 dX11_feed_16 (ct_isLabel_t hv) rfl (Nat.le_of_ble_eq_true rfl) rfl rfl ?_
    refine ev_if_neN 22 28 dX11_feed_19 (by decide) (by omega) rfl (fun hbr => ?_) (fun hx => absurd hx ((by omega)))
    refine ev_aload_n 29 dX11_feed_28 rfl rfl ?_
    refine ev_getP 32 mm_cl0 (j := 2) (Nat.le_of_ble_eq_true rfl) dX11_feed_29 lk547 (fun _ _ _ => rfl) (hC.1 0 _ rfl) (a := (o + 2)) (hC.2.2.1 1 _ _ _ rfl) rfl ?_
    refine ev_astore 34 (lv' := [_, _, _, some (.ref _), _]) dX11_feed_32 (Nat.le_of_ble_eq_true rfl) rfl rfl ?_
    refine ev_aload 36 dX11_feed_34 rfl rfl ?_
    refine ev_invV 39 (Mc := mX5_isFull) ⟨lk643, lk82, hdX5_isFull, (Nat.le_of_ble_eq_true rfl), (Nat.le_of_ble_eq_true rfl)⟩ lk640 lk641 lk642 mm_cl5 rfl dX11_feed_36 (isf) rfl (hC.1 2 _ rfl) (Nat.le_of_ble_eq_true rfl) rfl rfl ?_
    refine ev_if_eqN 42 49 dX11_feed_39 (by decide) (by omega) rfl (fun hbr => ?_) (fun hx => absurd ((by omega)) hx)
    refine ev_aload 51 dX11_feed_49 rfl rfl ?_
    refine ev_aload 53 dX11_feed_51 rfl rfl ?_
    refine ev_getI 56 mm_cl5 (j := 1) (Nat.le_of_ble_eq_true rfl) dX11_feed_53 lk320 (fun _ _ _ => rfl) (hC.1 2 _ rfl) rfl ?_
    refine ev_eqI (y := nI (L)) ((by rw [v2]; exact hL)) ?_
    refine ev_new 59 mm_cl4 dX11_feed_56 lk651 lk652 lk89 rfl ?_
    show Ev g _ 59 _ _ (mm_al B 104 0 3) _ _ _ _
    have hV0 := hV
    have hV := hV1
    refine ev_dup 60 dX11_feed_59 rfl rfl ?_
    refine ev_iload_n 61 dX11_feed_60 rfl rfl ?_
    refine ev_aload_n 62 dX11_feed_61 rfl rfl ?_
    refine ev_getP 65 mm_cl11 (j := 5) (Nat.le_of_ble_eq_true rfl) dX11_feed_62 lk266 (fun _ _ _ => rfl) (hV.1 0 _ rfl) (a := (x + 20)) (hV.2.2 4 _ _ _ rfl) rfl ?_
    refine ev_aload_n 66 dX11_feed_65 rfl rfl ?_
    refine ev_getI 69 mm_cl11 (j := 6) (Nat.le_of_ble_eq_true rfl) dX11_feed_66 lk267 (fun _ _ _ => rfl) (hV.1 0 _ rfl) rfl ?_
    refine ev_eqI (y := nI (t)) (e6) ?_
    refine ev_invS 72 (Mc := mJ7_copyOf_9075b) ⟨lk964, lk90, hdJ7_copyOf_9075b, (Nat.le_of_ble_eq_true rfl), (Nat.le_of_ble_eq_true rfl)⟩ lk1028 lk963 dX11_feed_69 (cp) rfl (Nat.le_of_ble_eq_true rfl) rfl rfl ?_
    have hV := hV2
    have hC := hC2
    refine ev_null 73 dX11_feed_72 rfl ?_
    refine ev_invIv 76 (Mc := mX4_init) ⟨lk858, lk89, hdX4_init, (Nat.le_of_ble_eq_true rfl), (Nat.le_of_ble_eq_true rfl)⟩ lk856 lk857 rfl rfl dX11_feed_73 (fi) rfl (Nat.le_of_ble_eq_true rfl) rfl rfl ?_
    refine ev_invVv 79 (Mc := mX5_insert) ⟨lk877, lk82, hdX5_insert, (Nat.le_of_ble_eq_true rfl), (Nat.le_of_ble_eq_true rfl)⟩ lk874 lk875 lk876 mm_cl5 rfl dX11_feed_76 (is) rfl (hC.1 2 _ rfl) (Nat.le_of_ble_eq_true rfl) rfl rfl ?_
    refine ev_aload_n 80 dX11_feed_79 rfl rfl ?_
    refine ev_iconstN 81 0 dX11_feed_80 rfl ?_
    refine ev_putI 84 mm_cl11 (j := 6) (Nat.le_of_ble_eq_true rfl) dX11_feed_81 lk267 rfl (fun _ _ _ => rfl) rfl rfl (hV.1 0 _ rfl) rfl ?_
    refine ev_aload 86 dX11_feed_84 rfl rfl ?_
    refine ev_getI 89 mm_cl5 (j := 1) (Nat.le_of_ble_eq_true rfl) dX11_feed_86 lk320 (fun _ _ _ => rfl) (hC.1 2 _ rfl) rfl ?_
    refine ev_eqI (y := nI ((L+1))) ((by rw [va_up_n _ _ (by omega), ← hIb, va_up_s, va_up_s])) ?_
    exact ev_iret dX11_feed_89 rfl (rfl)
theorem ml_feed_f {c v : Int32} (hM : lyM B P m) (hn : I m 0 = nI n) (hc : ¬ (0 ≤ c ∧ c < nI n)) : Ct g mX12_feed [.ref m, .int c, .int v] B I J P (some (.int (-1)), B, mo_st I m (-1), J, P) := by
  refine ct_of (lv := [some (.ref m), some (.int (c)), some (.int (v)), none, none]) (by decide +kernel) (Nat.le_of_ble_eq_true rfl) rfl ?_
  refine ev_aload_n 1 dX12_feed_0 rfl rfl ?_
  refine ev_iload_n 2 dX12_feed_1 rfl rfl ?_
  refine ev_invV 5 (Mc := mX12_isCoder) ⟨lk1552, lk80, hdX12_isCoder, (Nat.le_of_ble_eq_true rfl), (Nat.le_of_ble_eq_true rfl)⟩ lk1549 lk1551 lk40 mm_cl12 rfl dX12_feed_2 (ct_X12_isCoder_f hM (by rw [hn]; exact hc)) rfl (hM.1 0 _ rfl) (Nat.le_of_ble_eq_true rfl) rfl rfl ?_
  refine ev_if_eqN 8 18 dX12_feed_5 (by decide) (by omega) rfl (fun hbr => ?_) (fun hx => absurd ((by omega)) hx)
  refine ev_aload_n 19 dX12_feed_18 rfl rfl ?_
  refine ev_iconst 20 (v := -1) dX12_feed_19 (by decide +kernel) rfl ?_
  refine ev_invV 23 (Mc := mX12_refused) ⟨lk1540, lk80, hdX12_refused, (Nat.le_of_ble_eq_true rfl), (Nat.le_of_ble_eq_true rfl)⟩ lk1537 lk1539 lk38 mm_cl12 rfl dX12_feed_20 (ct_X12_refused hM) rfl (hM.1 0 _ rfl) (Nat.le_of_ble_eq_true rfl) rfl rfl ?_
  exact ev_iret dX12_feed_23 rfl (rfl)
theorem ml_feed_b {v : Int32} (h : MA B I P m n k) (hv : ¬ (nI 0 ≤ v ∧ v ≤ nI 65535)) : Ct g mX12_feed [.ref m, .int (nI k), .int v] B I J P (some (.int (-1)), B, mo_st I m (-1), J, P) := by
  obtain ⟨hM, hn, h8, hk⟩ := h
  refine ct_of (lv := [some (.ref m), some (.int (nI (k))), some (.int (v)), none, none]) (by decide +kernel) (Nat.le_of_ble_eq_true rfl) rfl ?_
  refine ev_aload_n 1 dX12_feed_0 rfl rfl ?_
  refine ev_iload_n 2 dX12_feed_1 rfl rfl ?_
  refine ev_invV 5 (Mc := mX12_isCoder) ⟨lk1552, lk80, hdX12_isCoder, (Nat.le_of_ble_eq_true rfl), (Nat.le_of_ble_eq_true rfl)⟩ lk1549 lk1551 lk40 mm_cl12 rfl dX12_feed_2 (ct_X12_isCoder_t hM hn h8 hk) rfl (hM.1 0 _ rfl) (Nat.le_of_ble_eq_true rfl) rfl rfl ?_
  refine ev_if_eqN 8 18 dX12_feed_5 (by decide) (by omega) rfl (fun hx => absurd hx ((by omega))) (fun hbr => ?_)
  refine ev_iload_n 9 dX12_feed_8 rfl rfl ?_
  refine ev_iconstN 10 0 dX12_feed_9 rfl ?_
  refine ev_ldc 12 dX12_feed_10 lk1574 rfl ?_
  refine ev_eqI (y := nI 65535) (by decide +kernel) ?_
  refine ev_invS 15 (Mc := mX12_in) ⟨lk1536, lk80, hdX12_in, (Nat.le_of_ble_eq_true rfl), (Nat.le_of_ble_eq_true rfl)⟩ lk1534 lk1535 dX12_feed_12 (ct_X12_in_f hv) rfl (Nat.le_of_ble_eq_true rfl) rfl rfl ?_
  refine ev_if_neN 18 24 dX12_feed_15 (by decide) (by omega) rfl (fun hx => absurd ((by omega)) hx) (fun hbr => ?_)
  refine ev_aload_n 19 dX12_feed_18 rfl rfl ?_
  refine ev_iconst 20 (v := -1) dX12_feed_19 (by decide +kernel) rfl ?_
  refine ev_invV 23 (Mc := mX12_refused) ⟨lk1540, lk80, hdX12_refused, (Nat.le_of_ble_eq_true rfl), (Nat.le_of_ble_eq_true rfl)⟩ lk1537 lk1539 lk38 mm_cl12 rfl dX12_feed_20 (ct_X12_refused hM) rfl (hM.1 0 _ rfl) (Nat.le_of_ble_eq_true rfl) rfl rfl ?_
  exact ev_iret dX12_feed_23 rfl (rfl)
theorem ml_feed_u {v : Nat} (h : MA B I P m n k) (hv : v ≤ 65535) (hL : I (m + 28) k = nI 250) : Ct g mX12_feed [.ref m, .int (nI k), .int (nI v)] B I J P (some (.int (-3)), B, mo_st I m (-3), J, P) := by
  obtain ⟨hM, hn, h8, hk⟩ := h
  refine ct_of (lv := [some (.ref m), some (.int (nI (k))), some (.int (nI (v))), none, none]) (by decide +kernel) (Nat.le_of_ble_eq_true rfl) rfl ?_
  refine ev_aload_n 1 dX12_feed_0 rfl rfl ?_
  refine ev_iload_n 2 dX12_feed_1 rfl rfl ?_
  refine ev_invV 5 (Mc := mX12_isCoder) ⟨lk1552, lk80, hdX12_isCoder, (Nat.le_of_ble_eq_true rfl), (Nat.le_of_ble_eq_true rfl)⟩ lk1549 lk1551 lk40 mm_cl12 rfl dX12_feed_2 (ct_X12_isCoder_t hM hn h8 hk) rfl (hM.1 0 _ rfl) (Nat.le_of_ble_eq_true rfl) rfl rfl ?_
  refine ev_if_eqN 8 18 dX12_feed_5 (by decide) (by omega) rfl (fun hx => absurd hx ((by omega))) (fun hbr => ?_)
  refine ev_iload_n 9 dX12_feed_8 rfl rfl ?_
  refine ev_iconstN 10 0 dX12_feed_9 rfl ?_
  refine ev_ldc 12 dX12_feed_10 lk1574 rfl ?_
  refine ev_eqI (y := nI 65535) (by decide +kernel) ?_
  refine ev_invS 15 (Mc := mX12_in) ⟨lk1536, lk80, hdX12_in, (Nat.le_of_ble_eq_true rfl), (Nat.le_of_ble_eq_true rfl)⟩ lk1534 lk1535 dX12_feed_12 (ct_X12_in_t (in_t (by omega) hv (by omega))) rfl (Nat.le_of_ble_eq_true rfl) rfl rfl ?_
  refine ev_if_neN 18 24 dX12_feed_15 (by decide) (by omega) rfl (fun hbr => ?_) (fun hx => absurd hx ((by omega)))
  refine ev_aload_n 25 dX12_feed_24 rfl rfl ?_
  refine ev_getP 28 mm_cl12 (j := 33) (Nat.le_of_ble_eq_true rfl) dX12_feed_25 lk1318 (fun _ _ _ => rfl) (hM.1 0 _ rfl) (a := (m + 28)) (hM.2.2 27 _ _ _ rfl) rfl ?_
  refine ev_iload_n 29 dX12_feed_28 rfl rfl ?_
  refine ev_iald 30 _ dX12_feed_29 (hM.1 28 _ rfl) rfl (by have hNN := hM.2.1 28 _ rfl; omega) rfl ?_
  refine ev_eqI (y := nI (250)) (hL) ?_
  refine ev_sipushN 33 250 dX12_feed_30 (by decide +kernel) rfl ?_
  refine ev_icmp_neN 36 43 dX12_feed_33 (by decide) (by omega) (by omega) rfl (fun hx => absurd ((by omega)) hx) (fun hbr => ?_)
  refine ev_aload_n 37 dX12_feed_36 rfl rfl ?_
  refine ev_bipush 39 (v := -3) dX12_feed_37 (by decide +kernel) rfl ?_
  refine ev_invV 42 (Mc := mX12_refused) ⟨lk1540, lk80, hdX12_refused, (Nat.le_of_ble_eq_true rfl), (Nat.le_of_ble_eq_true rfl)⟩ lk1537 lk1539 lk38 mm_cl12 rfl dX12_feed_39 (ct_X12_refused hM) rfl (hM.1 0 _ rfl) (Nat.le_of_ble_eq_true rfl) rfl rfl ?_
  exact ev_iret dX12_feed_42 rfl (rfl)
theorem lx_mfeed {v t R : Nat} {I0 : mm_TI} {F : Nat → Int32} {Z : mm_Z} (hM : lyM B P m) (h43 : R < 4300) (ht6 : t ≤ 64) (ht : I0 m 7 = nI t) (hF : ∀ q, q < t → I0 (m + 3) q = F q)
    (K : Ev g mX12_feed 90 [some (.ref m), some (.int (nI k)), some (.int (nI v)), some (.int (nI R)), none] [] B (va_up I0 (m + 33) (sgp (I0 (m + 33)) (64 * R) t F)) J P Z) : ∀ (d j : Nat), j + d = t →
    Ev g mX12_feed 56 [some (.ref m), some (.int (nI k)), some (.int (nI v)), some (.int (nI R)), some (.int (nI j))] [] B (va_up I0 (m + 33) (sgp (I0 (m + 33)) (64 * R) j F)) J P Z := by
  intro d
  induction d with
  | zero =>
    intro j hj
    obtain rfl : j = t := by omega
    refine ev_iload 58 dX12_feed_56 rfl rfl ?_
    refine ev_aload_n 59 dX12_feed_58 rfl rfl ?_
    refine ev_getI 62 mm_cl12 (j := 7) (Nat.le_of_ble_eq_true rfl) dX12_feed_59 lk1292 (fun _ _ _ => rfl) (hM.1 0 _ rfl) rfl ?_
    refine ev_eqI (y := nI (j)) ((by rw [va_up_n _ _ (by omega)]; exact ht)) ?_
    refine ev_icmp_geN 65 90 dX12_feed_62 (by decide) (by omega) (by omega) rfl (fun hbr => ?_) (fun hx => absurd ((by omega)) hx)
    refine ev_le (mle_s (mle_s (mle_s (mle_s (mle_n (mle_0)))))) ?_
    exact K
  | succ d ih =>
    intro j hj
    have e := ih (j + 1) (by omega)
    refine ev_iload 58 dX12_feed_56 rfl rfl ?_
    refine ev_aload_n 59 dX12_feed_58 rfl rfl ?_
    refine ev_getI 62 mm_cl12 (j := 7) (Nat.le_of_ble_eq_true rfl) dX12_feed_59 lk1292 (fun _ _ _ => rfl) (hM.1 0 _ rfl) rfl ?_
    refine ev_eqI (y := nI (t)) ((by rw [va_up_n _ _ (by omega)]; exact ht)) ?_
    refine ev_icmp_geN 65 90 dX12_feed_62 (by decide) (by omega) (by omega) rfl (fun hx => absurd hx ((by omega))) (fun hbr => ?_)
    refine ev_aload_n 66 dX12_feed_65 rfl rfl ?_
    refine ev_getP 69 mm_cl12 (j := 39) (Nat.le_of_ble_eq_true rfl) dX12_feed_66 lk1324 (fun _ _ _ => rfl) (hM.1 0 _ rfl) (a := (m + 33)) (hM.2.2 32 _ _ _ rfl) rfl ?_
    refine ev_bipushN 71 64 dX12_feed_69 (by decide +kernel) rfl ?_
    refine ev_iload_n 72 dX12_feed_71 rfl rfl ?_
    refine ev_imulN 73 dX12_feed_72 rfl ?_
    refine ev_iload 75 dX12_feed_73 rfl rfl ?_
    refine ev_iaddN 76 dX12_feed_75 rfl ?_
    refine ev_aload_n 77 dX12_feed_76 rfl rfl ?_
    refine ev_getP 80 mm_cl12 (j := 6) (Nat.le_of_ble_eq_true rfl) dX12_feed_77 lk1291 (fun _ _ _ => rfl) (hM.1 0 _ rfl) (a := (m + 3)) (hM.2.2 2 _ _ _ rfl) rfl ?_
    refine ev_iload 82 dX12_feed_80 rfl rfl ?_
    refine ev_iald 83 _ dX12_feed_82 (hM.1 3 _ rfl) rfl (by have hNN := hM.2.1 3 _ rfl; omega) rfl ?_
    refine ev_eqI (y := ((F j))) ((by rw [va_up_n _ _ (by omega)]; exact hF j (by omega))) ?_
    refine ev_iast 84 _ dX12_feed_83 (hM.1 33 _ rfl) rfl (by have hNN := hM.2.1 33 _ rfl; omega) rfl ?_
    rw [va_up_s, bx_uu, sgp_grow rfl]
    refine ev_iincN 87 (lv' := [_, _, _, some (.int _), _]) 1 dX12_feed_84 rfl (Nat.le_of_ble_eq_true rfl) rfl rfl ?_
    refine ev_goto 56 dX12_feed_87 (by decide) ?_
    exact e
theorem cx_mfeed {v t R : Nat} (h : MA B I P m n k) (hv : v ≤ 65535) (hL : I (m + 28) k = nI L) (hl : L < 250) (ht : I m 7 = nI t) (ht6 : t ≤ 64) (hR : I m 36 = nI R) (h43 : R < 4300) :
    ∃ I2 : mm_TI, I2 (m + 31) = va_up (I (m + 31)) R (nI t) ∧ I2 (m + 32) = va_up (I (m + 32)) R (nI 0) ∧ I2 (m + 33) = sgp (I (m + 33)) (64 * R) t (I (m + 3)) ∧ I2 (m + 29) = va_up (I (m + 29)) (250 * k + L) (nI v) ∧ I2 (m + 30) = va_up (I (m + 30)) (250 * k + L) (nI (R + 1)) ∧ I2 (m + 28) = va_up (I (m + 28)) k (nI (L + 1)) ∧ I2 m = va_up (va_up (va_up (I m) 36 (nI (R + 1))) 7 (nI 0)) 1 (nI 0) ∧ (∀ p, p ≠ m → p < m + 28 ∨ m + 33 < p → I2 p = I p) ∧
      Ct g mX12_feed [.ref m, .int (nI k), .int (nI v)] B I J P (some (.int (nI (L + 1))), B, I2, J, P) := by
  obtain ⟨hM, hn, h8, hk⟩ := h
  generalize hI0 : va_up (va_up (va_up I (m + 31) (va_up (I (m + 31)) R (nI t))) (m + 32) (va_up (I (m + 32)) R (nI 0))) m (va_up (I m) 36 (nI (R + 1))) = I0
  have nr := ct_X12_newRow (g := g) (J := J) (n := t) (s := 0) hM hR h43 (by omega)
  rw [hI0] at nr
  have f31 : I0 (m + 31) = va_up (I (m + 31)) R (nI t) := by rw [← hI0, va_up_n _ _ (by omega), va_up_n _ _ (by omega), va_up_s]
  have f32 : I0 (m + 32) = va_up (I (m + 32)) R (nI 0) := by rw [← hI0, va_up_n _ _ (by omega), va_up_s]
  have fm : I0 m = va_up (I m) 36 (nI (R + 1)) := by rw [← hI0, va_up_s]
  have fo : ∀ p, p ≠ m → p ≠ m + 31 → p ≠ m + 32 → I0 p = I p := fun p p1 p2 p3 => by rw [← hI0, va_up_n _ _ p1, va_up_n _ _ p3, va_up_n _ _ p2]
  generalize hIa : va_up (va_up I0 (m + 33) (sgp (I0 (m + 33)) (64 * R) t (I (m + 3)))) m (va_up (I0 m) 7 (nI 0)) = Ia
  have ga : ∀ p, p ≠ m → p ≠ m + 33 → Ia p = I0 p := fun p p1 p2 => by rw [← hIa, va_up_n _ _ p1, va_up_n _ _ p2]
  have ga33 : Ia (m + 33) = sgp (I (m + 33)) (64 * R) t (I (m + 3)) := by rw [← hIa, va_up_n _ _ (by omega), va_up_s, fo _ (by omega) (by omega) (by omega)]
  have gam : Ia m = va_up (va_up (I m) 36 (nI (R + 1))) 7 (nI 0) := by rw [← hIa, va_up_s, fm]
  have g28 : Ia (m + 28) = I (m + 28) := by rw [ga _ (by omega) (by omega), fo _ (by omega) (by omega) (by omega)]
  have ap := ct_X12_append (g := g) (J := J) (I := Ia) (v := nI v) (rw := nI R) hM (show k < 8 by omega) (by rw [g28]; exact hL) hl
  rw [nI_add, g28, ga (m + 29) (by omega) (by omega), fo (m + 29) (by omega) (by omega) (by omega), ga (m + 30) (by omega) (by omega), fo (m + 30) (by omega) (by omega) (by omega)] at ap
  generalize hIb : va_up (va_up (va_up Ia (m + 29) (va_up (I (m + 29)) (250 * k + L) (nI v))) (m + 30) (va_up (I (m + 30)) (250 * k + L) (nI (R + 1)))) (m + 28) (va_up (I (m + 28)) k (nI (L + 1))) = Ib at ap
  have gb : ∀ p, p < m + 28 ∨ m + 30 < p → Ib p = Ia p := fun p hp => by rw [← hIb, va_up_n _ _ (by omega), va_up_n _ _ (by omega), va_up_n _ _ (by omega)]
  have b28 : Ib (m + 28) = va_up (I (m + 28)) k (nI (L + 1)) := by rw [← hIb, va_up_s]
  have e := fun (Z : mm_Z) K => lx_mfeed (g := g) (J := J) (k := k) (v := v) (I0 := I0) (F := I (m + 3)) (Z := Z) hM h43 ht6 (by rw [fm, va_up_n _ _ (by omega)]; exact ht) (fun q _ => by rw [fo _ (by omega) (by omega) (by omega)]) K t 0 (by omega)
  rw [sgp_0, va_up_id] at e
  refine ⟨mo_st Ib m (nI 0), ?_, ?_, ?_, ?_, ?_, ?_, ?_, fun p p1 p2 => ?_, ?_⟩
  · exact (va_up_n _ _ (by omega)).trans ((gb _ (by omega)).trans ((ga _ (by omega) (by omega)).trans f31))
  · exact (va_up_n _ _ (by omega)).trans ((gb _ (by omega)).trans ((ga _ (by omega) (by omega)).trans f32))
  · exact (va_up_n _ _ (by omega)).trans ((gb _ (by omega)).trans ga33)
  · refine (va_up_n _ _ (by omega)).trans ?_
    rw [← hIb, va_up_n _ _ (by omega), va_up_n _ _ (by omega), va_up_s]
  · refine (va_up_n _ _ (by omega)).trans ?_
    rw [← hIb, va_up_n _ _ (by omega), va_up_s]
  · exact (va_up_n _ _ (by omega)).trans b28
  · refine (va_up_s _ _ _).trans ?_
    rw [gb m (by omega), gam]
  · exact (va_up_n _ _ p1).trans ((gb _ (by omega)).trans ((ga _ p1 (by omega)).trans (fo p p1 (by omega) (by omega))))
  · refine ct_of (lv := [some (.ref m), some (.int (nI k)), some (.int (nI v)), none, none]) (by decide +kernel) (Nat.le_of_ble_eq_true rfl) rfl ?_
    refine ev_aload_n 1 dX12_feed_0 rfl rfl ?_
    refine ev_iload_n 2 dX12_feed_1 rfl rfl ?_
    refine ev_invV 5 (Mc := mX12_isCoder) ⟨lk1552, lk80, hdX12_isCoder, (Nat.le_of_ble_eq_true rfl), (Nat.le_of_ble_eq_true rfl)⟩ lk1549 lk1551 lk40 mm_cl12 rfl dX12_feed_2 (ct_X12_isCoder_t hM hn h8 hk) rfl (hM.1 0 _ rfl) (Nat.le_of_ble_eq_true rfl) rfl rfl ?_
    refine ev_if_eqN 8 18 dX12_feed_5 (by decide) (by omega) rfl (fun hx => absurd hx ((by omega))) (fun hbr => ?_)
    refine ev_iload_n 9 dX12_feed_8 rfl rfl ?_
    refine ev_iconstN 10 0 dX12_feed_9 rfl ?_
    refine ev_ldc 12 dX12_feed_10 lk1574 rfl ?_
    refine ev_eqI (y := nI 65535) (by decide +kernel) ?_
    refine ev_invS 15 (Mc := mX12_in) ⟨lk1536, lk80, hdX12_in, (Nat.le_of_ble_eq_true rfl), (Nat.le_of_ble_eq_true rfl)⟩ lk1534 lk1535 dX12_feed_12 (ct_X12_in_t (in_t (by omega) hv (by omega))) rfl (Nat.le_of_ble_eq_true rfl) rfl rfl ?_
    refine ev_if_neN 18 24 dX12_feed_15 (by decide) (by omega) rfl (fun hbr => ?_) (fun hx => absurd hx ((by omega)))
    refine ev_aload_n 25 dX12_feed_24 rfl rfl ?_
    refine ev_getP 28 mm_cl12 (j := 33) (Nat.le_of_ble_eq_true rfl) dX12_feed_25 lk1318 (fun _ _ _ => rfl) (hM.1 0 _ rfl) (a := (m + 28)) (hM.2.2 27 _ _ _ rfl) rfl ?_
    refine ev_iload_n 29 dX12_feed_28 rfl rfl ?_
    refine ev_iald 30 _ dX12_feed_29 (hM.1 28 _ rfl) rfl (by have hNN := hM.2.1 28 _ rfl; omega) rfl ?_
    refine ev_eqI (y := nI (L)) (hL) ?_
    refine ev_sipushN 33 250 dX12_feed_30 (by decide +kernel) rfl ?_
    refine ev_icmp_neN 36 43 dX12_feed_33 (by decide) (by omega) (by omega) rfl (fun hbr => ?_) (fun hx => absurd hx ((by omega)))
    refine ev_aload_n 44 dX12_feed_43 rfl rfl ?_
    refine ev_aload_n 45 dX12_feed_44 rfl rfl ?_
    refine ev_getI 48 mm_cl12 (j := 7) (Nat.le_of_ble_eq_true rfl) dX12_feed_45 lk1292 (fun _ _ _ => rfl) (hM.1 0 _ rfl) rfl ?_
    refine ev_eqI (y := nI (t)) (ht) ?_
    refine ev_iconstN 49 0 dX12_feed_48 rfl ?_
    refine ev_invV 52 (Mc := mX12_newRow) ⟨lk1614, lk80, hdX12_newRow, (Nat.le_of_ble_eq_true rfl), (Nat.le_of_ble_eq_true rfl)⟩ lk1611 lk1613 lk43 mm_cl12 rfl dX12_feed_49 (nr) rfl (hM.1 0 _ rfl) (Nat.le_of_ble_eq_true rfl) rfl rfl ?_
    refine ev_istore_n 53 (lv' := [_, _, some (.int _), _, _]) dX12_feed_52 (Nat.le_of_ble_eq_true rfl) rfl rfl ?_
    refine ev_iconstN 54 0 dX12_feed_53 rfl ?_
    refine ev_istore 56 (lv' := [_, _, _, some (.int _), _]) dX12_feed_54 (Nat.le_of_ble_eq_true rfl) rfl rfl ?_
    refine e _ ?_
    refine ev_aload_n 91 dX12_feed_90 rfl rfl ?_
    refine ev_iconstN 92 0 dX12_feed_91 rfl ?_
    refine ev_putI 95 mm_cl12 (j := 7) (Nat.le_of_ble_eq_true rfl) dX12_feed_92 lk1292 rfl (fun _ _ _ => rfl) rfl rfl (hM.1 0 _ rfl) rfl ?_
    rw [va_up_n _ _ (show m ≠ m + 33 by omega), hIa]
    refine ev_aload_n 96 dX12_feed_95 rfl rfl ?_
    refine ev_iload_n 97 dX12_feed_96 rfl rfl ?_
    refine ev_iload_n 98 dX12_feed_97 rfl rfl ?_
    refine ev_iload_n 99 dX12_feed_98 rfl rfl ?_
    refine ev_invVv 102 (Mc := mX12_append) ⟨lk1702, lk80, hdX12_append, (Nat.le_of_ble_eq_true rfl), (Nat.le_of_ble_eq_true rfl)⟩ lk1699 lk1701 lk60 mm_cl12 rfl dX12_feed_99 (ap) rfl (hM.1 0 _ rfl) (Nat.le_of_ble_eq_true rfl) rfl rfl ?_
    refine ev_aload_n 103 dX12_feed_102 rfl rfl ?_
    refine ev_aload_n 104 dX12_feed_103 rfl rfl ?_
    refine ev_getP 107 mm_cl12 (j := 33) (Nat.le_of_ble_eq_true rfl) dX12_feed_104 lk1318 (fun _ _ _ => rfl) (hM.1 0 _ rfl) (a := (m + 28)) (hM.2.2 27 _ _ _ rfl) rfl ?_
    refine ev_iload_n 108 dX12_feed_107 rfl rfl ?_
    refine ev_iald 109 _ dX12_feed_108 (hM.1 28 _ rfl) rfl (by have hNN := hM.2.1 28 _ rfl; omega) rfl ?_
    refine ev_eqI (y := nI ((L+1))) ((by rw [b28, va_up_s])) ?_
    refine ev_invV 112 (Mc := mX12_done) ⟨lk1544, lk80, hdX12_done, (Nat.le_of_ble_eq_true rfl), (Nat.le_of_ble_eq_true rfl)⟩ lk1541 lk1543 lk39 mm_cl12 rfl dX12_feed_109 (ct_X12_done hM) rfl (hM.1 0 _ rfl) (Nat.le_of_ble_eq_true rfl) rfl rfl ?_
    exact ev_iret dX12_feed_112 rfl (rfl)
end AP0
