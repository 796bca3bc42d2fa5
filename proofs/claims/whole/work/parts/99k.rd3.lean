/-! READERS, more: pick, state, digest, count -/
/-- a digest, from place i on over r numbers -/
def dgR (f : Nat → Int32) : Nat → Nat → Int32 → Int32
  | _, 0, d => d
  | i, r + 1, d => dgR f (i + 1) r (nI 31 * d + f i)
theorem dgR_cg {f h : Nat → Int32} : ∀ (r i : Nat) (d : Int32), (∀ j, i ≤ j → j < i + r → f j = h j) → dgR f i r d = dgR h i r d := by
  intro r
  induction r with
  | zero => intro i d _; rfl
  | succ r ih => intro i d e; show dgR f (i + 1) r _ = dgR h (i + 1) r _; rw [e i (by omega) (by omega)]; exact ih _ _ (fun j j1 j2 => e j (by omega) (by omega))
section RF0
variable {g : mm_G} {B : mm_B} {I : mm_TI} {J : mm_TJ} {P : mm_TP} {x m o b n k : Nat}
theorem ct_choice {p w : Nat} {v : Int32} (tp : mm_T B p = 107) (hw : w ≤ 6) (hv : I p w = v) : Ct g mX7_choice [.ref p, .int (nI w)] B I J P (some (.int v), B, I, J, P) := by
  have : w = 0 ∨ w = 1 ∨ w = 2 ∨ w = 3 ∨ w = 4 ∨ w = 5 ∨ w = 6 := by omega
  rcases this with rfl | rfl | rfl | rfl | rfl | rfl | rfl
  · refine ct_of (lv := [some (.ref p), some (.int (nI (0)))]) (by decide +kernel) (Nat.le_of_ble_eq_true rfl) rfl ?_
    refine ev_iload_n 1 dX7_choice_0 rfl rfl ?_
    refine ev_tableIn 40 dX7_choice_1 (by decide) (by decide) rfl (by decide) ?_
    refine ev_aload_n 41 dX7_choice_40 rfl rfl ?_
    refine ev_getI 44 mm_cl7 (j := 0) (Nat.le_of_ble_eq_true rfl) dX7_choice_41 lk198 (fun _ _ _ => rfl) tp rfl ?_
    refine ev_eqI (y := (v)) (hv) ?_
    exact ev_iret dX7_choice_44 rfl (rfl)
  · refine ct_of (lv := [some (.ref p), some (.int (nI (1)))]) (by decide +kernel) (Nat.le_of_ble_eq_true rfl) rfl ?_
    refine ev_iload_n 1 dX7_choice_0 rfl rfl ?_
    refine ev_tableIn 45 dX7_choice_1 (by decide) (by decide) rfl (by decide) ?_
    refine ev_aload_n 46 dX7_choice_45 rfl rfl ?_
    refine ev_getI 49 mm_cl7 (j := 1) (Nat.le_of_ble_eq_true rfl) dX7_choice_46 lk204 (fun _ _ _ => rfl) tp rfl ?_
    refine ev_eqI (y := (v)) (hv) ?_
    exact ev_iret dX7_choice_49 rfl (rfl)
  · refine ct_of (lv := [some (.ref p), some (.int (nI (2)))]) (by decide +kernel) (Nat.le_of_ble_eq_true rfl) rfl ?_
    refine ev_iload_n 1 dX7_choice_0 rfl rfl ?_
    refine ev_tableIn 50 dX7_choice_1 (by decide) (by decide) rfl (by decide) ?_
    refine ev_aload_n 51 dX7_choice_50 rfl rfl ?_
    refine ev_getI 54 mm_cl7 (j := 2) (Nat.le_of_ble_eq_true rfl) dX7_choice_51 lk207 (fun _ _ _ => rfl) tp rfl ?_
    refine ev_eqI (y := (v)) (hv) ?_
    exact ev_iret dX7_choice_54 rfl (rfl)
  · refine ct_of (lv := [some (.ref p), some (.int (nI (3)))]) (by decide +kernel) (Nat.le_of_ble_eq_true rfl) rfl ?_
    refine ev_iload_n 1 dX7_choice_0 rfl rfl ?_
    refine ev_tableIn 55 dX7_choice_1 (by decide) (by decide) rfl (by decide) ?_
    refine ev_aload_n 56 dX7_choice_55 rfl rfl ?_
    refine ev_getI 59 mm_cl7 (j := 3) (Nat.le_of_ble_eq_true rfl) dX7_choice_56 lk209 (fun _ _ _ => rfl) tp rfl ?_
    refine ev_eqI (y := (v)) (hv) ?_
    exact ev_iret dX7_choice_59 rfl (rfl)
  · refine ct_of (lv := [some (.ref p), some (.int (nI (4)))]) (by decide +kernel) (Nat.le_of_ble_eq_true rfl) rfl ?_
    refine ev_iload_n 1 dX7_choice_0 rfl rfl ?_
    refine ev_tableIn 60 dX7_choice_1 (by decide) (by decide) rfl (by decide) ?_
    refine ev_aload_n 61 dX7_choice_60 rfl rfl ?_
    refine ev_getI 64 mm_cl7 (j := 4) (Nat.le_of_ble_eq_true rfl) dX7_choice_61 lk211 (fun _ _ _ => rfl) tp rfl ?_
    refine ev_eqI (y := (v)) (hv) ?_
    exact ev_iret dX7_choice_64 rfl (rfl)
  · refine ct_of (lv := [some (.ref p), some (.int (nI (5)))]) (by decide +kernel) (Nat.le_of_ble_eq_true rfl) rfl ?_
    refine ev_iload_n 1 dX7_choice_0 rfl rfl ?_
    refine ev_tableIn 65 dX7_choice_1 (by decide) (by decide) rfl (by decide) ?_
    refine ev_aload_n 66 dX7_choice_65 rfl rfl ?_
    refine ev_getI 69 mm_cl7 (j := 5) (Nat.le_of_ble_eq_true rfl) dX7_choice_66 lk213 (fun _ _ _ => rfl) tp rfl ?_
    refine ev_eqI (y := (v)) (hv) ?_
    exact ev_iret dX7_choice_69 rfl (rfl)
  · refine ct_of (lv := [some (.ref p), some (.int (nI (6)))]) (by decide +kernel) (Nat.le_of_ble_eq_true rfl) rfl ?_
    refine ev_iload_n 1 dX7_choice_0 rfl rfl ?_
    refine ev_tableOut 70 dX7_choice_1 (by decide) (by decide) ?_
    refine ev_aload_n 71 dX7_choice_70 rfl rfl ?_
    refine ev_getI 74 mm_cl7 (j := 6) (Nat.le_of_ble_eq_true rfl) dX7_choice_71 lk216 (fun _ _ _ => rfl) tp rfl ?_
    refine ev_eqI (y := (v)) (hv) ?_
    exact ev_iret dX7_choice_74 rfl (rfl)
theorem isPart_T {a : Int32} (h : nI 0 ≤ a ∧ a ≤ nI 3) : Ct g mX11_isPart [.int a] B I J P (some (.int (nI 1)), B, I, J, P) := by
  rcases in_cases (lo := 0) (hi := 3) (by omega) (by omega) a with ⟨i, h1, h2, rfl⟩ | hc
  · exact ct_isPart_t h2
  · exact absurd h hc
theorem lx_pick {c part what : Int32} {b : Nat} {Z : mm_Z} (hV : lyV B P x) (hb : (b = 1 ∧ (nI 0 ≤ part ∧ part ≤ nI 3) ∧ nI 0 ≤ what ∧ what ≤ nI 6) ∨ (b = 0 ∧ ¬ ((nI 0 ≤ part ∧ part ≤ nI 3) ∧ nI 0 ≤ what ∧ what ≤ nI 6)))
    (K : Ev g mX11_pick 25 [some (.ref x), some (.int c), some (.int part), some (.int what)] [.int (nI b), .int c, .ref x, .ref x] B I J P Z) : Ct g mX11_pick [.ref x, .int c, .int part, .int what] B I J P Z := by
  by_cases h1 : nI 0 ≤ part ∧ part ≤ nI 3
  · by_cases h2 : nI 0 ≤ what ∧ what ≤ nI 6
    · obtain rfl : b = 1 := by
        rcases hb with h | h
        · exact h.1
        · exact absurd ⟨h1, h2⟩ h.2
      refine ct_of (lv := [some (.ref x), some (.int c), some (.int part), some (.int what)]) (by decide +kernel) (Nat.le_of_ble_eq_true rfl) rfl ?_
      refine ev_aload_n 1 dX11_pick_0 rfl rfl ?_
      refine ev_aload_n 2 dX11_pick_1 rfl rfl ?_
      refine ev_iload_n 3 dX11_pick_2 rfl rfl ?_
      refine ev_iload_n 4 dX11_pick_3 rfl rfl ?_
      refine ev_invS 7 (Mc := mX11_isPart) ⟨lk885, lk75, hdX11_isPart, (Nat.le_of_ble_eq_true rfl), (Nat.le_of_ble_eq_true rfl)⟩ lk883 lk884 dX11_pick_4 (isPart_T h1) rfl (Nat.le_of_ble_eq_true rfl) rfl rfl ?_
      refine ev_if_eqN 10 24 dX11_pick_7 (by decide) (by omega) rfl (fun hx => absurd hx ((by omega))) (fun hbr => ?_)
      refine ev_iload_n 11 dX11_pick_10 rfl rfl ?_
      refine ev_if_lt 14 24 dX11_pick_11 (by decide) rfl (fun hx => absurd hx ((Int32.not_lt.mpr h2.1))) (fun hbr => ?_)
      refine ev_iload_n 15 dX11_pick_14 rfl rfl ?_
      refine ev_bipushN 17 6 dX11_pick_15 (by decide +kernel) rfl ?_
      refine ev_icmp_gt 20 24 dX11_pick_17 (by decide) rfl (fun hx => absurd hx ((Int32.not_lt.mpr h2.2))) (fun hbr => ?_)
      refine ev_iconstN 21 1 dX11_pick_20 rfl ?_
      refine ev_goto 25 dX11_pick_21 (by decide) ?_
      exact K
    · obtain rfl : b = 0 := by
        rcases hb with h | h
        · exact absurd h.2.2 h2
        · exact h.1
      refine ct_of (lv := [some (.ref x), some (.int c), some (.int part), some (.int what)]) (by decide +kernel) (Nat.le_of_ble_eq_true rfl) rfl ?_
      refine ev_aload_n 1 dX11_pick_0 rfl rfl ?_
      refine ev_aload_n 2 dX11_pick_1 rfl rfl ?_
      refine ev_iload_n 3 dX11_pick_2 rfl rfl ?_
      refine ev_iload_n 4 dX11_pick_3 rfl rfl ?_
      refine ev_invS 7 (Mc := mX11_isPart) ⟨lk885, lk75, hdX11_isPart, (Nat.le_of_ble_eq_true rfl), (Nat.le_of_ble_eq_true rfl)⟩ lk883 lk884 dX11_pick_4 (isPart_T h1) rfl (Nat.le_of_ble_eq_true rfl) rfl rfl ?_
      refine ev_if_eqN 10 24 dX11_pick_7 (by decide) (by omega) rfl (fun hx => absurd hx ((by omega))) (fun hbr => ?_)
      refine ev_iload_n 11 dX11_pick_10 rfl rfl ?_
      refine ev_if_lt 14 24 dX11_pick_11 (by decide) rfl (fun h3 => ?_) (fun h3 => ?_)
      · refine ev_iconstN 25 0 dX11_pick_24 rfl ?_
        exact K
      · refine ev_iload_n 15 dX11_pick_14 rfl rfl ?_
        refine ev_bipushN 17 6 dX11_pick_15 (by decide +kernel) rfl ?_
        refine ev_icmp_gt 20 24 dX11_pick_17 (by decide) rfl (fun hbr => ?_) (fun hx => absurd ((Int32.not_le.mp (fun h4 => h2 ⟨Int32.not_lt.mp h3, h4⟩))) hx)
        refine ev_iconstN 25 0 dX11_pick_24 rfl ?_
        exact K
  · obtain rfl : b = 0 := by
      rcases hb with h | h
      · exact absurd h.2.1 h1
      · exact h.1
    refine ct_of (lv := [some (.ref x), some (.int c), some (.int part), some (.int what)]) (by decide +kernel) (Nat.le_of_ble_eq_true rfl) rfl ?_
    refine ev_aload_n 1 dX11_pick_0 rfl rfl ?_
    refine ev_aload_n 2 dX11_pick_1 rfl rfl ?_
    refine ev_iload_n 3 dX11_pick_2 rfl rfl ?_
    refine ev_iload_n 4 dX11_pick_3 rfl rfl ?_
    refine ev_invS 7 (Mc := mX11_isPart) ⟨lk885, lk75, hdX11_isPart, (Nat.le_of_ble_eq_true rfl), (Nat.le_of_ble_eq_true rfl)⟩ lk883 lk884 dX11_pick_4 (ct_isPart_f h1) rfl (Nat.le_of_ble_eq_true rfl) rfl rfl ?_
    refine ev_if_eqN 10 24 dX11_pick_7 (by decide) (by omega) rfl (fun hbr => ?_) (fun hx => absurd ((by omega)) hx)
    refine ev_iconstN 25 0 dX11_pick_24 rfl ?_
    exact K
theorem cl_pick_f {c p w : Int32} (hV : lyV B P x) (hx : I x 4 = nI n) (hc : ¬ (0 ≤ c ∧ c < nI n)) : Ct g mX11_pick [.ref x, .int c, .int p, .int w] B I J P (some (.int (-1)), B, vst I x (-1), J, P) := by
  have key : ∃ b : Nat, (b = 1 ∧ (nI 0 ≤ p ∧ p ≤ nI 3) ∧ nI 0 ≤ w ∧ w ≤ nI 6) ∨ (b = 0 ∧ ¬ ((nI 0 ≤ p ∧ p ≤ nI 3) ∧ nI 0 ≤ w ∧ w ≤ nI 6)) := by
    by_cases h : (nI 0 ≤ p ∧ p ≤ nI 3) ∧ nI 0 ≤ w ∧ w ≤ nI 6
    · exact ⟨1, Or.inl ⟨rfl, h⟩⟩
    · exact ⟨0, Or.inr ⟨rfl, h⟩⟩
  obtain ⟨b, hb⟩ := key
  refine lx_pick hV hb ?_
  refine ev_invV 28 (Mc := mX11_pickRefusal) ⟨lk889, lk75, hdX11_pickRefusal, (Nat.le_of_ble_eq_true rfl), (Nat.le_of_ble_eq_true rfl)⟩ lk886 lk888 lk22 mm_cl11 rfl dX11_pick_25 (ct_pickRefusal_f hV hx hc) rfl (hV.1 0 _ rfl) (Nat.le_of_ble_eq_true rfl) rfl rfl ?_
  refine ev_putI 31 mm_cl11 (j := 9) (Nat.le_of_ble_eq_true rfl) dX11_pick_28 lk270 rfl (fun _ _ _ => rfl) rfl rfl (hV.1 0 _ rfl) rfl ?_
  refine ev_aload_n 32 dX11_pick_31 rfl rfl ?_
  refine ev_getI 35 mm_cl11 (j := 9) (Nat.le_of_ble_eq_true rfl) dX11_pick_32 lk270 (fun _ _ _ => rfl) (hV.1 0 _ rfl) rfl ?_
  refine ev_eqI (y := (-1)) ((by rw [va_up_s, va_up_s])) ?_
  refine ev_if_eq 38 45 dX11_pick_35 (by decide) rfl (fun hx => absurd hx ((by decide))) (fun hbr => ?_)
  refine ev_aload_n 39 dX11_pick_38 rfl rfl ?_
  refine ev_getI 42 mm_cl11 (j := 9) (Nat.le_of_ble_eq_true rfl) dX11_pick_39 lk270 (fun _ _ _ => rfl) (hV.1 0 _ rfl) rfl ?_
  refine ev_eqI (y := (-1)) ((by rw [va_up_s, va_up_s])) ?_
  refine ev_goto 63 dX11_pick_42 (by decide) ?_
  exact ev_iret dX11_pick_63 rfl (rfl)
theorem cl_pick_b {p w : Int32} (h : CA B I P x o n k) (hb : ¬ ((nI 0 ≤ p ∧ p ≤ nI 3) ∧ nI 0 ≤ w ∧ w ≤ nI 6)) : Ct g mX11_pick [.ref x, .int (nI k), .int p, .int w] B I J P (some (.int (-1)), B, vst I x (-1), J, P) := by
  have pr := ct_pickRefusal_b (g := g) (J := J) h
  obtain ⟨hV, hC, hxo, hx, h8, hk, hP⟩ := h
  refine lx_pick hV (Or.inr ⟨rfl, hb⟩) ?_
  refine ev_invV 28 (Mc := mX11_pickRefusal) ⟨lk889, lk75, hdX11_pickRefusal, (Nat.le_of_ble_eq_true rfl), (Nat.le_of_ble_eq_true rfl)⟩ lk886 lk888 lk22 mm_cl11 rfl dX11_pick_25 (pr) rfl (hV.1 0 _ rfl) (Nat.le_of_ble_eq_true rfl) rfl rfl ?_
  refine ev_putI 31 mm_cl11 (j := 9) (Nat.le_of_ble_eq_true rfl) dX11_pick_28 lk270 rfl (fun _ _ _ => rfl) rfl rfl (hV.1 0 _ rfl) rfl ?_
  refine ev_aload_n 32 dX11_pick_31 rfl rfl ?_
  refine ev_getI 35 mm_cl11 (j := 9) (Nat.le_of_ble_eq_true rfl) dX11_pick_32 lk270 (fun _ _ _ => rfl) (hV.1 0 _ rfl) rfl ?_
  refine ev_eqI (y := (-1)) ((by rw [va_up_s, va_up_s])) ?_
  refine ev_if_eq 38 45 dX11_pick_35 (by decide) rfl (fun hx => absurd hx ((by decide))) (fun hbr => ?_)
  refine ev_aload_n 39 dX11_pick_38 rfl rfl ?_
  refine ev_getI 42 mm_cl11 (j := 9) (Nat.le_of_ble_eq_true rfl) dX11_pick_39 lk270 (fun _ _ _ => rfl) (hV.1 0 _ rfl) rfl ?_
  refine ev_eqI (y := (-1)) ((by rw [va_up_s, va_up_s])) ?_
  refine ev_goto 63 dX11_pick_42 (by decide) ?_
  exact ev_iret dX11_pick_63 rfl (rfl)
theorem cl_pick_s {p w : Nat} (h : CA B I P x o n k) (hp : p ≤ 3) (hw : w ≤ 6) (r9 : I (o + 4) 9 = nI 0) : Ct g mX11_pick [.ref x, .int (nI k), .int (nI p), .int (nI w)] B I J P (some (.int (-2)), B, vst I x (-2), J, P) := by
  have pr := ct_pickRefusal_t (g := g) (J := J) (sp := 0) h (by omega) r9
  obtain ⟨hV, hC, hxo, hx, h8, hk, hP⟩ := h
  refine lx_pick hV (Or.inl ⟨rfl, in_t (by omega) hp (by omega), in_t (by omega) hw (by omega)⟩) ?_
  refine ev_invV 28 (Mc := mX11_pickRefusal) ⟨lk889, lk75, hdX11_pickRefusal, (Nat.le_of_ble_eq_true rfl), (Nat.le_of_ble_eq_true rfl)⟩ lk886 lk888 lk22 mm_cl11 rfl dX11_pick_25 (pr) rfl (hV.1 0 _ rfl) (Nat.le_of_ble_eq_true rfl) rfl rfl ?_
  refine ev_putI 31 mm_cl11 (j := 9) (Nat.le_of_ble_eq_true rfl) dX11_pick_28 lk270 rfl (fun _ _ _ => rfl) rfl rfl (hV.1 0 _ rfl) rfl ?_
  refine ev_aload_n 32 dX11_pick_31 rfl rfl ?_
  refine ev_getI 35 mm_cl11 (j := 9) (Nat.le_of_ble_eq_true rfl) dX11_pick_32 lk270 (fun _ _ _ => rfl) (hV.1 0 _ rfl) rfl ?_
  refine ev_eqI (y := (-2)) ((by rw [va_up_s, va_up_s, if_neg (by omega)])) ?_
  refine ev_if_eq 38 45 dX11_pick_35 (by decide) rfl (fun hx => absurd hx ((by decide))) (fun hbr => ?_)
  refine ev_aload_n 39 dX11_pick_38 rfl rfl ?_
  refine ev_getI 42 mm_cl11 (j := 9) (Nat.le_of_ble_eq_true rfl) dX11_pick_39 lk270 (fun _ _ _ => rfl) (hV.1 0 _ rfl) rfl ?_
  refine ev_eqI (y := (-2)) ((by rw [va_up_s, va_up_s, if_neg (by omega)])) ?_
  refine ev_goto 63 dX11_pick_42 (by decide) ?_
  exact ev_iret dX11_pick_63 rfl (rfl)
theorem lyC_pt {p : Nat} (hC : lyC B P x o) (hp : p ≤ 3) : mm_T B (o + 7 + p) = 107 := by
  have : p = 0 ∨ p = 1 ∨ p = 2 ∨ p = 3 := by omega
  rcases this with rfl | rfl | rfl | rfl
  · exact hC.1 7 _ rfl
  · exact hC.1 8 _ rfl
  · exact hC.1 9 _ rfl
  · exact hC.1 10 _ rfl
theorem cl_pick_t {p w : Nat} {v : Int32} (h : CA B I P x o n k) (hp : p ≤ 3) (hw : w ≤ 6) (r9 : I (o + 4) 9 = nI 1) (hPa : P (o + 6) p = some (o + 7 + p)) (hv : I (o + 7 + p) w = v) : Ct g mX11_pick [.ref x, .int (nI k), .int (nI p), .int (nI w)] B I J P (some (.int v), B, vst I x (nI 0), J, P) := by
  have pr := ct_pickRefusal_t (g := g) (J := J) (sp := 1) h (by omega) r9
  obtain ⟨hV, hC, hxo, hx, h8, hk, hP⟩ := h
  rw [if_pos rfl] at pr
  have tp := lyC_pt hC hp
  refine lx_pick hV (Or.inl ⟨rfl, in_t (by omega) hp (by omega), in_t (by omega) hw (by omega)⟩) ?_
  refine ev_invV 28 (Mc := mX11_pickRefusal) ⟨lk889, lk75, hdX11_pickRefusal, (Nat.le_of_ble_eq_true rfl), (Nat.le_of_ble_eq_true rfl)⟩ lk886 lk888 lk22 mm_cl11 rfl dX11_pick_25 (pr) rfl (hV.1 0 _ rfl) (Nat.le_of_ble_eq_true rfl) rfl rfl ?_
  refine ev_putI 31 mm_cl11 (j := 9) (Nat.le_of_ble_eq_true rfl) dX11_pick_28 lk270 rfl (fun _ _ _ => rfl) rfl rfl (hV.1 0 _ rfl) rfl ?_
  refine ev_aload_n 32 dX11_pick_31 rfl rfl ?_
  refine ev_getI 35 mm_cl11 (j := 9) (Nat.le_of_ble_eq_true rfl) dX11_pick_32 lk270 (fun _ _ _ => rfl) (hV.1 0 _ rfl) rfl ?_
  refine ev_eqI (y := nI (0)) ((by rw [va_up_s, va_up_s])) ?_
  refine ev_if_eqN 38 45 dX11_pick_35 (by decide) (by omega) rfl (fun hbr => ?_) (fun hx => absurd ((by omega)) hx)
  refine ev_aload_n 46 dX11_pick_45 rfl rfl ?_
  refine ev_getP 49 mm_cl11 (j := 3) (Nat.le_of_ble_eq_true rfl) dX11_pick_46 lk264 (fun _ _ _ => rfl) (hV.1 0 _ rfl) (a := (x + 19)) (hV.2.2 3 _ _ _ rfl) rfl ?_
  refine ev_iload_n 50 dX11_pick_49 rfl rfl ?_
  refine ev_aald 51 _ 0 dX11_pick_50 (hV.1 19 _ rfl) rfl (by have hNN := hV.2.1 19 _ rfl; omega) rfl ?_
  refine ev_eqR (a := o) (hP) ?_
  refine ev_getP 54 mm_cl0 (j := 3) (Nat.le_of_ble_eq_true rfl) dX11_pick_51 lk549 (fun _ _ _ => rfl) (hC.1 0 _ rfl) (a := (o + 4)) (hC.2.2.1 2 _ _ _ rfl) rfl ?_
  refine ev_getP 57 mm_cl2 (j := 5) (Nat.le_of_ble_eq_true rfl) dX11_pick_54 lk376 (fun _ _ _ => rfl) (hC.1 4 _ rfl) (a := (o + 6)) (hC.2.2.1 7 _ _ _ rfl) rfl ?_
  refine ev_iload_n 58 dX11_pick_57 rfl rfl ?_
  refine ev_aald 59 _ 7 dX11_pick_58 (hC.1 6 _ rfl) rfl (by have hNN := hC.2.1 6 _ rfl; omega) rfl ?_
  refine ev_eqR (a := (o + 7 + p)) (hPa) ?_
  refine ev_iload_n 60 dX11_pick_59 rfl rfl ?_
  refine ev_invV 63 (Mc := mX7_choice) ⟨lk893, lk79, hdX7_choice, (Nat.le_of_ble_eq_true rfl), (Nat.le_of_ble_eq_true rfl)⟩ lk890 lk891 lk892 mm_cl7 rfl dX11_pick_60 (ct_choice tp hw (vzk hv (by omega))) rfl tp (Nat.le_of_ble_eq_true rfl) rfl rfl ?_
  exact ev_iret dX11_pick_63 rfl (rfl)
theorem ml_pick_f {c p w : Int32} (hM : lyM B P m) (hn : I m 0 = nI n) (hc : ¬ (0 ≤ c ∧ c < nI n)) : Ct g mX12_pick [.ref m, .int c, .int p, .int w] B I J P (some (.int (-1)), B, mo_st I m (-1), J, P) := by
  refine ct_of (lv := [some (.ref m), some (.int (c)), some (.int (p)), some (.int (w))]) (by decide +kernel) (Nat.le_of_ble_eq_true rfl) rfl ?_
  refine ev_aload_n 1 dX12_pick_0 rfl rfl ?_
  refine ev_iload_n 2 dX12_pick_1 rfl rfl ?_
  refine ev_invV 5 (Mc := mX12_isCoder) ⟨lk1552, lk80, hdX12_isCoder, (Nat.le_of_ble_eq_true rfl), (Nat.le_of_ble_eq_true rfl)⟩ lk1549 lk1551 lk40 mm_cl12 rfl dX12_pick_2 (ct_X12_isCoder_f hM (by rw [hn]; exact hc)) rfl (hM.1 0 _ rfl) (Nat.le_of_ble_eq_true rfl) rfl rfl ?_
  refine ev_if_eqN 8 27 dX12_pick_5 (by decide) (by omega) rfl (fun hbr => ?_) (fun hx => absurd ((by omega)) hx)
  refine ev_aload_n 28 dX12_pick_27 rfl rfl ?_
  refine ev_iconst 29 (v := -1) dX12_pick_28 (by decide +kernel) rfl ?_
  refine ev_invV 32 (Mc := mX12_refused) ⟨lk1540, lk80, hdX12_refused, (Nat.le_of_ble_eq_true rfl), (Nat.le_of_ble_eq_true rfl)⟩ lk1537 lk1539 lk38 mm_cl12 rfl dX12_pick_29 (ct_X12_refused hM) rfl (hM.1 0 _ rfl) (Nat.le_of_ble_eq_true rfl) rfl rfl ?_
  exact ev_iret dX12_pick_32 rfl (rfl)
theorem ml_pick_b {p w : Int32} (h : MA B I P m n k) (hb : ¬ ((nI 0 ≤ p ∧ p ≤ nI 3) ∧ nI 0 ≤ w ∧ w ≤ nI 6)) : Ct g mX12_pick [.ref m, .int (nI k), .int p, .int w] B I J P (some (.int (-1)), B, mo_st I m (-1), J, P) := by
  obtain ⟨hM, hn, h8, hk⟩ := h
  by_cases h1 : nI 0 ≤ p ∧ p ≤ nI 3
  · refine ct_of (lv := [some (.ref m), some (.int (nI (k))), some (.int (p)), some (.int (w))]) (by decide +kernel) (Nat.le_of_ble_eq_true rfl) rfl ?_
    refine ev_aload_n 1 dX12_pick_0 rfl rfl ?_
    refine ev_iload_n 2 dX12_pick_1 rfl rfl ?_
    refine ev_invV 5 (Mc := mX12_isCoder) ⟨lk1552, lk80, hdX12_isCoder, (Nat.le_of_ble_eq_true rfl), (Nat.le_of_ble_eq_true rfl)⟩ lk1549 lk1551 lk40 mm_cl12 rfl dX12_pick_2 (ct_X12_isCoder_t hM hn h8 hk) rfl (hM.1 0 _ rfl) (Nat.le_of_ble_eq_true rfl) rfl rfl ?_
    refine ev_if_eqN 8 27 dX12_pick_5 (by decide) (by omega) rfl (fun hx => absurd hx ((by omega))) (fun hbr => ?_)
    refine ev_iload_n 9 dX12_pick_8 rfl rfl ?_
    refine ev_iconstN 10 0 dX12_pick_9 rfl ?_
    refine ev_iconstN 11 3 dX12_pick_10 rfl ?_
    refine ev_invS 14 (Mc := mX12_in) ⟨lk1536, lk80, hdX12_in, (Nat.le_of_ble_eq_true rfl), (Nat.le_of_ble_eq_true rfl)⟩ lk1534 lk1535 dX12_pick_11 (ct_X12_in_t h1) rfl (Nat.le_of_ble_eq_true rfl) rfl rfl ?_
    refine ev_if_eqN 17 27 dX12_pick_14 (by decide) (by omega) rfl (fun hx => absurd hx ((by omega))) (fun hbr => ?_)
    refine ev_iload_n 18 dX12_pick_17 rfl rfl ?_
    refine ev_iconstN 19 0 dX12_pick_18 rfl ?_
    refine ev_bipushN 21 6 dX12_pick_19 (by decide +kernel) rfl ?_
    refine ev_invS 24 (Mc := mX12_in) ⟨lk1536, lk80, hdX12_in, (Nat.le_of_ble_eq_true rfl), (Nat.le_of_ble_eq_true rfl)⟩ lk1534 lk1535 dX12_pick_21 (ct_X12_in_f (fun h2 => hb ⟨h1, h2⟩)) rfl (Nat.le_of_ble_eq_true rfl) rfl rfl ?_
    refine ev_if_neN 27 33 dX12_pick_24 (by decide) (by omega) rfl (fun hx => absurd ((by omega)) hx) (fun hbr => ?_)
    refine ev_aload_n 28 dX12_pick_27 rfl rfl ?_
    refine ev_iconst 29 (v := -1) dX12_pick_28 (by decide +kernel) rfl ?_
    refine ev_invV 32 (Mc := mX12_refused) ⟨lk1540, lk80, hdX12_refused, (Nat.le_of_ble_eq_true rfl), (Nat.le_of_ble_eq_true rfl)⟩ lk1537 lk1539 lk38 mm_cl12 rfl dX12_pick_29 (ct_X12_refused hM) rfl (hM.1 0 _ rfl) (Nat.le_of_ble_eq_true rfl) rfl rfl ?_
    exact ev_iret dX12_pick_32 rfl (rfl)
  · refine ct_of (lv := [some (.ref m), some (.int (nI (k))), some (.int (p)), some (.int (w))]) (by decide +kernel) (Nat.le_of_ble_eq_true rfl) rfl ?_
    refine ev_aload_n 1 dX12_pick_0 rfl rfl ?_
    refine ev_iload_n 2 dX12_pick_1 rfl rfl ?_
    refine ev_invV 5 (Mc := mX12_isCoder) ⟨lk1552, lk80, hdX12_isCoder, (Nat.le_of_ble_eq_true rfl), (Nat.le_of_ble_eq_true rfl)⟩ lk1549 lk1551 lk40 mm_cl12 rfl dX12_pick_2 (ct_X12_isCoder_t hM hn h8 hk) rfl (hM.1 0 _ rfl) (Nat.le_of_ble_eq_true rfl) rfl rfl ?_
    refine ev_if_eqN 8 27 dX12_pick_5 (by decide) (by omega) rfl (fun hx => absurd hx ((by omega))) (fun hbr => ?_)
    refine ev_iload_n 9 dX12_pick_8 rfl rfl ?_
    refine ev_iconstN 10 0 dX12_pick_9 rfl ?_
    refine ev_iconstN 11 3 dX12_pick_10 rfl ?_
    refine ev_invS 14 (Mc := mX12_in) ⟨lk1536, lk80, hdX12_in, (Nat.le_of_ble_eq_true rfl), (Nat.le_of_ble_eq_true rfl)⟩ lk1534 lk1535 dX12_pick_11 (ct_X12_in_f h1) rfl (Nat.le_of_ble_eq_true rfl) rfl rfl ?_
    refine ev_if_eqN 17 27 dX12_pick_14 (by decide) (by omega) rfl (fun hbr => ?_) (fun hx => absurd ((by omega)) hx)
    refine ev_aload_n 28 dX12_pick_27 rfl rfl ?_
    refine ev_iconst 29 (v := -1) dX12_pick_28 (by decide +kernel) rfl ?_
    refine ev_invV 32 (Mc := mX12_refused) ⟨lk1540, lk80, hdX12_refused, (Nat.le_of_ble_eq_true rfl), (Nat.le_of_ble_eq_true rfl)⟩ lk1537 lk1539 lk38 mm_cl12 rfl dX12_pick_29 (ct_X12_refused hM) rfl (hM.1 0 _ rfl) (Nat.le_of_ble_eq_true rfl) rfl rfl ?_
    exact ev_iret dX12_pick_32 rfl (rfl)
theorem ml_pick_s {p w so : Nat} (h : MA B I P m n k) (hp : p ≤ 3) (hw : w ≤ 6) (r : I (m + 20) k = nI so) (hs : so ≠ 1) (hs2 : so ≤ 2) : Ct g mX12_pick [.ref m, .int (nI k), .int (nI p), .int (nI w)] B I J P (some (.int (-2)), B, mo_st I m (-2), J, P) := by
  obtain ⟨hM, hn, h8, hk⟩ := h
  refine ct_of (lv := [some (.ref m), some (.int (nI (k))), some (.int (nI (p))), some (.int (nI (w)))]) (by decide +kernel) (Nat.le_of_ble_eq_true rfl) rfl ?_
  refine ev_aload_n 1 dX12_pick_0 rfl rfl ?_
  refine ev_iload_n 2 dX12_pick_1 rfl rfl ?_
  refine ev_invV 5 (Mc := mX12_isCoder) ⟨lk1552, lk80, hdX12_isCoder, (Nat.le_of_ble_eq_true rfl), (Nat.le_of_ble_eq_true rfl)⟩ lk1549 lk1551 lk40 mm_cl12 rfl dX12_pick_2 (ct_X12_isCoder_t hM hn h8 hk) rfl (hM.1 0 _ rfl) (Nat.le_of_ble_eq_true rfl) rfl rfl ?_
  refine ev_if_eqN 8 27 dX12_pick_5 (by decide) (by omega) rfl (fun hx => absurd hx ((by omega))) (fun hbr => ?_)
  refine ev_iload_n 9 dX12_pick_8 rfl rfl ?_
  refine ev_iconstN 10 0 dX12_pick_9 rfl ?_
  refine ev_iconstN 11 3 dX12_pick_10 rfl ?_
  refine ev_invS 14 (Mc := mX12_in) ⟨lk1536, lk80, hdX12_in, (Nat.le_of_ble_eq_true rfl), (Nat.le_of_ble_eq_true rfl)⟩ lk1534 lk1535 dX12_pick_11 (ct_X12_in_t (in_t (by omega) hp (by omega))) rfl (Nat.le_of_ble_eq_true rfl) rfl rfl ?_
  refine ev_if_eqN 17 27 dX12_pick_14 (by decide) (by omega) rfl (fun hx => absurd hx ((by omega))) (fun hbr => ?_)
  refine ev_iload_n 18 dX12_pick_17 rfl rfl ?_
  refine ev_iconstN 19 0 dX12_pick_18 rfl ?_
  refine ev_bipushN 21 6 dX12_pick_19 (by decide +kernel) rfl ?_
  refine ev_invS 24 (Mc := mX12_in) ⟨lk1536, lk80, hdX12_in, (Nat.le_of_ble_eq_true rfl), (Nat.le_of_ble_eq_true rfl)⟩ lk1534 lk1535 dX12_pick_21 (ct_X12_in_t (in_t (by omega) hw (by omega))) rfl (Nat.le_of_ble_eq_true rfl) rfl rfl ?_
  refine ev_if_neN 27 33 dX12_pick_24 (by decide) (by omega) rfl (fun hbr => ?_) (fun hx => absurd hx ((by omega)))
  refine ev_aload_n 34 dX12_pick_33 rfl rfl ?_
  refine ev_getP 37 mm_cl12 (j := 25) (Nat.le_of_ble_eq_true rfl) dX12_pick_34 lk1310 (fun _ _ _ => rfl) (hM.1 0 _ rfl) (a := (m + 20)) (hM.2.2 19 _ _ _ rfl) rfl ?_
  refine ev_iload_n 38 dX12_pick_37 rfl rfl ?_
  refine ev_iald 39 _ dX12_pick_38 (hM.1 20 _ rfl) rfl (by have hNN := hM.2.1 20 _ rfl; omega) rfl ?_
  refine ev_eqI (y := nI (so)) (r) ?_
  refine ev_iconstN 40 1 dX12_pick_39 rfl ?_
  refine ev_icmp_eqN 43 52 dX12_pick_40 (by decide) (by omega) (by omega) rfl (fun hx => absurd hx ((by omega))) (fun hbr => ?_)
  refine ev_aload_n 44 dX12_pick_43 rfl rfl ?_
  refine ev_bipush 46 (v := -2) dX12_pick_44 (by decide +kernel) rfl ?_
  refine ev_invV 49 (Mc := mX12_refused) ⟨lk1540, lk80, hdX12_refused, (Nat.le_of_ble_eq_true rfl), (Nat.le_of_ble_eq_true rfl)⟩ lk1537 lk1539 lk38 mm_cl12 rfl dX12_pick_46 (ct_X12_refused hM) rfl (hM.1 0 _ rfl) (Nat.le_of_ble_eq_true rfl) rfl rfl ?_
  refine ev_goto 72 dX12_pick_49 (by decide) ?_
  exact ev_iret dX12_pick_72 rfl (rfl)
theorem ml_pick_t {p w : Nat} {v : Int32} (h : MA B I P m n k) (hp : p ≤ 3) (hw : w ≤ 6) (r : I (m + 20) k = nI 1) (hv : I (m + 22) (28 * k + 7 * p + w) = v) : Ct g mX12_pick [.ref m, .int (nI k), .int (nI p), .int (nI w)] B I J P (some (.int v), B, mo_st I m (nI 0), J, P) := by
  obtain ⟨hM, hn, h8, hk⟩ := h
  refine ct_of (lv := [some (.ref m), some (.int (nI (k))), some (.int (nI (p))), some (.int (nI (w)))]) (by decide +kernel) (Nat.le_of_ble_eq_true rfl) rfl ?_
  refine ev_aload_n 1 dX12_pick_0 rfl rfl ?_
  refine ev_iload_n 2 dX12_pick_1 rfl rfl ?_
  refine ev_invV 5 (Mc := mX12_isCoder) ⟨lk1552, lk80, hdX12_isCoder, (Nat.le_of_ble_eq_true rfl), (Nat.le_of_ble_eq_true rfl)⟩ lk1549 lk1551 lk40 mm_cl12 rfl dX12_pick_2 (ct_X12_isCoder_t hM hn h8 hk) rfl (hM.1 0 _ rfl) (Nat.le_of_ble_eq_true rfl) rfl rfl ?_
  refine ev_if_eqN 8 27 dX12_pick_5 (by decide) (by omega) rfl (fun hx => absurd hx ((by omega))) (fun hbr => ?_)
  refine ev_iload_n 9 dX12_pick_8 rfl rfl ?_
  refine ev_iconstN 10 0 dX12_pick_9 rfl ?_
  refine ev_iconstN 11 3 dX12_pick_10 rfl ?_
  refine ev_invS 14 (Mc := mX12_in) ⟨lk1536, lk80, hdX12_in, (Nat.le_of_ble_eq_true rfl), (Nat.le_of_ble_eq_true rfl)⟩ lk1534 lk1535 dX12_pick_11 (ct_X12_in_t (in_t (by omega) hp (by omega))) rfl (Nat.le_of_ble_eq_true rfl) rfl rfl ?_
  refine ev_if_eqN 17 27 dX12_pick_14 (by decide) (by omega) rfl (fun hx => absurd hx ((by omega))) (fun hbr => ?_)
  refine ev_iload_n 18 dX12_pick_17 rfl rfl ?_
  refine ev_iconstN 19 0 dX12_pick_18 rfl ?_
  refine ev_bipushN 21 6 dX12_pick_19 (by decide +kernel) rfl ?_
  refine ev_invS 24 (Mc := mX12_in) ⟨lk1536, lk80, hdX12_in, (Nat.le_of_ble_eq_true rfl), (Nat.le_of_ble_eq_true rfl)⟩ lk1534 lk1535 dX12_pick_21 (ct_X12_in_t (in_t (by omega) hw (by omega))) rfl (Nat.le_of_ble_eq_true rfl) rfl rfl ?_
  refine ev_if_neN 27 33 dX12_pick_24 (by decide) (by omega) rfl (fun hbr => ?_) (fun hx => absurd hx ((by omega)))
  refine ev_aload_n 34 dX12_pick_33 rfl rfl ?_
  refine ev_getP 37 mm_cl12 (j := 25) (Nat.le_of_ble_eq_true rfl) dX12_pick_34 lk1310 (fun _ _ _ => rfl) (hM.1 0 _ rfl) (a := (m + 20)) (hM.2.2 19 _ _ _ rfl) rfl ?_
  refine ev_iload_n 38 dX12_pick_37 rfl rfl ?_
  refine ev_iald 39 _ dX12_pick_38 (hM.1 20 _ rfl) rfl (by have hNN := hM.2.1 20 _ rfl; omega) rfl ?_
  refine ev_eqI (y := nI (1)) (r) ?_
  refine ev_iconstN 40 1 dX12_pick_39 rfl ?_
  refine ev_icmp_eqN 43 52 dX12_pick_40 (by decide) (by omega) (by omega) rfl (fun hbr => ?_) (fun hx => absurd ((by omega)) hx)
  refine ev_aload_n 53 dX12_pick_52 rfl rfl ?_
  refine ev_aload_n 54 dX12_pick_53 rfl rfl ?_
  refine ev_getP 57 mm_cl12 (j := 27) (Nat.le_of_ble_eq_true rfl) dX12_pick_54 lk1312 (fun _ _ _ => rfl) (hM.1 0 _ rfl) (a := (m + 22)) (hM.2.2 21 _ _ _ rfl) rfl ?_
  refine ev_bipushN 59 28 dX12_pick_57 (by decide +kernel) rfl ?_
  refine ev_iload_n 60 dX12_pick_59 rfl rfl ?_
  refine ev_imulN 61 dX12_pick_60 rfl ?_
  refine ev_bipushN 63 7 dX12_pick_61 (by decide +kernel) rfl ?_
  refine ev_iload_n 64 dX12_pick_63 rfl rfl ?_
  refine ev_imulN 65 dX12_pick_64 rfl ?_
  refine ev_iaddN 66 dX12_pick_65 rfl ?_
  refine ev_iload_n 67 dX12_pick_66 rfl rfl ?_
  refine ev_iaddN 68 dX12_pick_67 rfl ?_
  refine ev_iald 69 _ dX12_pick_68 (hM.1 22 _ rfl) rfl (by have hNN := hM.2.1 22 _ rfl; omega) rfl ?_
  refine ev_eqI (y := (v)) (hv) ?_
  refine ev_invV 72 (Mc := mX12_done) ⟨lk1544, lk80, hdX12_done, (Nat.le_of_ble_eq_true rfl), (Nat.le_of_ble_eq_true rfl)⟩ lk1541 lk1543 lk39 mm_cl12 rfl dX12_pick_69 (ct_X12_done hM) rfl (hM.1 0 _ rfl) (Nat.le_of_ble_eq_true rfl) rfl rfl ?_
  exact ev_iret dX12_pick_72 rfl (rfl)
/-! state -/
theorem cl_state_u {c s w i : Int32} (hV : lyV B P x) (hm : Ct g mX11_memoryOf [.ref x, .int c, .int s] B (vz I x) J P (some .null, B, vz I x, J, P)) : Ct g mX11_state [.ref x, .int c, .int s, .int w, .int i] B I J P (some (.int (-2147483648)), B, vst I x (-1), J, P) := by
  refine ct_of (lv := [some (.ref x), some (.int (c)), some (.int (s)), some (.int (w)), some (.int (i)), none]) (by decide +kernel) (Nat.le_of_ble_eq_true rfl) rfl ?_
  refine ev_aload_n 1 dX11_state_0 rfl rfl ?_
  refine ev_iconstN 2 0 dX11_state_1 rfl ?_
  refine ev_putI 5 mm_cl11 (j := 9) (Nat.le_of_ble_eq_true rfl) dX11_state_2 lk270 rfl (fun _ _ _ => rfl) rfl rfl (hV.1 0 _ rfl) rfl ?_
  refine ev_aload_n 6 dX11_state_5 rfl rfl ?_
  refine ev_iload_n 7 dX11_state_6 rfl rfl ?_
  refine ev_iload_n 8 dX11_state_7 rfl rfl ?_
  refine ev_invV 11 (Mc := mX11_memoryOf) ⟨lk1189, lk75, hdX11_memoryOf, (Nat.le_of_ble_eq_true rfl), (Nat.le_of_ble_eq_true rfl)⟩ lk1186 lk1188 lk37 mm_cl11 rfl dX11_state_8 (hm) rfl (hV.1 0 _ rfl) (Nat.le_of_ble_eq_true rfl) rfl rfl ?_
  refine ev_astoreN 13 (lv' := [_, _, _, _, some (.int _), _]) dX11_state_11 (Nat.le_of_ble_eq_true rfl) rfl rfl ?_
  refine ev_aloadN 15 dX11_state_13 rfl rfl ?_
  refine ev_ifnonnull_n 18 dX11_state_15 rfl ?_
  refine ev_aload_n 19 dX11_state_18 rfl rfl ?_
  refine ev_invV 22 (Mc := mX11_unknown) ⟨lk1177, lk75, hdX11_unknown, (Nat.le_of_ble_eq_true rfl), (Nat.le_of_ble_eq_true rfl)⟩ lk1174 lk1176 lk35 mm_cl11 rfl dX11_state_19 (ct_unknown hV) rfl (hV.1 0 _ rfl) (Nat.le_of_ble_eq_true rfl) rfl rfl ?_
  exact ev_iret dX11_state_22 rfl (rfl)
theorem cl_state_w {c s w i : Int32} (hV : lyV B P x) (hK : lyK B P x b) (hm : Ct g mX11_memoryOf [.ref x, .int c, .int s] B (vz I x) J P (some (.ref b), B, vz I x, J, P)) (hw : ¬ (nI 0 ≤ w ∧ w ≤ nI 3)) : Ct g mX11_state [.ref x, .int c, .int s, .int w, .int i] B I J P (some (.int (-2147483648)), B, vst I x (-1), J, P) := by
  refine ct_of (lv := [some (.ref x), some (.int (c)), some (.int (s)), some (.int (w)), some (.int (i)), none]) (by decide +kernel) (Nat.le_of_ble_eq_true rfl) rfl ?_
  refine ev_aload_n 1 dX11_state_0 rfl rfl ?_
  refine ev_iconstN 2 0 dX11_state_1 rfl ?_
  refine ev_putI 5 mm_cl11 (j := 9) (Nat.le_of_ble_eq_true rfl) dX11_state_2 lk270 rfl (fun _ _ _ => rfl) rfl rfl (hV.1 0 _ rfl) rfl ?_
  refine ev_aload_n 6 dX11_state_5 rfl rfl ?_
  refine ev_iload_n 7 dX11_state_6 rfl rfl ?_
  refine ev_iload_n 8 dX11_state_7 rfl rfl ?_
  refine ev_invV 11 (Mc := mX11_memoryOf) ⟨lk1189, lk75, hdX11_memoryOf, (Nat.le_of_ble_eq_true rfl), (Nat.le_of_ble_eq_true rfl)⟩ lk1186 lk1188 lk37 mm_cl11 rfl dX11_state_8 (hm) rfl (hV.1 0 _ rfl) (Nat.le_of_ble_eq_true rfl) rfl rfl ?_
  refine ev_astore 13 (lv' := [_, _, _, _, some (.int _), _]) dX11_state_11 (Nat.le_of_ble_eq_true rfl) rfl rfl ?_
  refine ev_aload 15 dX11_state_13 rfl rfl ?_
  refine ev_ifnonnull_r 23 dX11_state_15 (by decide) ?_
  refine ev_iload_n 24 dX11_state_23 rfl rfl ?_
  refine ev_tableOut 117 dX11_state_24 (nI_out (lo := 0) (hi := 3) (by omega) (by omega) hw) (by decide) ?_
  refine ev_aload_n 118 dX11_state_117 rfl rfl ?_
  refine ev_invV 121 (Mc := mX11_unknown) ⟨lk1177, lk75, hdX11_unknown, (Nat.le_of_ble_eq_true rfl), (Nat.le_of_ble_eq_true rfl)⟩ lk1174 lk1176 lk35 mm_cl11 rfl dX11_state_118 (ct_unknown hV) rfl (hV.1 0 _ rfl) (Nat.le_of_ble_eq_true rfl) rfl rfl ?_
  exact ev_iret dX11_state_121 rfl (rfl)
theorem cl_state_r {c s : Int32} {w i : Nat} {v : Int32} (hV : lyV B P x) (hK : lyK B P x b) (hxb : x + 22 ≤ b) (hm : Ct g mX11_memoryOf [.ref x, .int c, .int s] B (vz I x) J P (some (.ref b), B, vz I x, J, P)) (hw : w ≤ 2) (hi : i < if w = 0 then 160 else 8) (hv : I (b + 1 + w) i = v) : Ct g mX11_state [.ref x, .int c, .int s, .int (nI w), .int (nI i)] B I J P (some (.int v), B, vst I x (nI 0), J, P) := by
  have : w = 0 ∨ w = 1 ∨ w = 2 := by omega
  rcases this with rfl | rfl | rfl
  · rw [if_pos rfl] at hi
    refine ct_of (lv := [some (.ref x), some (.int (c)), some (.int (s)), some (.int (nI (0))), some (.int (nI (i))), none]) (by decide +kernel) (Nat.le_of_ble_eq_true rfl) rfl ?_
    refine ev_aload_n 1 dX11_state_0 rfl rfl ?_
    refine ev_iconstN 2 0 dX11_state_1 rfl ?_
    refine ev_putI 5 mm_cl11 (j := 9) (Nat.le_of_ble_eq_true rfl) dX11_state_2 lk270 rfl (fun _ _ _ => rfl) rfl rfl (hV.1 0 _ rfl) rfl ?_
    refine ev_aload_n 6 dX11_state_5 rfl rfl ?_
    refine ev_iload_n 7 dX11_state_6 rfl rfl ?_
    refine ev_iload_n 8 dX11_state_7 rfl rfl ?_
    refine ev_invV 11 (Mc := mX11_memoryOf) ⟨lk1189, lk75, hdX11_memoryOf, (Nat.le_of_ble_eq_true rfl), (Nat.le_of_ble_eq_true rfl)⟩ lk1186 lk1188 lk37 mm_cl11 rfl dX11_state_8 (hm) rfl (hV.1 0 _ rfl) (Nat.le_of_ble_eq_true rfl) rfl rfl ?_
    refine ev_astore 13 (lv' := [_, _, _, _, some (.int _), _]) dX11_state_11 (Nat.le_of_ble_eq_true rfl) rfl rfl ?_
    refine ev_aload 15 dX11_state_13 rfl rfl ?_
    refine ev_ifnonnull_r 23 dX11_state_15 (by decide) ?_
    refine ev_iload_n 24 dX11_state_23 rfl rfl ?_
    refine ev_tableIn 56 dX11_state_24 (by decide) (by decide) rfl (by decide) ?_
    refine ev_aload_n 57 dX11_state_56 rfl rfl ?_
    refine ev_aload 59 dX11_state_57 rfl rfl ?_
    refine ev_getP 62 mm_cl6 (j := 0) (Nat.le_of_ble_eq_true rfl) dX11_state_59 lk343 (fun _ _ _ => rfl) (hK.1 0 _ rfl) (a := (b + 1)) (hK.2.2.1 0 _ _ _ rfl) rfl ?_
    refine ev_sipushN 65 160 dX11_state_62 (by decide +kernel) rfl ?_
    refine ev_iload 67 dX11_state_65 rfl rfl ?_
    refine ev_invV 70 (Mc := mX11_entry) ⟨lk1181, lk75, hdX11_entry, (Nat.le_of_ble_eq_true rfl), (Nat.le_of_ble_eq_true rfl)⟩ lk1178 lk1180 lk36 mm_cl11 rfl dX11_state_67 (ct_entry_t (hK.1 1 _ rfl) (by rw [hK.2.1 1 _ rfl]; omega) (by omega) hi (vzk hv (by omega)) hV) rfl (hV.1 0 _ rfl) (Nat.le_of_ble_eq_true rfl) rfl rfl ?_
    exact ev_iret dX11_state_70 rfl (rfl)
  · rw [if_neg (by omega)] at hi
    refine ct_of (lv := [some (.ref x), some (.int (c)), some (.int (s)), some (.int (nI (1))), some (.int (nI (i))), none]) (by decide +kernel) (Nat.le_of_ble_eq_true rfl) rfl ?_
    refine ev_aload_n 1 dX11_state_0 rfl rfl ?_
    refine ev_iconstN 2 0 dX11_state_1 rfl ?_
    refine ev_putI 5 mm_cl11 (j := 9) (Nat.le_of_ble_eq_true rfl) dX11_state_2 lk270 rfl (fun _ _ _ => rfl) rfl rfl (hV.1 0 _ rfl) rfl ?_
    refine ev_aload_n 6 dX11_state_5 rfl rfl ?_
    refine ev_iload_n 7 dX11_state_6 rfl rfl ?_
    refine ev_iload_n 8 dX11_state_7 rfl rfl ?_
    refine ev_invV 11 (Mc := mX11_memoryOf) ⟨lk1189, lk75, hdX11_memoryOf, (Nat.le_of_ble_eq_true rfl), (Nat.le_of_ble_eq_true rfl)⟩ lk1186 lk1188 lk37 mm_cl11 rfl dX11_state_8 (hm) rfl (hV.1 0 _ rfl) (Nat.le_of_ble_eq_true rfl) rfl rfl ?_
    refine ev_astore 13 (lv' := [_, _, _, _, some (.int _), _]) dX11_state_11 (Nat.le_of_ble_eq_true rfl) rfl rfl ?_
    refine ev_aload 15 dX11_state_13 rfl rfl ?_
    refine ev_ifnonnull_r 23 dX11_state_15 (by decide) ?_
    refine ev_iload_n 24 dX11_state_23 rfl rfl ?_
    refine ev_tableIn 71 dX11_state_24 (by decide) (by decide) rfl (by decide) ?_
    refine ev_aload_n 72 dX11_state_71 rfl rfl ?_
    refine ev_aload 74 dX11_state_72 rfl rfl ?_
    refine ev_getP 77 mm_cl6 (j := 1) (Nat.le_of_ble_eq_true rfl) dX11_state_74 lk345 (fun _ _ _ => rfl) (hK.1 0 _ rfl) (a := (b + 2)) (hK.2.2.1 1 _ _ _ rfl) rfl ?_
    refine ev_bipushN 79 8 dX11_state_77 (by decide +kernel) rfl ?_
    refine ev_iload 81 dX11_state_79 rfl rfl ?_
    refine ev_invV 84 (Mc := mX11_entry) ⟨lk1181, lk75, hdX11_entry, (Nat.le_of_ble_eq_true rfl), (Nat.le_of_ble_eq_true rfl)⟩ lk1178 lk1180 lk36 mm_cl11 rfl dX11_state_81 (ct_entry_t (hK.1 2 _ rfl) (by rw [hK.2.1 2 _ rfl]; omega) (by omega) hi (vzk hv (by omega)) hV) rfl (hV.1 0 _ rfl) (Nat.le_of_ble_eq_true rfl) rfl rfl ?_
    exact ev_iret dX11_state_84 rfl (rfl)
  · rw [if_neg (by omega)] at hi
    refine ct_of (lv := [some (.ref x), some (.int (c)), some (.int (s)), some (.int (nI (2))), some (.int (nI (i))), none]) (by decide +kernel) (Nat.le_of_ble_eq_true rfl) rfl ?_
    refine ev_aload_n 1 dX11_state_0 rfl rfl ?_
    refine ev_iconstN 2 0 dX11_state_1 rfl ?_
    refine ev_putI 5 mm_cl11 (j := 9) (Nat.le_of_ble_eq_true rfl) dX11_state_2 lk270 rfl (fun _ _ _ => rfl) rfl rfl (hV.1 0 _ rfl) rfl ?_
    refine ev_aload_n 6 dX11_state_5 rfl rfl ?_
    refine ev_iload_n 7 dX11_state_6 rfl rfl ?_
    refine ev_iload_n 8 dX11_state_7 rfl rfl ?_
    refine ev_invV 11 (Mc := mX11_memoryOf) ⟨lk1189, lk75, hdX11_memoryOf, (Nat.le_of_ble_eq_true rfl), (Nat.le_of_ble_eq_true rfl)⟩ lk1186 lk1188 lk37 mm_cl11 rfl dX11_state_8 (hm) rfl (hV.1 0 _ rfl) (Nat.le_of_ble_eq_true rfl) rfl rfl ?_
    refine ev_astore 13 (lv' := [_, _, _, _, some (.int _), _]) dX11_state_11 (Nat.le_of_ble_eq_true rfl) rfl rfl ?_
    refine ev_aload 15 dX11_state_13 rfl rfl ?_
    refine ev_ifnonnull_r 23 dX11_state_15 (by decide) ?_
    refine ev_iload_n 24 dX11_state_23 rfl rfl ?_
    refine ev_tableIn 85 dX11_state_24 (by decide) (by decide) rfl (by decide) ?_
    refine ev_aload_n 86 dX11_state_85 rfl rfl ?_
    refine ev_aload 88 dX11_state_86 rfl rfl ?_
    refine ev_getP 91 mm_cl6 (j := 2) (Nat.le_of_ble_eq_true rfl) dX11_state_88 lk349 (fun _ _ _ => rfl) (hK.1 0 _ rfl) (a := (b + 3)) (hK.2.2.1 2 _ _ _ rfl) rfl ?_
    refine ev_bipushN 93 8 dX11_state_91 (by decide +kernel) rfl ?_
    refine ev_iload 95 dX11_state_93 rfl rfl ?_
    refine ev_invV 98 (Mc := mX11_entry) ⟨lk1181, lk75, hdX11_entry, (Nat.le_of_ble_eq_true rfl), (Nat.le_of_ble_eq_true rfl)⟩ lk1178 lk1180 lk36 mm_cl11 rfl dX11_state_95 (ct_entry_t (hK.1 3 _ rfl) (by rw [hK.2.1 3 _ rfl]; omega) (by omega) hi (vzk hv (by omega)) hV) rfl (hV.1 0 _ rfl) (Nat.le_of_ble_eq_true rfl) rfl rfl ?_
    exact ev_iret dX11_state_98 rfl (rfl)
theorem cl_state_e {c s i : Int32} {w : Nat} (hV : lyV B P x) (hK : lyK B P x b) (hm : Ct g mX11_memoryOf [.ref x, .int c, .int s] B (vz I x) J P (some (.ref b), B, vz I x, J, P)) (hw : w ≤ 2) (hi : ¬ (0 ≤ i ∧ i < nI (if w = 0 then 160 else 8))) : Ct g mX11_state [.ref x, .int c, .int s, .int (nI w), .int i] B I J P (some (.int (-2147483648)), B, vst I x (-1), J, P) := by
  have : w = 0 ∨ w = 1 ∨ w = 2 := by omega
  rcases this with rfl | rfl | rfl
  · rw [if_pos rfl] at hi
    refine ct_of (lv := [some (.ref x), some (.int (c)), some (.int (s)), some (.int (nI (0))), some (.int (i)), none]) (by decide +kernel) (Nat.le_of_ble_eq_true rfl) rfl ?_
    refine ev_aload_n 1 dX11_state_0 rfl rfl ?_
    refine ev_iconstN 2 0 dX11_state_1 rfl ?_
    refine ev_putI 5 mm_cl11 (j := 9) (Nat.le_of_ble_eq_true rfl) dX11_state_2 lk270 rfl (fun _ _ _ => rfl) rfl rfl (hV.1 0 _ rfl) rfl ?_
    refine ev_aload_n 6 dX11_state_5 rfl rfl ?_
    refine ev_iload_n 7 dX11_state_6 rfl rfl ?_
    refine ev_iload_n 8 dX11_state_7 rfl rfl ?_
    refine ev_invV 11 (Mc := mX11_memoryOf) ⟨lk1189, lk75, hdX11_memoryOf, (Nat.le_of_ble_eq_true rfl), (Nat.le_of_ble_eq_true rfl)⟩ lk1186 lk1188 lk37 mm_cl11 rfl dX11_state_8 (hm) rfl (hV.1 0 _ rfl) (Nat.le_of_ble_eq_true rfl) rfl rfl ?_
    refine ev_astore 13 (lv' := [_, _, _, _, some (.int _), _]) dX11_state_11 (Nat.le_of_ble_eq_true rfl) rfl rfl ?_
    refine ev_aload 15 dX11_state_13 rfl rfl ?_
    refine ev_ifnonnull_r 23 dX11_state_15 (by decide) ?_
    refine ev_iload_n 24 dX11_state_23 rfl rfl ?_
    refine ev_tableIn 56 dX11_state_24 (by decide) (by decide) rfl (by decide) ?_
    refine ev_aload_n 57 dX11_state_56 rfl rfl ?_
    refine ev_aload 59 dX11_state_57 rfl rfl ?_
    refine ev_getP 62 mm_cl6 (j := 0) (Nat.le_of_ble_eq_true rfl) dX11_state_59 lk343 (fun _ _ _ => rfl) (hK.1 0 _ rfl) (a := (b + 1)) (hK.2.2.1 0 _ _ _ rfl) rfl ?_
    refine ev_sipushN 65 160 dX11_state_62 (by decide +kernel) rfl ?_
    refine ev_iload 67 dX11_state_65 rfl rfl ?_
    refine ev_invV 70 (Mc := mX11_entry) ⟨lk1181, lk75, hdX11_entry, (Nat.le_of_ble_eq_true rfl), (Nat.le_of_ble_eq_true rfl)⟩ lk1178 lk1180 lk36 mm_cl11 rfl dX11_state_67 (ct_entry_f (hK.1 1 _ rfl) hi hV) rfl (hV.1 0 _ rfl) (Nat.le_of_ble_eq_true rfl) rfl rfl ?_
    exact ev_iret dX11_state_70 rfl (rfl)
  · rw [if_neg (by omega)] at hi
    refine ct_of (lv := [some (.ref x), some (.int (c)), some (.int (s)), some (.int (nI (1))), some (.int (i)), none]) (by decide +kernel) (Nat.le_of_ble_eq_true rfl) rfl ?_
    refine ev_aload_n 1 dX11_state_0 rfl rfl ?_
    refine ev_iconstN 2 0 dX11_state_1 rfl ?_
    refine ev_putI 5 mm_cl11 (j := 9) (Nat.le_of_ble_eq_true rfl) dX11_state_2 lk270 rfl (fun _ _ _ => rfl) rfl rfl (hV.1 0 _ rfl) rfl ?_
    refine ev_aload_n 6 dX11_state_5 rfl rfl ?_
    refine ev_iload_n 7 dX11_state_6 rfl rfl ?_
    refine ev_iload_n 8 dX11_state_7 rfl rfl ?_
    refine ev_invV 11 (Mc := mX11_memoryOf) ⟨lk1189, lk75, hdX11_memoryOf, (Nat.le_of_ble_eq_true rfl), (Nat.le_of_ble_eq_true rfl)⟩ lk1186 lk1188 lk37 mm_cl11 rfl dX11_state_8 (hm) rfl (hV.1 0 _ rfl) (Nat.le_of_ble_eq_true rfl) rfl rfl ?_
    refine ev_astore 13 (lv' := [_, _, _, _, some (.int _), _]) dX11_state_11 (Nat.le_of_ble_eq_true rfl) rfl rfl ?_
    refine ev_aload 15 dX11_state_13 rfl rfl ?_
    refine ev_ifnonnull_r 23 dX11_state_15 (by decide) ?_
    refine ev_iload_n 24 dX11_state_23 rfl rfl ?_
    refine ev_tableIn 71 dX11_state_24 (by decide) (by decide) rfl (by decide) ?_
    refine ev_aload_n 72 dX11_state_71 rfl rfl ?_
    refine ev_aload 74 dX11_state_72 rfl rfl ?_
    refine ev_getP 77 mm_cl6 (j := 1) (Nat.le_of_ble_eq_true rfl) dX11_state_74 lk345 (fun _ _ _ => rfl) (hK.1 0 _ rfl) (a := (b + 2)) (hK.2.2.1 1 _ _ _ rfl) rfl ?_
    refine ev_bipushN 79 8 dX11_state_77 (by decide +kernel) rfl ?_
    refine ev_iload 81 dX11_state_79 rfl rfl ?_
    refine ev_invV 84 (Mc := mX11_entry) ⟨lk1181, lk75, hdX11_entry, (Nat.le_of_ble_eq_true rfl), (Nat.le_of_ble_eq_true rfl)⟩ lk1178 lk1180 lk36 mm_cl11 rfl dX11_state_81 (ct_entry_f (hK.1 2 _ rfl) hi hV) rfl (hV.1 0 _ rfl) (Nat.le_of_ble_eq_true rfl) rfl rfl ?_
    exact ev_iret dX11_state_84 rfl (rfl)
  · rw [if_neg (by omega)] at hi
    refine ct_of (lv := [some (.ref x), some (.int (c)), some (.int (s)), some (.int (nI (2))), some (.int (i)), none]) (by decide +kernel) (Nat.le_of_ble_eq_true rfl) rfl ?_
    refine ev_aload_n 1 dX11_state_0 rfl rfl ?_
    refine ev_iconstN 2 0 dX11_state_1 rfl ?_
    refine ev_putI 5 mm_cl11 (j := 9) (Nat.le_of_ble_eq_true rfl) dX11_state_2 lk270 rfl (fun _ _ _ => rfl) rfl rfl (hV.1 0 _ rfl) rfl ?_
    refine ev_aload_n 6 dX11_state_5 rfl rfl ?_
    refine ev_iload_n 7 dX11_state_6 rfl rfl ?_
    refine ev_iload_n 8 dX11_state_7 rfl rfl ?_
    refine ev_invV 11 (Mc := mX11_memoryOf) ⟨lk1189, lk75, hdX11_memoryOf, (Nat.le_of_ble_eq_true rfl), (Nat.le_of_ble_eq_true rfl)⟩ lk1186 lk1188 lk37 mm_cl11 rfl dX11_state_8 (hm) rfl (hV.1 0 _ rfl) (Nat.le_of_ble_eq_true rfl) rfl rfl ?_
    refine ev_astore 13 (lv' := [_, _, _, _, some (.int _), _]) dX11_state_11 (Nat.le_of_ble_eq_true rfl) rfl rfl ?_
    refine ev_aload 15 dX11_state_13 rfl rfl ?_
    refine ev_ifnonnull_r 23 dX11_state_15 (by decide) ?_
    refine ev_iload_n 24 dX11_state_23 rfl rfl ?_
    refine ev_tableIn 85 dX11_state_24 (by decide) (by decide) rfl (by decide) ?_
    refine ev_aload_n 86 dX11_state_85 rfl rfl ?_
    refine ev_aload 88 dX11_state_86 rfl rfl ?_
    refine ev_getP 91 mm_cl6 (j := 2) (Nat.le_of_ble_eq_true rfl) dX11_state_88 lk349 (fun _ _ _ => rfl) (hK.1 0 _ rfl) (a := (b + 3)) (hK.2.2.1 2 _ _ _ rfl) rfl ?_
    refine ev_bipushN 93 8 dX11_state_91 (by decide +kernel) rfl ?_
    refine ev_iload 95 dX11_state_93 rfl rfl ?_
    refine ev_invV 98 (Mc := mX11_entry) ⟨lk1181, lk75, hdX11_entry, (Nat.le_of_ble_eq_true rfl), (Nat.le_of_ble_eq_true rfl)⟩ lk1178 lk1180 lk36 mm_cl11 rfl dX11_state_95 (ct_entry_f (hK.1 3 _ rfl) hi hV) rfl (hV.1 0 _ rfl) (Nat.le_of_ble_eq_true rfl) rfl rfl ?_
    exact ev_iret dX11_state_98 rfl (rfl)
theorem cl_state_l {c s : Int32} {v : Int32} (hV : lyV B P x) (hK : lyK B P x b) (hxb : x + 22 ≤ b) (hm : Ct g mX11_memoryOf [.ref x, .int c, .int s] B (vz I x) J P (some (.ref b), B, vz I x, J, P)) (hv : I b 3 = v) : Ct g mX11_state [.ref x, .int c, .int s, .int (nI 3), .int (nI 0)] B I J P (some (.int v), B, vst I x (nI 0), J, P) := by
  refine ct_of (lv := [some (.ref x), some (.int (c)), some (.int (s)), some (.int (nI (3))), some (.int (nI (0))), none]) (by decide +kernel) (Nat.le_of_ble_eq_true rfl) rfl ?_
  refine ev_aload_n 1 dX11_state_0 rfl rfl ?_
  refine ev_iconstN 2 0 dX11_state_1 rfl ?_
  refine ev_putI 5 mm_cl11 (j := 9) (Nat.le_of_ble_eq_true rfl) dX11_state_2 lk270 rfl (fun _ _ _ => rfl) rfl rfl (hV.1 0 _ rfl) rfl ?_
  refine ev_aload_n 6 dX11_state_5 rfl rfl ?_
  refine ev_iload_n 7 dX11_state_6 rfl rfl ?_
  refine ev_iload_n 8 dX11_state_7 rfl rfl ?_
  refine ev_invV 11 (Mc := mX11_memoryOf) ⟨lk1189, lk75, hdX11_memoryOf, (Nat.le_of_ble_eq_true rfl), (Nat.le_of_ble_eq_true rfl)⟩ lk1186 lk1188 lk37 mm_cl11 rfl dX11_state_8 (hm) rfl (hV.1 0 _ rfl) (Nat.le_of_ble_eq_true rfl) rfl rfl ?_
  refine ev_astore 13 (lv' := [_, _, _, _, some (.int _), _]) dX11_state_11 (Nat.le_of_ble_eq_true rfl) rfl rfl ?_
  refine ev_aload 15 dX11_state_13 rfl rfl ?_
  refine ev_ifnonnull_r 23 dX11_state_15 (by decide) ?_
  refine ev_iload_n 24 dX11_state_23 rfl rfl ?_
  refine ev_tableIn 99 dX11_state_24 (by decide) (by decide) rfl (by decide) ?_
  refine ev_iload 101 dX11_state_99 rfl rfl ?_
  refine ev_if_neN 104 112 dX11_state_101 (by decide) (by omega) rfl (fun hx => absurd ((by omega)) hx) (fun hbr => ?_)
  refine ev_aload 106 dX11_state_104 rfl rfl ?_
  refine ev_getI 109 mm_cl6 (j := 3) (Nat.le_of_ble_eq_true rfl) dX11_state_106 lk353 (fun _ _ _ => rfl) (hK.1 0 _ rfl) rfl ?_
  refine ev_eqI (y := (v)) ((vzk hv (by omega))) ?_
  refine ev_goto 116 dX11_state_109 (by decide) ?_
  exact ev_iret dX11_state_116 rfl (rfl)
theorem cl_state_m {c s i : Int32} (hV : lyV B P x) (hK : lyK B P x b) (hm : Ct g mX11_memoryOf [.ref x, .int c, .int s] B (vz I x) J P (some (.ref b), B, vz I x, J, P)) (hi : ¬ i = 0) : Ct g mX11_state [.ref x, .int c, .int s, .int (nI 3), .int i] B I J P (some (.int (-2147483648)), B, vst I x (-1), J, P) := by
  refine ct_of (lv := [some (.ref x), some (.int (c)), some (.int (s)), some (.int (nI (3))), some (.int (i)), none]) (by decide +kernel) (Nat.le_of_ble_eq_true rfl) rfl ?_
  refine ev_aload_n 1 dX11_state_0 rfl rfl ?_
  refine ev_iconstN 2 0 dX11_state_1 rfl ?_
  refine ev_putI 5 mm_cl11 (j := 9) (Nat.le_of_ble_eq_true rfl) dX11_state_2 lk270 rfl (fun _ _ _ => rfl) rfl rfl (hV.1 0 _ rfl) rfl ?_
  refine ev_aload_n 6 dX11_state_5 rfl rfl ?_
  refine ev_iload_n 7 dX11_state_6 rfl rfl ?_
  refine ev_iload_n 8 dX11_state_7 rfl rfl ?_
  refine ev_invV 11 (Mc := mX11_memoryOf) ⟨lk1189, lk75, hdX11_memoryOf, (Nat.le_of_ble_eq_true rfl), (Nat.le_of_ble_eq_true rfl)⟩ lk1186 lk1188 lk37 mm_cl11 rfl dX11_state_8 (hm) rfl (hV.1 0 _ rfl) (Nat.le_of_ble_eq_true rfl) rfl rfl ?_
  refine ev_astore 13 (lv' := [_, _, _, _, some (.int _), _]) dX11_state_11 (Nat.le_of_ble_eq_true rfl) rfl rfl ?_
  refine ev_aload 15 dX11_state_13 rfl rfl ?_
  refine ev_ifnonnull_r 23 dX11_state_15 (by decide) ?_
  refine ev_iload_n 24 dX11_state_23 rfl rfl ?_
  refine ev_tableIn 99 dX11_state_24 (by decide) (by decide) rfl (by decide) ?_
  refine ev_iload 101 dX11_state_99 rfl rfl ?_
  refine ev_if_ne 104 112 dX11_state_101 (by decide) rfl (fun hbr => ?_) (fun hx => absurd hx (hi))
  refine ev_aload_n 113 dX11_state_112 rfl rfl ?_
  refine ev_invV 116 (Mc := mX11_unknown) ⟨lk1177, lk75, hdX11_unknown, (Nat.le_of_ble_eq_true rfl), (Nat.le_of_ble_eq_true rfl)⟩ lk1174 lk1176 lk35 mm_cl11 rfl dX11_state_113 (ct_unknown hV) rfl (hV.1 0 _ rfl) (Nat.le_of_ble_eq_true rfl) rfl rfl ?_
  exact ev_iret dX11_state_116 rfl (rfl)
theorem ml_state_f {c s w i : Int32} (hM : lyM B P m) (hn : I m 0 = nI n) (hc : ¬ (0 ≤ c ∧ c < nI n)) : Ct g mX12_state [.ref m, .int c, .int s, .int w, .int i] B I J P (some (.int (-2147483648)), B, mo_st I m (-1), J, P) := by
  refine ct_of (lv := [some (.ref m), some (.int (c)), some (.int (s)), some (.int (w)), some (.int (i)), none]) (by decide +kernel) (Nat.le_of_ble_eq_true rfl) rfl ?_
  refine ev_aload_n 1 dX12_state_0 rfl rfl ?_
  refine ev_iload_n 2 dX12_state_1 rfl rfl ?_
  refine ev_invV 5 (Mc := mX12_isCoder) ⟨lk1552, lk80, hdX12_isCoder, (Nat.le_of_ble_eq_true rfl), (Nat.le_of_ble_eq_true rfl)⟩ lk1549 lk1551 lk40 mm_cl12 rfl dX12_state_2 (ct_X12_isCoder_f hM (by rw [hn]; exact hc)) rfl (hM.1 0 _ rfl) (Nat.le_of_ble_eq_true rfl) rfl rfl ?_
  refine ev_if_eqN 8 56 dX12_state_5 (by decide) (by omega) rfl (fun hbr => ?_) (fun hx => absurd ((by omega)) hx)
  refine ev_aload_n 57 dX12_state_56 rfl rfl ?_
  refine ev_iconst 58 (v := -1) dX12_state_57 (by decide +kernel) rfl ?_
  refine ev_invV 61 (Mc := mX12_refusedNo) ⟨lk1714, lk80, hdX12_refusedNo, (Nat.le_of_ble_eq_true rfl), (Nat.le_of_ble_eq_true rfl)⟩ lk1711 lk1713 lk61 mm_cl12 rfl dX12_state_58 (ct_X12_refusedNo hM) rfl (hM.1 0 _ rfl) (Nat.le_of_ble_eq_true rfl) rfl rfl ?_
  exact ev_iret dX12_state_61 rfl (rfl)
theorem ml_state_s {s w i : Int32} (h : MA B I P m n k) (hs : ¬ (nI 0 ≤ s ∧ s ≤ nI 1)) : Ct g mX12_state [.ref m, .int (nI k), .int s, .int w, .int i] B I J P (some (.int (-2147483648)), B, mo_st I m (-1), J, P) := by
  obtain ⟨hM, hn, h8, hk⟩ := h
  refine ct_of (lv := [some (.ref m), some (.int (nI (k))), some (.int (s)), some (.int (w)), some (.int (i)), none]) (by decide +kernel) (Nat.le_of_ble_eq_true rfl) rfl ?_
  refine ev_aload_n 1 dX12_state_0 rfl rfl ?_
  refine ev_iload_n 2 dX12_state_1 rfl rfl ?_
  refine ev_invV 5 (Mc := mX12_isCoder) ⟨lk1552, lk80, hdX12_isCoder, (Nat.le_of_ble_eq_true rfl), (Nat.le_of_ble_eq_true rfl)⟩ lk1549 lk1551 lk40 mm_cl12 rfl dX12_state_2 (ct_X12_isCoder_t hM hn h8 hk) rfl (hM.1 0 _ rfl) (Nat.le_of_ble_eq_true rfl) rfl rfl ?_
  refine ev_if_eqN 8 56 dX12_state_5 (by decide) (by omega) rfl (fun hx => absurd hx ((by omega))) (fun hbr => ?_)
  refine ev_iload_n 9 dX12_state_8 rfl rfl ?_
  refine ev_iconstN 10 0 dX12_state_9 rfl ?_
  refine ev_iconstN 11 1 dX12_state_10 rfl ?_
  refine ev_invS 14 (Mc := mX12_in) ⟨lk1536, lk80, hdX12_in, (Nat.le_of_ble_eq_true rfl), (Nat.le_of_ble_eq_true rfl)⟩ lk1534 lk1535 dX12_state_11 (ct_X12_in_f hs) rfl (Nat.le_of_ble_eq_true rfl) rfl rfl ?_
  refine ev_if_eqN 17 56 dX12_state_14 (by decide) (by omega) rfl (fun hbr => ?_) (fun hx => absurd ((by omega)) hx)
  refine ev_aload_n 57 dX12_state_56 rfl rfl ?_
  refine ev_iconst 58 (v := -1) dX12_state_57 (by decide +kernel) rfl ?_
  refine ev_invV 61 (Mc := mX12_refusedNo) ⟨lk1714, lk80, hdX12_refusedNo, (Nat.le_of_ble_eq_true rfl), (Nat.le_of_ble_eq_true rfl)⟩ lk1711 lk1713 lk61 mm_cl12 rfl dX12_state_58 (ct_X12_refusedNo hM) rfl (hM.1 0 _ rfl) (Nat.le_of_ble_eq_true rfl) rfl rfl ?_
  exact ev_iret dX12_state_61 rfl (rfl)
theorem ml_state_w {s : Nat} {w i : Int32} (h : MA B I P m n k) (hs : s ≤ 1) (hw : ¬ (nI 0 ≤ w ∧ w ≤ nI 3)) : Ct g mX12_state [.ref m, .int (nI k), .int (nI s), .int w, .int i] B I J P (some (.int (-2147483648)), B, mo_st I m (-1), J, P) := by
  obtain ⟨hM, hn, h8, hk⟩ := h
  refine ct_of (lv := [some (.ref m), some (.int (nI (k))), some (.int (nI (s))), some (.int (w)), some (.int (i)), none]) (by decide +kernel) (Nat.le_of_ble_eq_true rfl) rfl ?_
  refine ev_aload_n 1 dX12_state_0 rfl rfl ?_
  refine ev_iload_n 2 dX12_state_1 rfl rfl ?_
  refine ev_invV 5 (Mc := mX12_isCoder) ⟨lk1552, lk80, hdX12_isCoder, (Nat.le_of_ble_eq_true rfl), (Nat.le_of_ble_eq_true rfl)⟩ lk1549 lk1551 lk40 mm_cl12 rfl dX12_state_2 (ct_X12_isCoder_t hM hn h8 hk) rfl (hM.1 0 _ rfl) (Nat.le_of_ble_eq_true rfl) rfl rfl ?_
  refine ev_if_eqN 8 56 dX12_state_5 (by decide) (by omega) rfl (fun hx => absurd hx ((by omega))) (fun hbr => ?_)
  refine ev_iload_n 9 dX12_state_8 rfl rfl ?_
  refine ev_iconstN 10 0 dX12_state_9 rfl ?_
  refine ev_iconstN 11 1 dX12_state_10 rfl ?_
  refine ev_invS 14 (Mc := mX12_in) ⟨lk1536, lk80, hdX12_in, (Nat.le_of_ble_eq_true rfl), (Nat.le_of_ble_eq_true rfl)⟩ lk1534 lk1535 dX12_state_11 (ct_X12_in_t (in_t (by omega) hs (by omega))) rfl (Nat.le_of_ble_eq_true rfl) rfl rfl ?_
  refine ev_if_eqN 17 56 dX12_state_14 (by decide) (by omega) rfl (fun hx => absurd hx ((by omega))) (fun hbr => ?_)
  refine ev_iload_n 18 dX12_state_17 rfl rfl ?_
  refine ev_iconstN 19 0 dX12_state_18 rfl ?_
  refine ev_iconstN 20 3 dX12_state_19 rfl ?_
  refine ev_invS 23 (Mc := mX12_in) ⟨lk1536, lk80, hdX12_in, (Nat.le_of_ble_eq_true rfl), (Nat.le_of_ble_eq_true rfl)⟩ lk1534 lk1535 dX12_state_20 (ct_X12_in_f hw) rfl (Nat.le_of_ble_eq_true rfl) rfl rfl ?_
  refine ev_if_eqN 26 56 dX12_state_23 (by decide) (by omega) rfl (fun hbr => ?_) (fun hx => absurd ((by omega)) hx)
  refine ev_aload_n 57 dX12_state_56 rfl rfl ?_
  refine ev_iconst 58 (v := -1) dX12_state_57 (by decide +kernel) rfl ?_
  refine ev_invV 61 (Mc := mX12_refusedNo) ⟨lk1714, lk80, hdX12_refusedNo, (Nat.le_of_ble_eq_true rfl), (Nat.le_of_ble_eq_true rfl)⟩ lk1711 lk1713 lk61 mm_cl12 rfl dX12_state_58 (ct_X12_refusedNo hM) rfl (hM.1 0 _ rfl) (Nat.le_of_ble_eq_true rfl) rfl rfl ?_
  exact ev_iret dX12_state_61 rfl (rfl)
theorem ml_state_e {s w : Nat} {i : Int32} (h : MA B I P m n k) (hs : s ≤ 1) (hw : w ≤ 3) (hi : ¬ (nI 0 ≤ i ∧ i ≤ nI (if w = 0 then 159 else if w = 3 then 0 else 7))) : Ct g mX12_state [.ref m, .int (nI k), .int (nI s), .int (nI w), .int i] B I J P (some (.int (-2147483648)), B, mo_st I m (-1), J, P) := by
  obtain ⟨hM, hn, h8, hk⟩ := h
  by_cases w0 : w = 0
  · rw [if_pos w0] at hi
    refine ct_of (lv := [some (.ref m), some (.int (nI (k))), some (.int (nI (s))), some (.int (nI (w))), some (.int (i)), none]) (by decide +kernel) (Nat.le_of_ble_eq_true rfl) rfl ?_
    refine ev_aload_n 1 dX12_state_0 rfl rfl ?_
    refine ev_iload_n 2 dX12_state_1 rfl rfl ?_
    refine ev_invV 5 (Mc := mX12_isCoder) ⟨lk1552, lk80, hdX12_isCoder, (Nat.le_of_ble_eq_true rfl), (Nat.le_of_ble_eq_true rfl)⟩ lk1549 lk1551 lk40 mm_cl12 rfl dX12_state_2 (ct_X12_isCoder_t hM hn h8 hk) rfl (hM.1 0 _ rfl) (Nat.le_of_ble_eq_true rfl) rfl rfl ?_
    refine ev_if_eqN 8 56 dX12_state_5 (by decide) (by omega) rfl (fun hx => absurd hx ((by omega))) (fun hbr => ?_)
    refine ev_iload_n 9 dX12_state_8 rfl rfl ?_
    refine ev_iconstN 10 0 dX12_state_9 rfl ?_
    refine ev_iconstN 11 1 dX12_state_10 rfl ?_
    refine ev_invS 14 (Mc := mX12_in) ⟨lk1536, lk80, hdX12_in, (Nat.le_of_ble_eq_true rfl), (Nat.le_of_ble_eq_true rfl)⟩ lk1534 lk1535 dX12_state_11 (ct_X12_in_t (in_t (by omega) hs (by omega))) rfl (Nat.le_of_ble_eq_true rfl) rfl rfl ?_
    refine ev_if_eqN 17 56 dX12_state_14 (by decide) (by omega) rfl (fun hx => absurd hx ((by omega))) (fun hbr => ?_)
    refine ev_iload_n 18 dX12_state_17 rfl rfl ?_
    refine ev_iconstN 19 0 dX12_state_18 rfl ?_
    refine ev_iconstN 20 3 dX12_state_19 rfl ?_
    refine ev_invS 23 (Mc := mX12_in) ⟨lk1536, lk80, hdX12_in, (Nat.le_of_ble_eq_true rfl), (Nat.le_of_ble_eq_true rfl)⟩ lk1534 lk1535 dX12_state_20 (ct_X12_in_t (in_t (by omega) hw (by omega))) rfl (Nat.le_of_ble_eq_true rfl) rfl rfl ?_
    refine ev_if_eqN 26 56 dX12_state_23 (by decide) (by omega) rfl (fun hx => absurd hx ((by omega))) (fun hbr => ?_)
    refine ev_iload 28 dX12_state_26 rfl rfl ?_
    refine ev_iconstN 29 0 dX12_state_28 rfl ?_
    refine ev_iload_n 30 dX12_state_29 rfl rfl ?_
    refine ev_if_neN 33 39 dX12_state_30 (by decide) (by omega) rfl (fun hx => absurd ((by omega)) hx) (fun hbr => ?_)
    refine ev_sipushN 36 159 dX12_state_33 (by decide +kernel) rfl ?_
    refine ev_goto 50 dX12_state_36 (by decide) ?_
    refine ev_invS 53 (Mc := mX12_in) ⟨lk1536, lk80, hdX12_in, (Nat.le_of_ble_eq_true rfl), (Nat.le_of_ble_eq_true rfl)⟩ lk1534 lk1535 dX12_state_50 (ct_X12_in_f hi) rfl (Nat.le_of_ble_eq_true rfl) rfl rfl ?_
    refine ev_if_neN 56 62 dX12_state_53 (by decide) (by omega) rfl (fun hx => absurd ((by omega)) hx) (fun hbr => ?_)
    refine ev_aload_n 57 dX12_state_56 rfl rfl ?_
    refine ev_iconst 58 (v := -1) dX12_state_57 (by decide +kernel) rfl ?_
    refine ev_invV 61 (Mc := mX12_refusedNo) ⟨lk1714, lk80, hdX12_refusedNo, (Nat.le_of_ble_eq_true rfl), (Nat.le_of_ble_eq_true rfl)⟩ lk1711 lk1713 lk61 mm_cl12 rfl dX12_state_58 (ct_X12_refusedNo hM) rfl (hM.1 0 _ rfl) (Nat.le_of_ble_eq_true rfl) rfl rfl ?_
    exact ev_iret dX12_state_61 rfl (rfl)
  · rw [if_neg w0] at hi
    by_cases w3 : w = 3
    · rw [if_pos w3] at hi
      refine ct_of (lv := [some (.ref m), some (.int (nI (k))), some (.int (nI (s))), some (.int (nI (w))), some (.int (i)), none]) (by decide +kernel) (Nat.le_of_ble_eq_true rfl) rfl ?_
      refine ev_aload_n 1 dX12_state_0 rfl rfl ?_
      refine ev_iload_n 2 dX12_state_1 rfl rfl ?_
      refine ev_invV 5 (Mc := mX12_isCoder) ⟨lk1552, lk80, hdX12_isCoder, (Nat.le_of_ble_eq_true rfl), (Nat.le_of_ble_eq_true rfl)⟩ lk1549 lk1551 lk40 mm_cl12 rfl dX12_state_2 (ct_X12_isCoder_t hM hn h8 hk) rfl (hM.1 0 _ rfl) (Nat.le_of_ble_eq_true rfl) rfl rfl ?_
      refine ev_if_eqN 8 56 dX12_state_5 (by decide) (by omega) rfl (fun hx => absurd hx ((by omega))) (fun hbr => ?_)
      refine ev_iload_n 9 dX12_state_8 rfl rfl ?_
      refine ev_iconstN 10 0 dX12_state_9 rfl ?_
      refine ev_iconstN 11 1 dX12_state_10 rfl ?_
      refine ev_invS 14 (Mc := mX12_in) ⟨lk1536, lk80, hdX12_in, (Nat.le_of_ble_eq_true rfl), (Nat.le_of_ble_eq_true rfl)⟩ lk1534 lk1535 dX12_state_11 (ct_X12_in_t (in_t (by omega) hs (by omega))) rfl (Nat.le_of_ble_eq_true rfl) rfl rfl ?_
      refine ev_if_eqN 17 56 dX12_state_14 (by decide) (by omega) rfl (fun hx => absurd hx ((by omega))) (fun hbr => ?_)
      refine ev_iload_n 18 dX12_state_17 rfl rfl ?_
      refine ev_iconstN 19 0 dX12_state_18 rfl ?_
      refine ev_iconstN 20 3 dX12_state_19 rfl ?_
      refine ev_invS 23 (Mc := mX12_in) ⟨lk1536, lk80, hdX12_in, (Nat.le_of_ble_eq_true rfl), (Nat.le_of_ble_eq_true rfl)⟩ lk1534 lk1535 dX12_state_20 (ct_X12_in_t (in_t (by omega) hw (by omega))) rfl (Nat.le_of_ble_eq_true rfl) rfl rfl ?_
      refine ev_if_eqN 26 56 dX12_state_23 (by decide) (by omega) rfl (fun hx => absurd hx ((by omega))) (fun hbr => ?_)
      refine ev_iload 28 dX12_state_26 rfl rfl ?_
      refine ev_iconstN 29 0 dX12_state_28 rfl ?_
      refine ev_iload_n 30 dX12_state_29 rfl rfl ?_
      refine ev_if_neN 33 39 dX12_state_30 (by decide) (by omega) rfl (fun hbr => ?_) (fun hx => absurd hx ((by omega)))
      refine ev_iload_n 40 dX12_state_39 rfl rfl ?_
      refine ev_iconstN 41 3 dX12_state_40 rfl ?_
      refine ev_icmp_neN 44 48 dX12_state_41 (by decide) (by omega) (by omega) rfl (fun hx => absurd ((by omega)) hx) (fun hbr => ?_)
      refine ev_iconstN 45 0 dX12_state_44 rfl ?_
      refine ev_goto 50 dX12_state_45 (by decide) ?_
      refine ev_invS 53 (Mc := mX12_in) ⟨lk1536, lk80, hdX12_in, (Nat.le_of_ble_eq_true rfl), (Nat.le_of_ble_eq_true rfl)⟩ lk1534 lk1535 dX12_state_50 (ct_X12_in_f hi) rfl (Nat.le_of_ble_eq_true rfl) rfl rfl ?_
      refine ev_if_neN 56 62 dX12_state_53 (by decide) (by omega) rfl (fun hx => absurd ((by omega)) hx) (fun hbr => ?_)
      refine ev_aload_n 57 dX12_state_56 rfl rfl ?_
      refine ev_iconst 58 (v := -1) dX12_state_57 (by decide +kernel) rfl ?_
      refine ev_invV 61 (Mc := mX12_refusedNo) ⟨lk1714, lk80, hdX12_refusedNo, (Nat.le_of_ble_eq_true rfl), (Nat.le_of_ble_eq_true rfl)⟩ lk1711 lk1713 lk61 mm_cl12 rfl dX12_state_58 (ct_X12_refusedNo hM) rfl (hM.1 0 _ rfl) (Nat.le_of_ble_eq_true rfl) rfl rfl ?_
      exact ev_iret dX12_state_61 rfl (rfl)
    · rw [if_neg w3] at hi
      refine ct_of (lv := [some (.ref m), some (.int (nI (k))), some (.int (nI (s))), some (.int (nI (w))), some (.int (i)), none]) (by decide +kernel) (Nat.le_of_ble_eq_true rfl) rfl ?_
      refine ev_aload_n 1 dX12_state_0 rfl rfl ?_
      refine ev_iload_n 2 dX12_state_1 rfl rfl ?_
      refine ev_invV 5 (Mc := mX12_isCoder) ⟨lk1552, lk80, hdX12_isCoder, (Nat.le_of_ble_eq_true rfl), (Nat.le_of_ble_eq_true rfl)⟩ lk1549 lk1551 lk40 mm_cl12 rfl dX12_state_2 (ct_X12_isCoder_t hM hn h8 hk) rfl (hM.1 0 _ rfl) (Nat.le_of_ble_eq_true rfl) rfl rfl ?_
      refine ev_if_eqN 8 56 dX12_state_5 (by decide) (by omega) rfl (fun hx => absurd hx ((by omega))) (fun hbr => ?_)
      refine ev_iload_n 9 dX12_state_8 rfl rfl ?_
      refine ev_iconstN 10 0 dX12_state_9 rfl ?_
      refine ev_iconstN 11 1 dX12_state_10 rfl ?_
      refine ev_invS 14 (Mc := mX12_in) ⟨lk1536, lk80, hdX12_in, (Nat.le_of_ble_eq_true rfl), (Nat.le_of_ble_eq_true rfl)⟩ lk1534 lk1535 dX12_state_11 (ct_X12_in_t (in_t (by omega) hs (by omega))) rfl (Nat.le_of_ble_eq_true rfl) rfl rfl ?_
      refine ev_if_eqN 17 56 dX12_state_14 (by decide) (by omega) rfl (fun hx => absurd hx ((by omega))) (fun hbr => ?_)
      refine ev_iload_n 18 dX12_state_17 rfl rfl ?_
      refine ev_iconstN 19 0 dX12_state_18 rfl ?_
      refine ev_iconstN 20 3 dX12_state_19 rfl ?_
      refine ev_invS 23 (Mc := mX12_in) ⟨lk1536, lk80, hdX12_in, (Nat.le_of_ble_eq_true rfl), (Nat.le_of_ble_eq_true rfl)⟩ lk1534 lk1535 dX12_state_20 (ct_X12_in_t (in_t (by omega) hw (by omega))) rfl (Nat.le_of_ble_eq_true rfl) rfl rfl ?_
      refine ev_if_eqN 26 56 dX12_state_23 (by decide) (by omega) rfl (fun hx => absurd hx ((by omega))) (fun hbr => ?_)
      refine ev_iload 28 dX12_state_26 rfl rfl ?_
      refine ev_iconstN 29 0 dX12_state_28 rfl ?_
      refine ev_iload_n 30 dX12_state_29 rfl rfl ?_
      refine ev_if_neN 33 39 dX12_state_30 (by decide) (by omega) rfl (fun hbr => ?_) (fun hx => absurd hx ((by omega)))
      refine ev_iload_n 40 dX12_state_39 rfl rfl ?_
      refine ev_iconstN 41 3 dX12_state_40 rfl ?_
      refine ev_icmp_neN 44 48 dX12_state_41 (by decide) (by omega) (by omega) rfl (fun hbr => ?_) (fun hx => absurd hx ((by omega)))
      refine ev_bipushN 50 7 dX12_state_48 (by decide +kernel) rfl ?_
      refine ev_invS 53 (Mc := mX12_in) ⟨lk1536, lk80, hdX12_in, (Nat.le_of_ble_eq_true rfl), (Nat.le_of_ble_eq_true rfl)⟩ lk1534 lk1535 dX12_state_50 (ct_X12_in_f hi) rfl (Nat.le_of_ble_eq_true rfl) rfl rfl ?_
      refine ev_if_neN 56 62 dX12_state_53 (by decide) (by omega) rfl (fun hx => absurd ((by omega)) hx) (fun hbr => ?_)
      refine ev_aload_n 57 dX12_state_56 rfl rfl ?_
      refine ev_iconst 58 (v := -1) dX12_state_57 (by decide +kernel) rfl ?_
      refine ev_invV 61 (Mc := mX12_refusedNo) ⟨lk1714, lk80, hdX12_refusedNo, (Nat.le_of_ble_eq_true rfl), (Nat.le_of_ble_eq_true rfl)⟩ lk1711 lk1713 lk61 mm_cl12 rfl dX12_state_58 (ct_X12_refusedNo hM) rfl (hM.1 0 _ rfl) (Nat.le_of_ble_eq_true rfl) rfl rfl ?_
      exact ev_iret dX12_state_61 rfl (rfl)
theorem ml_state_t {s w i : Nat} {v : Int32} (h : MA B I P m n k) (hs : s ≤ 1) (hw : w ≤ 3) (hi : i ≤ if w = 0 then 159 else if w = 3 then 0 else 7) (hv : (if w = 0 then I (m + 15) (160 * (2 * k + s) + i) else if w = 1 then I (m + 16) (8 * (2 * k + s) + i) else if w = 2 then I (m + 17) (8 * (2 * k + s) + i) else I (m + 18) (2 * k + s)) = v) : Ct g mX12_state [.ref m, .int (nI k), .int (nI s), .int (nI w), .int (nI i)] B I J P (some (.int v), B, mo_st I m (nI 0), J, P) := by
  obtain ⟨hM, hn, h8, hk⟩ := h
  by_cases w0 : w = 0
  · rw [if_pos w0] at hi hv
    refine ct_of (lv := [some (.ref m), some (.int (nI (k))), some (.int (nI (s))), some (.int (nI (w))), some (.int (nI (i))), none]) (by decide +kernel) (Nat.le_of_ble_eq_true rfl) rfl ?_
    refine ev_aload_n 1 dX12_state_0 rfl rfl ?_
    refine ev_iload_n 2 dX12_state_1 rfl rfl ?_
    refine ev_invV 5 (Mc := mX12_isCoder) ⟨lk1552, lk80, hdX12_isCoder, (Nat.le_of_ble_eq_true rfl), (Nat.le_of_ble_eq_true rfl)⟩ lk1549 lk1551 lk40 mm_cl12 rfl dX12_state_2 (ct_X12_isCoder_t hM hn h8 hk) rfl (hM.1 0 _ rfl) (Nat.le_of_ble_eq_true rfl) rfl rfl ?_
    refine ev_if_eqN 8 56 dX12_state_5 (by decide) (by omega) rfl (fun hx => absurd hx ((by omega))) (fun hbr => ?_)
    refine ev_iload_n 9 dX12_state_8 rfl rfl ?_
    refine ev_iconstN 10 0 dX12_state_9 rfl ?_
    refine ev_iconstN 11 1 dX12_state_10 rfl ?_
    refine ev_invS 14 (Mc := mX12_in) ⟨lk1536, lk80, hdX12_in, (Nat.le_of_ble_eq_true rfl), (Nat.le_of_ble_eq_true rfl)⟩ lk1534 lk1535 dX12_state_11 (ct_X12_in_t (in_t (by omega) hs (by omega))) rfl (Nat.le_of_ble_eq_true rfl) rfl rfl ?_
    refine ev_if_eqN 17 56 dX12_state_14 (by decide) (by omega) rfl (fun hx => absurd hx ((by omega))) (fun hbr => ?_)
    refine ev_iload_n 18 dX12_state_17 rfl rfl ?_
    refine ev_iconstN 19 0 dX12_state_18 rfl ?_
    refine ev_iconstN 20 3 dX12_state_19 rfl ?_
    refine ev_invS 23 (Mc := mX12_in) ⟨lk1536, lk80, hdX12_in, (Nat.le_of_ble_eq_true rfl), (Nat.le_of_ble_eq_true rfl)⟩ lk1534 lk1535 dX12_state_20 (ct_X12_in_t (in_t (by omega) hw (by omega))) rfl (Nat.le_of_ble_eq_true rfl) rfl rfl ?_
    refine ev_if_eqN 26 56 dX12_state_23 (by decide) (by omega) rfl (fun hx => absurd hx ((by omega))) (fun hbr => ?_)
    refine ev_iload 28 dX12_state_26 rfl rfl ?_
    refine ev_iconstN 29 0 dX12_state_28 rfl ?_
    refine ev_iload_n 30 dX12_state_29 rfl rfl ?_
    refine ev_if_neN 33 39 dX12_state_30 (by decide) (by omega) rfl (fun hx => absurd ((by omega)) hx) (fun hbr => ?_)
    refine ev_sipushN 36 159 dX12_state_33 (by decide +kernel) rfl ?_
    refine ev_goto 50 dX12_state_36 (by decide) ?_
    refine ev_invS 53 (Mc := mX12_in) ⟨lk1536, lk80, hdX12_in, (Nat.le_of_ble_eq_true rfl), (Nat.le_of_ble_eq_true rfl)⟩ lk1534 lk1535 dX12_state_50 (ct_X12_in_t (in_t (by omega) hi (by omega))) rfl (Nat.le_of_ble_eq_true rfl) rfl rfl ?_
    refine ev_if_neN 56 62 dX12_state_53 (by decide) (by omega) rfl (fun hbr => ?_) (fun hx => absurd hx ((by omega)))
    refine ev_iconstN 63 2 dX12_state_62 rfl ?_
    refine ev_iload_n 64 dX12_state_63 rfl rfl ?_
    refine ev_imulN 65 dX12_state_64 rfl ?_
    refine ev_iload_n 66 dX12_state_65 rfl rfl ?_
    refine ev_iaddN 67 dX12_state_66 rfl ?_
    refine ev_istore 69 (lv' := [_, _, _, _, some (.int _), _]) dX12_state_67 (Nat.le_of_ble_eq_true rfl) rfl rfl ?_
    refine ev_aload_n 70 dX12_state_69 rfl rfl ?_
    refine ev_iload_n 71 dX12_state_70 rfl rfl ?_
    refine ev_if_neN 74 91 dX12_state_71 (by decide) (by omega) rfl (fun hx => absurd ((by omega)) hx) (fun hbr => ?_)
    refine ev_aload_n 75 dX12_state_74 rfl rfl ?_
    refine ev_getP 78 mm_cl12 (j := 20) (Nat.le_of_ble_eq_true rfl) dX12_state_75 lk1305 (fun _ _ _ => rfl) (hM.1 0 _ rfl) (a := (m + 15)) (hM.2.2 14 _ _ _ rfl) rfl ?_
    refine ev_sipushN 81 160 dX12_state_78 (by decide +kernel) rfl ?_
    refine ev_iload 83 dX12_state_81 rfl rfl ?_
    refine ev_imulN 84 dX12_state_83 rfl ?_
    refine ev_iload 86 dX12_state_84 rfl rfl ?_
    refine ev_iaddN 87 dX12_state_86 rfl ?_
    refine ev_iald 88 _ dX12_state_87 (hM.1 15 _ rfl) rfl (by have hNN := hM.2.1 15 _ rfl; omega) rfl ?_
    refine ev_eqI (y := (v)) (hv) ?_
    refine ev_goto 140 dX12_state_88 (by decide) ?_
    refine ev_invV 143 (Mc := mX12_done) ⟨lk1544, lk80, hdX12_done, (Nat.le_of_ble_eq_true rfl), (Nat.le_of_ble_eq_true rfl)⟩ lk1541 lk1543 lk39 mm_cl12 rfl dX12_state_140 (ct_X12_done hM) rfl (hM.1 0 _ rfl) (Nat.le_of_ble_eq_true rfl) rfl rfl ?_
    exact ev_iret dX12_state_143 rfl (rfl)
  · rw [if_neg w0] at hi hv
    by_cases w3 : w = 3
    · rw [if_pos w3] at hi
      rw [if_neg (by omega), if_neg (by omega)] at hv
      refine ct_of (lv := [some (.ref m), some (.int (nI (k))), some (.int (nI (s))), some (.int (nI (w))), some (.int (nI (i))), none]) (by decide +kernel) (Nat.le_of_ble_eq_true rfl) rfl ?_
      refine ev_aload_n 1 dX12_state_0 rfl rfl ?_
      refine ev_iload_n 2 dX12_state_1 rfl rfl ?_
      refine ev_invV 5 (Mc := mX12_isCoder) ⟨lk1552, lk80, hdX12_isCoder, (Nat.le_of_ble_eq_true rfl), (Nat.le_of_ble_eq_true rfl)⟩ lk1549 lk1551 lk40 mm_cl12 rfl dX12_state_2 (ct_X12_isCoder_t hM hn h8 hk) rfl (hM.1 0 _ rfl) (Nat.le_of_ble_eq_true rfl) rfl rfl ?_
      refine ev_if_eqN 8 56 dX12_state_5 (by decide) (by omega) rfl (fun hx => absurd hx ((by omega))) (fun hbr => ?_)
      refine ev_iload_n 9 dX12_state_8 rfl rfl ?_
      refine ev_iconstN 10 0 dX12_state_9 rfl ?_
      refine ev_iconstN 11 1 dX12_state_10 rfl ?_
      refine ev_invS 14 (Mc := mX12_in) ⟨lk1536, lk80, hdX12_in, (Nat.le_of_ble_eq_true rfl), (Nat.le_of_ble_eq_true rfl)⟩ lk1534 lk1535 dX12_state_11 (ct_X12_in_t (in_t (by omega) hs (by omega))) rfl (Nat.le_of_ble_eq_true rfl) rfl rfl ?_
      refine ev_if_eqN 17 56 dX12_state_14 (by decide) (by omega) rfl (fun hx => absurd hx ((by omega))) (fun hbr => ?_)
      refine ev_iload_n 18 dX12_state_17 rfl rfl ?_
      refine ev_iconstN 19 0 dX12_state_18 rfl ?_
      refine ev_iconstN 20 3 dX12_state_19 rfl ?_
      refine ev_invS 23 (Mc := mX12_in) ⟨lk1536, lk80, hdX12_in, (Nat.le_of_ble_eq_true rfl), (Nat.le_of_ble_eq_true rfl)⟩ lk1534 lk1535 dX12_state_20 (ct_X12_in_t (in_t (by omega) hw (by omega))) rfl (Nat.le_of_ble_eq_true rfl) rfl rfl ?_
      refine ev_if_eqN 26 56 dX12_state_23 (by decide) (by omega) rfl (fun hx => absurd hx ((by omega))) (fun hbr => ?_)
      refine ev_iload 28 dX12_state_26 rfl rfl ?_
      refine ev_iconstN 29 0 dX12_state_28 rfl ?_
      refine ev_iload_n 30 dX12_state_29 rfl rfl ?_
      refine ev_if_neN 33 39 dX12_state_30 (by decide) (by omega) rfl (fun hbr => ?_) (fun hx => absurd hx ((by omega)))
      refine ev_iload_n 40 dX12_state_39 rfl rfl ?_
      refine ev_iconstN 41 3 dX12_state_40 rfl ?_
      refine ev_icmp_neN 44 48 dX12_state_41 (by decide) (by omega) (by omega) rfl (fun hx => absurd ((by omega)) hx) (fun hbr => ?_)
      refine ev_iconstN 45 0 dX12_state_44 rfl ?_
      refine ev_goto 50 dX12_state_45 (by decide) ?_
      refine ev_invS 53 (Mc := mX12_in) ⟨lk1536, lk80, hdX12_in, (Nat.le_of_ble_eq_true rfl), (Nat.le_of_ble_eq_true rfl)⟩ lk1534 lk1535 dX12_state_50 (ct_X12_in_t (in_t (by omega) hi (by omega))) rfl (Nat.le_of_ble_eq_true rfl) rfl rfl ?_
      refine ev_if_neN 56 62 dX12_state_53 (by decide) (by omega) rfl (fun hbr => ?_) (fun hx => absurd hx ((by omega)))
      refine ev_iconstN 63 2 dX12_state_62 rfl ?_
      refine ev_iload_n 64 dX12_state_63 rfl rfl ?_
      refine ev_imulN 65 dX12_state_64 rfl ?_
      refine ev_iload_n 66 dX12_state_65 rfl rfl ?_
      refine ev_iaddN 67 dX12_state_66 rfl ?_
      refine ev_istore 69 (lv' := [_, _, _, _, some (.int _), _]) dX12_state_67 (Nat.le_of_ble_eq_true rfl) rfl rfl ?_
      refine ev_aload_n 70 dX12_state_69 rfl rfl ?_
      refine ev_iload_n 71 dX12_state_70 rfl rfl ?_
      refine ev_if_neN 74 91 dX12_state_71 (by decide) (by omega) rfl (fun hbr => ?_) (fun hx => absurd hx ((by omega)))
      refine ev_iload_n 92 dX12_state_91 rfl rfl ?_
      refine ev_iconstN 93 1 dX12_state_92 rfl ?_
      refine ev_icmp_neN 96 112 dX12_state_93 (by decide) (by omega) (by omega) rfl (fun hbr => ?_) (fun hx => absurd hx ((by omega)))
      refine ev_iload_n 113 dX12_state_112 rfl rfl ?_
      refine ev_iconstN 114 2 dX12_state_113 rfl ?_
      refine ev_icmp_neN 117 133 dX12_state_114 (by decide) (by omega) (by omega) rfl (fun hbr => ?_) (fun hx => absurd hx ((by omega)))
      refine ev_aload_n 134 dX12_state_133 rfl rfl ?_
      refine ev_getP 137 mm_cl12 (j := 23) (Nat.le_of_ble_eq_true rfl) dX12_state_134 lk1308 (fun _ _ _ => rfl) (hM.1 0 _ rfl) (a := (m + 18)) (hM.2.2 17 _ _ _ rfl) rfl ?_
      refine ev_iload 139 dX12_state_137 rfl rfl ?_
      refine ev_iald 140 _ dX12_state_139 (hM.1 18 _ rfl) rfl (by have hNN := hM.2.1 18 _ rfl; omega) rfl ?_
      refine ev_eqI (y := (v)) (hv) ?_
      refine ev_invV 143 (Mc := mX12_done) ⟨lk1544, lk80, hdX12_done, (Nat.le_of_ble_eq_true rfl), (Nat.le_of_ble_eq_true rfl)⟩ lk1541 lk1543 lk39 mm_cl12 rfl dX12_state_140 (ct_X12_done hM) rfl (hM.1 0 _ rfl) (Nat.le_of_ble_eq_true rfl) rfl rfl ?_
      exact ev_iret dX12_state_143 rfl (rfl)
    · rw [if_neg w3] at hi
      by_cases w1 : w = 1
      · rw [if_pos w1] at hv
        refine ct_of (lv := [some (.ref m), some (.int (nI (k))), some (.int (nI (s))), some (.int (nI (w))), some (.int (nI (i))), none]) (by decide +kernel) (Nat.le_of_ble_eq_true rfl) rfl ?_
        refine ev_aload_n 1 dX12_state_0 rfl rfl ?_
        refine ev_iload_n 2 dX12_state_1 rfl rfl ?_
        refine ev_invV 5 (Mc := mX12_isCoder) ⟨lk1552, lk80, hdX12_isCoder, (Nat.le_of_ble_eq_true rfl), (Nat.le_of_ble_eq_true rfl)⟩ lk1549 lk1551 lk40 mm_cl12 rfl dX12_state_2 (ct_X12_isCoder_t hM hn h8 hk) rfl (hM.1 0 _ rfl) (Nat.le_of_ble_eq_true rfl) rfl rfl ?_
        refine ev_if_eqN 8 56 dX12_state_5 (by decide) (by omega) rfl (fun hx => absurd hx ((by omega))) (fun hbr => ?_)
        refine ev_iload_n 9 dX12_state_8 rfl rfl ?_
        refine ev_iconstN 10 0 dX12_state_9 rfl ?_
        refine ev_iconstN 11 1 dX12_state_10 rfl ?_
        refine ev_invS 14 (Mc := mX12_in) ⟨lk1536, lk80, hdX12_in, (Nat.le_of_ble_eq_true rfl), (Nat.le_of_ble_eq_true rfl)⟩ lk1534 lk1535 dX12_state_11 (ct_X12_in_t (in_t (by omega) hs (by omega))) rfl (Nat.le_of_ble_eq_true rfl) rfl rfl ?_
        refine ev_if_eqN 17 56 dX12_state_14 (by decide) (by omega) rfl (fun hx => absurd hx ((by omega))) (fun hbr => ?_)
        refine ev_iload_n 18 dX12_state_17 rfl rfl ?_
        refine ev_iconstN 19 0 dX12_state_18 rfl ?_
        refine ev_iconstN 20 3 dX12_state_19 rfl ?_
        refine ev_invS 23 (Mc := mX12_in) ⟨lk1536, lk80, hdX12_in, (Nat.le_of_ble_eq_true rfl), (Nat.le_of_ble_eq_true rfl)⟩ lk1534 lk1535 dX12_state_20 (ct_X12_in_t (in_t (by omega) hw (by omega))) rfl (Nat.le_of_ble_eq_true rfl) rfl rfl ?_
        refine ev_if_eqN 26 56 dX12_state_23 (by decide) (by omega) rfl (fun hx => absurd hx ((by omega))) (fun hbr => ?_)
        refine ev_iload 28 dX12_state_26 rfl rfl ?_
        refine ev_iconstN 29 0 dX12_state_28 rfl ?_
        refine ev_iload_n 30 dX12_state_29 rfl rfl ?_
        refine ev_if_neN 33 39 dX12_state_30 (by decide) (by omega) rfl (fun hbr => ?_) (fun hx => absurd hx ((by omega)))
        refine ev_iload_n 40 dX12_state_39 rfl rfl ?_
        refine ev_iconstN 41 3 dX12_state_40 rfl ?_
        refine ev_icmp_neN 44 48 dX12_state_41 (by decide) (by omega) (by omega) rfl (fun hbr => ?_) (fun hx => absurd hx ((by omega)))
        refine ev_bipushN 50 7 dX12_state_48 (by decide +kernel) rfl ?_
        refine ev_invS 53 (Mc := mX12_in) ⟨lk1536, lk80, hdX12_in, (Nat.le_of_ble_eq_true rfl), (Nat.le_of_ble_eq_true rfl)⟩ lk1534 lk1535 dX12_state_50 (ct_X12_in_t (in_t (by omega) hi (by omega))) rfl (Nat.le_of_ble_eq_true rfl) rfl rfl ?_
        refine ev_if_neN 56 62 dX12_state_53 (by decide) (by omega) rfl (fun hbr => ?_) (fun hx => absurd hx ((by omega)))
        refine ev_iconstN 63 2 dX12_state_62 rfl ?_
        refine ev_iload_n 64 dX12_state_63 rfl rfl ?_
        refine ev_imulN 65 dX12_state_64 rfl ?_
        refine ev_iload_n 66 dX12_state_65 rfl rfl ?_
        refine ev_iaddN 67 dX12_state_66 rfl ?_
        refine ev_istore 69 (lv' := [_, _, _, _, some (.int _), _]) dX12_state_67 (Nat.le_of_ble_eq_true rfl) rfl rfl ?_
        refine ev_aload_n 70 dX12_state_69 rfl rfl ?_
        refine ev_iload_n 71 dX12_state_70 rfl rfl ?_
        refine ev_if_neN 74 91 dX12_state_71 (by decide) (by omega) rfl (fun hbr => ?_) (fun hx => absurd hx ((by omega)))
        refine ev_iload_n 92 dX12_state_91 rfl rfl ?_
        refine ev_iconstN 93 1 dX12_state_92 rfl ?_
        refine ev_icmp_neN 96 112 dX12_state_93 (by decide) (by omega) (by omega) rfl (fun hx => absurd ((by omega)) hx) (fun hbr => ?_)
        refine ev_aload_n 97 dX12_state_96 rfl rfl ?_
        refine ev_getP 100 mm_cl12 (j := 21) (Nat.le_of_ble_eq_true rfl) dX12_state_97 lk1306 (fun _ _ _ => rfl) (hM.1 0 _ rfl) (a := (m + 16)) (hM.2.2 15 _ _ _ rfl) rfl ?_
        refine ev_bipushN 102 8 dX12_state_100 (by decide +kernel) rfl ?_
        refine ev_iload 104 dX12_state_102 rfl rfl ?_
        refine ev_imulN 105 dX12_state_104 rfl ?_
        refine ev_iload 107 dX12_state_105 rfl rfl ?_
        refine ev_iaddN 108 dX12_state_107 rfl ?_
        refine ev_iald 109 _ dX12_state_108 (hM.1 16 _ rfl) rfl (by have hNN := hM.2.1 16 _ rfl; omega) rfl ?_
        refine ev_eqI (y := (v)) (hv) ?_
        refine ev_goto 140 dX12_state_109 (by decide) ?_
        refine ev_invV 143 (Mc := mX12_done) ⟨lk1544, lk80, hdX12_done, (Nat.le_of_ble_eq_true rfl), (Nat.le_of_ble_eq_true rfl)⟩ lk1541 lk1543 lk39 mm_cl12 rfl dX12_state_140 (ct_X12_done hM) rfl (hM.1 0 _ rfl) (Nat.le_of_ble_eq_true rfl) rfl rfl ?_
        exact ev_iret dX12_state_143 rfl (rfl)
      · rw [if_neg w1, if_pos (by omega)] at hv
        refine ct_of (lv := [some (.ref m), some (.int (nI (k))), some (.int (nI (s))), some (.int (nI (w))), some (.int (nI (i))), none]) (by decide +kernel) (Nat.le_of_ble_eq_true rfl) rfl ?_
        refine ev_aload_n 1 dX12_state_0 rfl rfl ?_
        refine ev_iload_n 2 dX12_state_1 rfl rfl ?_
        refine ev_invV 5 (Mc := mX12_isCoder) ⟨lk1552, lk80, hdX12_isCoder, (Nat.le_of_ble_eq_true rfl), (Nat.le_of_ble_eq_true rfl)⟩ lk1549 lk1551 lk40 mm_cl12 rfl dX12_state_2 (ct_X12_isCoder_t hM hn h8 hk) rfl (hM.1 0 _ rfl) (Nat.le_of_ble_eq_true rfl) rfl rfl ?_
        refine ev_if_eqN 8 56 dX12_state_5 (by decide) (by omega) rfl (fun hx => absurd hx ((by omega))) (fun hbr => ?_)
        refine ev_iload_n 9 dX12_state_8 rfl rfl ?_
        refine ev_iconstN 10 0 dX12_state_9 rfl ?_
        refine ev_iconstN 11 1 dX12_state_10 rfl ?_
        refine ev_invS 14 (Mc := mX12_in) ⟨lk1536, lk80, hdX12_in, (Nat.le_of_ble_eq_true rfl), (Nat.le_of_ble_eq_true rfl)⟩ lk1534 lk1535 dX12_state_11 (ct_X12_in_t (in_t (by omega) hs (by omega))) rfl (Nat.le_of_ble_eq_true rfl) rfl rfl ?_
        refine ev_if_eqN 17 56 dX12_state_14 (by decide) (by omega) rfl (fun hx => absurd hx ((by omega))) (fun hbr => ?_)
        refine ev_iload_n 18 dX12_state_17 rfl rfl ?_
        refine ev_iconstN 19 0 dX12_state_18 rfl ?_
        refine ev_iconstN 20 3 dX12_state_19 rfl ?_
        refine ev_invS 23 (Mc := mX12_in) ⟨lk1536, lk80, hdX12_in, (Nat.le_of_ble_eq_true rfl), (Nat.le_of_ble_eq_true rfl)⟩ lk1534 lk1535 dX12_state_20 (ct_X12_in_t (in_t (by omega) hw (by omega))) rfl (Nat.le_of_ble_eq_true rfl) rfl rfl ?_
        refine ev_if_eqN 26 56 dX12_state_23 (by decide) (by omega) rfl (fun hx => absurd hx ((by omega))) (fun hbr => ?_)
        refine ev_iload 28 dX12_state_26 rfl rfl ?_
        refine ev_iconstN 29 0 dX12_state_28 rfl ?_
        refine ev_iload_n 30 dX12_state_29 rfl rfl ?_
        refine ev_if_neN 33 39 dX12_state_30 (by decide) (by omega) rfl (fun hbr => ?_) (fun hx => absurd hx ((by omega)))
        refine ev_iload_n 40 dX12_state_39 rfl rfl ?_
        refine ev_iconstN 41 3 dX12_state_40 rfl ?_
        refine ev_icmp_neN 44 48 dX12_state_41 (by decide) (by omega) (by omega) rfl (fun hbr => ?_) (fun hx => absurd hx ((by omega)))
        refine ev_bipushN 50 7 dX12_state_48 (by decide +kernel) rfl ?_
        refine ev_invS 53 (Mc := mX12_in) ⟨lk1536, lk80, hdX12_in, (Nat.le_of_ble_eq_true rfl), (Nat.le_of_ble_eq_true rfl)⟩ lk1534 lk1535 dX12_state_50 (ct_X12_in_t (in_t (by omega) hi (by omega))) rfl (Nat.le_of_ble_eq_true rfl) rfl rfl ?_
        refine ev_if_neN 56 62 dX12_state_53 (by decide) (by omega) rfl (fun hbr => ?_) (fun hx => absurd hx ((by omega)))
        refine ev_iconstN 63 2 dX12_state_62 rfl ?_
        refine ev_iload_n 64 dX12_state_63 rfl rfl ?_
        refine ev_imulN 65 dX12_state_64 rfl ?_
        refine ev_iload_n 66 dX12_state_65 rfl rfl ?_
        refine ev_iaddN 67 dX12_state_66 rfl ?_
        refine ev_istore 69 (lv' := [_, _, _, _, some (.int _), _]) dX12_state_67 (Nat.le_of_ble_eq_true rfl) rfl rfl ?_
        refine ev_aload_n 70 dX12_state_69 rfl rfl ?_
        refine ev_iload_n 71 dX12_state_70 rfl rfl ?_
        refine ev_if_neN 74 91 dX12_state_71 (by decide) (by omega) rfl (fun hbr => ?_) (fun hx => absurd hx ((by omega)))
        refine ev_iload_n 92 dX12_state_91 rfl rfl ?_
        refine ev_iconstN 93 1 dX12_state_92 rfl ?_
        refine ev_icmp_neN 96 112 dX12_state_93 (by decide) (by omega) (by omega) rfl (fun hbr => ?_) (fun hx => absurd hx ((by omega)))
        refine ev_iload_n 113 dX12_state_112 rfl rfl ?_
        refine ev_iconstN 114 2 dX12_state_113 rfl ?_
        refine ev_icmp_neN 117 133 dX12_state_114 (by decide) (by omega) (by omega) rfl (fun hx => absurd ((by omega)) hx) (fun hbr => ?_)
        refine ev_aload_n 118 dX12_state_117 rfl rfl ?_
        refine ev_getP 121 mm_cl12 (j := 22) (Nat.le_of_ble_eq_true rfl) dX12_state_118 lk1307 (fun _ _ _ => rfl) (hM.1 0 _ rfl) (a := (m + 17)) (hM.2.2 16 _ _ _ rfl) rfl ?_
        refine ev_bipushN 123 8 dX12_state_121 (by decide +kernel) rfl ?_
        refine ev_iload 125 dX12_state_123 rfl rfl ?_
        refine ev_imulN 126 dX12_state_125 rfl ?_
        refine ev_iload 128 dX12_state_126 rfl rfl ?_
        refine ev_iaddN 129 dX12_state_128 rfl ?_
        refine ev_iald 130 _ dX12_state_129 (hM.1 17 _ rfl) rfl (by have hNN := hM.2.1 17 _ rfl; omega) rfl ?_
        refine ev_eqI (y := (v)) (hv) ?_
        refine ev_goto 140 dX12_state_130 (by decide) ?_
        refine ev_invV 143 (Mc := mX12_done) ⟨lk1544, lk80, hdX12_done, (Nat.le_of_ble_eq_true rfl), (Nat.le_of_ble_eq_true rfl)⟩ lk1541 lk1543 lk39 mm_cl12 rfl dX12_state_140 (ct_X12_done hM) rfl (hM.1 0 _ rfl) (Nat.le_of_ble_eq_true rfl) rfl rfl ?_
        exact ev_iret dX12_state_143 rfl (rfl)
end RF0
