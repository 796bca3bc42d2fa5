/-! lines -/
/-- over the i-th -/
def sk (i k : Nat) : Nat := if k < i then k else k + 1
def sp_lt' (v nx : Int32) : Prop := ¬ ((v - nx) &&& nI 65535) < nI 32768
/-- what stays when the late ones of the first d are taken out: how many, and which -/
def sp_rl (lab : Nat → Int32) (nx : Int32) : Nat → Nat × (Nat → Nat) → Nat × (Nat → Nat)
  | 0, q => q
  | d + 1, q => sp_rl lab nx d (if ((lab (q.2 d) - nx) &&& nI 65535) < nI 32768 then q else (q.1 - 1, fun k => q.2 (sk d k)))
def sl_ok (L : Nat) (q : Nat × (Nat → Nat)) : Prop := q.1 ≤ L ∧ (∀ k, k < q.1 → q.2 k < L) ∧ ∀ j k, j < k → k < q.1 → q.2 j < q.2 k
theorem sl_sk {L i : Nat} {q : Nat × (Nat → Nat)} (h : sl_ok L q) (hi : i < q.1) : sl_ok L (q.1 - 1, fun k => q.2 (sk i k)) := by
  refine ⟨by have := h.1; show q.1 - 1 ≤ L; omega, fun k hk => h.2.1 _ ?_, fun j k hj hk => h.2.2 _ _ ?_ ?_⟩
  · have hk' : k < q.1 - 1 := hk
    unfold sk; split <;> omega
  · unfold sk; split <;> split <;> omega
  · have hk' : k < q.1 - 1 := hk
    unfold sk; split <;> omega
theorem sl_id (L : Nat) : sl_ok L (L, fun k => k) := ⟨Nat.le_refl _, fun k hk => hk, fun j k hj hk => hj⟩
theorem sp_rl_ok {lab : Nat → Int32} {nx : Int32} {L : Nat} : ∀ (d : Nat) (q : Nat × (Nat → Nat)), d ≤ q.1 → sl_ok L q → sl_ok L (sp_rl lab nx d q) ∧ (sp_rl lab nx d q).1 ≤ q.1 := by
  intro d
  induction d with
  | zero => intro q _ h; exact ⟨h, Nat.le_refl _⟩
  | succ d ih =>
    intro q hd h
    unfold sp_rl
    split
    · exact ih q (by omega) h
    · have e := ih (q.1 - 1, fun k => q.2 (sk d k)) (by show d ≤ q.1 - 1; omega) (sl_sk h (by omega))
      exact ⟨e.1, Nat.le_trans e.2 (by show q.1 - 1 ≤ q.1; omega)⟩
theorem nI_m1 (a : Nat) : nI a + Int32.ofInt (-1) = nI a - nI 1 := by
  rw [Int32.sub_eq_add_neg]; rfl
theorem nI_s1 (a : Nat) : nI (a + 1) - nI 1 = nI a := by
  rw [← nI_add a 1, Int32.add_sub_cancel]
theorem nI_01 : (nI 0 - nI 1 : Int32) < 0 := by decide
theorem lyC_P3 {B : mm_B} {P : mm_TP} {x o : Nat} {F : Nat → Option Nat} (h : lyC B P x o) : lyC B (va_up P (o + 3) F) x o := by
  have key : ∀ {b c : Nat} {PL : List (Nat × Nat × Nat)}, PL.all (fun r => decide (r.1 ≠ 3)) = true → ly_P P o c PL → ly_P (va_up P (o + 3) F) o c PL := fun {b c PL} ha h i k j t' e => by
    have hk := List.all_eq_true.mp ha _ (List.mem_of_getElem? e)
    have hk' : k ≠ 3 := by simpa using hk
    rw [va_up_n _ _ (by omega)]; exact h i k j t' e
  exact ⟨h.1, h.2.1, key (b := 0) (by decide) h.2.2.1, key (b := 0) (by decide) h.2.2.2⟩
section VLN
variable {g : mm_G} {B : mm_B} {I : mm_TI} {J : mm_TJ} {P : mm_TP} {x o : Nat}
theorem ct_X5_isFull {n : Nat} (hC : lyC B P x o) (hs : I (o + 2) 1 = nI n) (hn : n ≤ 250) : Ct g mX5_isFull [.ref (o + 2)] B I J P (some (.int (nI (if n = 250 then 1 else 0))), B, I, J, P) := by
  refine ct_of (lv := [some (.ref (o + 2))]) (by decide +kernel) (Nat.le_of_ble_eq_true rfl) rfl ?_
  refine ev_aload_n 1 dX5_isFull_0 rfl rfl ?_
  refine ev_getI 4 mm_cl5 (j := 1) (Nat.le_of_ble_eq_true rfl) dX5_isFull_1 lk319 (fun _ _ _ => rfl) (hC.1 2 _ rfl) rfl ?_
  refine ev_eqI (y := nI (n)) (hs) ?_
  refine ev_sipushN 7 250 dX5_isFull_4 (by decide +kernel) rfl ?_
  refine ev_icmp_ltN 10 14 dX5_isFull_7 (by decide) (by omega) (by omega) rfl (fun hz => ?_) (fun hz => ?_)
  · rw [if_neg (by omega)]
    refine ev_iconstN 15 0 dX5_isFull_14 rfl ?_
    exact ev_zret dX5_isFull_15 rfl (by first | rfl | assumption) (rfl)
  · rw [if_pos (by omega)]
    refine ev_iconstN 11 1 dX5_isFull_10 rfl ?_
    refine ev_goto 15 dX5_isFull_11 (by decide) ?_
    exact ev_zret dX5_isFull_15 rfl (by first | rfl | assumption) (rfl)
theorem lx_X5_remove {n i : Nat} {φ : Nat → Nat} (hC : lyC B P x o) (hn : n ≤ 250) (hi : i < n) (hs : I (o + 2) 1 = nI (n - 1)) (hφ : ∀ k, k < n → P (o + 3) k = some (φ k) ∧ mm_T B (φ k) = 104) : ∀ (d j : Nat), i ≤ j → j + d = n - 1 → ∀ F : Nat → Option Nat, (∀ k, k < n → F k = if i ≤ k ∧ k < j then some (φ (k + 1)) else some (φ k)) →
    ∃ F' : Nat → Option Nat, (∀ k, k + 1 < n → F' k = some (φ (sk i k))) ∧ Ev g mX5_remove 25 [some (.ref (o + 2)), some (.int (nI i)), some (.int (nI j))] [] B I J (va_up P (o + 3) F) (none, B, I, J, va_up P (o + 3) F') := by
  intro d
  induction d with
  | zero =>
    intro j hj hd F hF
    have hC := lyC_P3 (F := F) hC
    refine ⟨va_up F (n - 1) none, fun k hk => ?_, ?_⟩
    · rw [va_up_n _ _ (by omega), hF k (by omega)]
      unfold sk
      by_cases c : k < i
      · rw [if_pos c, if_neg (by omega)]
      · rw [if_neg c, if_pos (by omega)]
    · refine ev_iload_n 26 dX5_remove_25 rfl rfl ?_
      refine ev_aload_n 27 dX5_remove_26 rfl rfl ?_
      refine ev_getI 30 mm_cl5 (j := 1) (Nat.le_of_ble_eq_true rfl) dX5_remove_27 lk319 (fun _ _ _ => rfl) (hC.1 2 _ rfl) rfl ?_
      refine ev_eqI (y := nI ((n-1))) (hs) ?_
      refine ev_icmp_geN 33 53 dX5_remove_30 (by decide) (by omega) (by omega) rfl (fun hbr => ?_) (fun hx => absurd ((by omega)) hx)
      refine ev_aload_n 54 dX5_remove_53 rfl rfl ?_
      refine ev_getP 57 mm_cl5 (j := 0) (Nat.le_of_ble_eq_true rfl) dX5_remove_54 lk317 (fun _ _ _ => rfl) (hC.1 2 _ rfl) (a := (o + 3)) (hC.2.2.1 4 _ _ _ rfl) rfl ?_
      refine ev_aload_n 58 dX5_remove_57 rfl rfl ?_
      refine ev_getI 61 mm_cl5 (j := 1) (Nat.le_of_ble_eq_true rfl) dX5_remove_58 lk319 (fun _ _ _ => rfl) (hC.1 2 _ rfl) rfl ?_
      refine ev_eqI (y := nI ((n-1))) (hs) ?_
      refine ev_null 62 dX5_remove_61 rfl ?_
      refine ev_aastN 63 _ 4 dX5_remove_62 (hC.1 3 _ rfl) rfl (by have hNN := hC.2.1 3 _ rfl; omega) rfl ?_
      rw [va_up_s, bx_uu]
      exact ev_vret dX5_remove_63 rfl (rfl)
  | succ d ih =>
    intro j hj hd F hF
    have hC' := lyC_P3 (F := F) hC
    obtain ⟨F', h1, h2⟩ := ih (j + 1) (by omega) (by omega) (va_up F j (some (φ (j + 1)))) (fun k hk => by
      by_cases c : k = j
      · subst c; rw [va_up_s, if_pos (by omega)]
      · rw [va_up_n _ _ c, hF k hk]
        by_cases c2 : i ≤ k ∧ k < j
        · rw [if_pos c2, if_pos (by omega)]
        · rw [if_neg c2, if_neg (by omega)])
    refine ⟨F', h1, ?_⟩
    have tp := (hφ (j + 1) (by omega)).2
    have hC := hC'
    refine ev_iload_n 26 dX5_remove_25 rfl rfl ?_
    refine ev_aload_n 27 dX5_remove_26 rfl rfl ?_
    refine ev_getI 30 mm_cl5 (j := 1) (Nat.le_of_ble_eq_true rfl) dX5_remove_27 lk319 (fun _ _ _ => rfl) (hC.1 2 _ rfl) rfl ?_
    refine ev_eqI (y := nI ((n-1))) (hs) ?_
    refine ev_icmp_geN 33 53 dX5_remove_30 (by decide) (by omega) (by omega) rfl (fun hx => absurd hx ((by omega))) (fun hbr => ?_)
    refine ev_aload_n 34 dX5_remove_33 rfl rfl ?_
    refine ev_getP 37 mm_cl5 (j := 0) (Nat.le_of_ble_eq_true rfl) dX5_remove_34 lk317 (fun _ _ _ => rfl) (hC.1 2 _ rfl) (a := (o + 3)) (hC.2.2.1 4 _ _ _ rfl) rfl ?_
    refine ev_iload_n 38 dX5_remove_37 rfl rfl ?_
    refine ev_aload_n 39 dX5_remove_38 rfl rfl ?_
    refine ev_getP 42 mm_cl5 (j := 0) (Nat.le_of_ble_eq_true rfl) dX5_remove_39 lk317 (fun _ _ _ => rfl) (hC.1 2 _ rfl) (a := (o + 3)) (hC.2.2.1 4 _ _ _ rfl) rfl ?_
    refine ev_iload_n 43 dX5_remove_42 rfl rfl ?_
    refine ev_iconstN 44 1 dX5_remove_43 rfl ?_
    refine ev_iaddN 45 dX5_remove_44 rfl ?_
    refine ev_aald 46 _ 4 dX5_remove_45 (hC.1 3 _ rfl) rfl (by have hNN := hC.2.1 3 _ rfl; omega) rfl ?_
    refine ev_eqR (a := (φ (j + 1))) ((by rw [va_up_s, hF _ (by omega), if_neg (by omega)])) ?_
    refine ev_aast 47 _ 4 dX5_remove_46 (hC.1 3 _ rfl) rfl (by have hNN := hC.2.1 3 _ rfl; omega) (by decide) rfl tp rfl ?_
    refine ev_iincN 50 (lv' := [_, some (.int _), _]) 1 dX5_remove_47 rfl (Nat.le_of_ble_eq_true rfl) rfl rfl ?_
    refine ev_goto 25 dX5_remove_50 (by decide) ?_
    rw [va_up_s, bx_uu]
    exact h2
theorem cx_X5_remove {n i : Nat} {φ : Nat → Nat} (hC : lyC B P x o) (hn : n ≤ 250) (hi : i < n) (hs : I (o + 2) 1 = nI n) (hφ : ∀ k, k < n → P (o + 3) k = some (φ k) ∧ mm_T B (φ k) = 104) :
    ∃ F' : Nat → Option Nat, Ct g mX5_remove [.ref (o + 2), .int (nI i)] B I J P (none, B, va_up I (o + 2) (va_up (I (o + 2)) 1 (nI (n - 1))), J, va_up P (o + 3) F') ∧ (∀ k, k + 1 < n → F' k = some (φ (sk i k))) := by
  obtain ⟨F', h1, h2⟩ := lx_X5_remove (g := g) (B := B) (I := va_up I (o + 2) (va_up (I (o + 2)) 1 (nI (n - 1)))) (J := J) (P := P) (x := x) (o := o) (i := i) hC hn hi (by rw [va_up_s, va_up_s]) hφ (n - 1 - i) i (Nat.le_refl _) (by omega) (P (o + 3)) (fun k hk => by rw [if_neg (by omega)]; exact (hφ k hk).1)
  rw [va_up_id] at h2
  refine ⟨F', ?_, h1⟩
  refine ct_of (lv := [some (.ref (o + 2)), some (.int (nI i)), none]) (by decide +kernel) (Nat.le_of_ble_eq_true rfl) rfl ?_
  refine ev_iload_n 1 dX5_remove_0 rfl rfl ?_
  refine ev_if_ltN 4 12 dX5_remove_1 (by decide) (by omega) rfl (fun hx => absurd hx (not_false)) (fun hbr => ?_)
  refine ev_iload_n 5 dX5_remove_4 rfl rfl ?_
  refine ev_aload_n 6 dX5_remove_5 rfl rfl ?_
  refine ev_getI 9 mm_cl5 (j := 1) (Nat.le_of_ble_eq_true rfl) dX5_remove_6 lk319 (fun _ _ _ => rfl) (hC.1 2 _ rfl) rfl ?_
  refine ev_eqI (y := nI (n)) (hs) ?_
  refine ev_icmp_ltN 12 13 dX5_remove_9 (by decide) (by omega) (by omega) rfl (fun hbr => ?_) (fun hx => absurd ((by omega)) hx)
  refine ev_aload_n 14 dX5_remove_13 rfl rfl ?_
  refine ev_dup 15 dX5_remove_14 rfl rfl ?_
  refine ev_getI 18 mm_cl5 (j := 1) (Nat.le_of_ble_eq_true rfl) dX5_remove_15 lk319 (fun _ _ _ => rfl) (hC.1 2 _ rfl) rfl ?_
  refine ev_eqI (y := nI (n)) (hs) ?_
  refine ev_iconstN 19 1 dX5_remove_18 rfl ?_
  refine ev_isubN 20 dX5_remove_19 (by omega) rfl ?_
  refine ev_putI 23 mm_cl5 (j := 1) (Nat.le_of_ble_eq_true rfl) dX5_remove_20 lk319 rfl (fun _ _ _ => rfl) rfl rfl (hC.1 2 _ rfl) rfl ?_
  refine ev_iload_n 24 dX5_remove_23 rfl rfl ?_
  refine ev_istore_n 25 (lv' := [_, some (.int _), _]) dX5_remove_24 (Nat.le_of_ble_eq_true rfl) rfl rfl ?_
  exact h2
theorem lp_X5_placeOf {n : Nat} {v r : Int32} {φ : Nat → Nat} {lab : Nat → Int32} (hC : lyC B P x o) (hn : n ≤ 250) (hs : I (o + 2) 1 = nI n) (hφ : ∀ k, k < n → P (o + 3) k = some (φ k) ∧ mm_T B (φ k) = 104) (hl : ∀ k, k < n → I (φ k) 0 = lab k) (hr : (r = -1 ∧ ∀ k, k < n → lab k ≠ v) ∨ ∃ i, i < n ∧ r = nI i ∧ lab i = v ∧ ∀ k, k < i → lab k ≠ v) : ∀ (d j : Nat), j + d = n → (∀ k, k < j → lab k ≠ v) →
    Ev g mX5_placeOf 2 [some (.ref (o + 2)), some (.int v), some (.int (nI j))] [] B I J P (some (.int r), B, I, J, P) := by
  intro d
  induction d with
  | zero =>
    intro j hj hne
    obtain rfl : j = n := by omega
    have e : r = -1 := by
      rcases hr with h | ⟨i, h1, h2, h3, h4⟩
      · exact h.1
      · exact absurd h3 (hne i h1)
    refine ev_iload_n 3 dX5_placeOf_2 rfl rfl ?_
    refine ev_aload_n 4 dX5_placeOf_3 rfl rfl ?_
    refine ev_getI 7 mm_cl5 (j := 1) (Nat.le_of_ble_eq_true rfl) dX5_placeOf_4 lk319 (fun _ _ _ => rfl) (hC.1 2 _ rfl) rfl ?_
    refine ev_eqI (y := nI (j)) (hs) ?_
    refine ev_icmp_geN 10 31 dX5_placeOf_7 (by decide) (by omega) (by omega) rfl (fun hbr => ?_) (fun hx => absurd ((by omega)) hx)
    refine ev_iconst 32 (v := -1) dX5_placeOf_31 (by decide +kernel) rfl ?_
    exact ev_iret dX5_placeOf_32 rfl ((by rw [e]))
  | succ d ih =>
    intro j hj hne
    have tp := (hφ j (by omega)).2
    refine ev_iload_n 3 dX5_placeOf_2 rfl rfl ?_
    refine ev_aload_n 4 dX5_placeOf_3 rfl rfl ?_
    refine ev_getI 7 mm_cl5 (j := 1) (Nat.le_of_ble_eq_true rfl) dX5_placeOf_4 lk319 (fun _ _ _ => rfl) (hC.1 2 _ rfl) rfl ?_
    refine ev_eqI (y := nI (n)) (hs) ?_
    refine ev_icmp_geN 10 31 dX5_placeOf_7 (by decide) (by omega) (by omega) rfl (fun hx => absurd hx ((by omega))) (fun hbr => ?_)
    refine ev_aload_n 11 dX5_placeOf_10 rfl rfl ?_
    refine ev_getP 14 mm_cl5 (j := 0) (Nat.le_of_ble_eq_true rfl) dX5_placeOf_11 lk317 (fun _ _ _ => rfl) (hC.1 2 _ rfl) (a := (o + 3)) (hC.2.2.1 4 _ _ _ rfl) rfl ?_
    refine ev_iload_n 15 dX5_placeOf_14 rfl rfl ?_
    refine ev_aald 16 _ 4 dX5_placeOf_15 (hC.1 3 _ rfl) rfl (by have hNN := hC.2.1 3 _ rfl; omega) rfl ?_
    refine ev_eqR (a := (φ j)) ((hφ j (by omega)).1) ?_
    refine ev_getI 19 mm_cl4 (j := 0) (Nat.le_of_ble_eq_true rfl) dX5_placeOf_16 lk861 (fun _ _ _ => rfl) tp rfl ?_
    refine ev_eqI (y := (lab j)) ((hl j (by omega))) ?_
    refine ev_iload_n 20 dX5_placeOf_19 rfl rfl ?_
    refine ev_icmp_ne 23 25 dX5_placeOf_20 (by decide) rfl (fun hz => ?_) (fun hz => ?_)
    · have e := ih (j + 1) (by omega) (fun k hk => by
        by_cases c : k = j
        · subst c; exact hz
        · exact hne k (by omega))
      refine ev_iincN 28 (lv' := [_, some (.int _), _]) 1 dX5_placeOf_25 rfl (Nat.le_of_ble_eq_true rfl) rfl rfl ?_
      refine ev_goto 2 dX5_placeOf_28 (by decide) ?_
      exact e
    · have e : r = nI j := by
        have hz' : lab j = v := hz
        rcases hr with h | ⟨i, h1, h2, h3, h4⟩
        · exact absurd hz' (h.2 j (by omega))
        · rcases Nat.lt_trichotomy i j with c | c | c
          · exact absurd h3 (hne i c)
          · rw [h2, c]
          · exact absurd hz' (h4 j c)
      refine ev_iload_n 24 dX5_placeOf_23 rfl rfl ?_
      exact ev_iret dX5_placeOf_24 rfl ((by rw [e]))
theorem ct_X5_placeOf {n : Nat} {v r : Int32} {φ : Nat → Nat} {lab : Nat → Int32} (hC : lyC B P x o) (hn : n ≤ 250) (hs : I (o + 2) 1 = nI n) (hφ : ∀ k, k < n → P (o + 3) k = some (φ k) ∧ mm_T B (φ k) = 104) (hl : ∀ k, k < n → I (φ k) 0 = lab k) (hr : (r = -1 ∧ ∀ k, k < n → lab k ≠ v) ∨ ∃ i, i < n ∧ r = nI i ∧ lab i = v ∧ ∀ k, k < i → lab k ≠ v) :
    Ct g mX5_placeOf [.ref (o + 2), .int v] B I J P (some (.int r), B, I, J, P) := by
  have e := lp_X5_placeOf (g := g) (J := J) hC hn hs hφ hl hr n 0 (by omega) (fun k hk => by omega)
  refine ct_of (lv := [some (.ref (o + 2)), some (.int v), none]) (by decide +kernel) (Nat.le_of_ble_eq_true rfl) rfl ?_
  refine ev_iconstN 1 0 dX5_placeOf_0 rfl ?_
  refine ev_istore_n 2 (lv' := [_, some (.int _), _]) dX5_placeOf_1 (Nat.le_of_ble_eq_true rfl) rfl rfl ?_
  exact e
theorem lx_X5_rl {L : Nat} {nx : Int32} {φ : Nat → Nat} {lab : Nat → Int32} (hC : lyC B P x o) (hL : L ≤ 250) (hT : ∀ k, k < L → mm_T B (φ k) = 104 ∧ o + 33 ≤ φ k) (hl : ∀ k, k < L → I (φ k) 0 = lab k) : ∀ (d : Nat) (q : Nat × (Nat → Nat)), d ≤ q.1 → sl_ok L q → ∀ (F : Nat → Option Nat), (∀ k, k < q.1 → F k = some (φ (q.2 k))) →
    ∃ F' : Nat → Option Nat, (∀ k, k < (sp_rl lab nx d q).1 → F' k = some (φ ((sp_rl lab nx d q).2 k))) ∧
    Ev g mX5_removeLate 9 [some (.ref (o + 2)), some (.int nx), some (.int (nI (L - q.1))), some (.int ((nI d - nI 1)))] [] B (va_up I (o + 2) (va_up (I (o + 2)) 1 (nI q.1))) J (va_up P (o + 3) F) (some (.int (nI (L - (sp_rl lab nx d q).1))), B, va_up I (o + 2) (va_up (I (o + 2)) 1 (nI (sp_rl lab nx d q).1)), J, va_up P (o + 3) F') := by
  intro d
  induction d with
  | zero =>
    intro q hd hq F hF
    refine ⟨F, hF, ?_⟩
    refine ev_iload_n 10 dX5_removeLate_9 rfl rfl ?_
    refine ev_if_lt 13 46 dX5_removeLate_10 (by decide) rfl (fun hbr => ?_) (fun hx => absurd (nI_01) hx)
    refine ev_iload_n 47 dX5_removeLate_46 rfl rfl ?_
    exact ev_iret dX5_removeLate_47 rfl (rfl)
  | succ d ih =>
    intro q hd hq F hF
    have hC' := lyC_P3 (F := F) hC
    obtain ⟨hq1, hq2, hq3⟩ := hq
    have hsd := hq2 d (by omega)
    obtain ⟨tp, tl⟩ := hT _ hsd
    have hlab : va_up I (o + 2) (va_up (I (o + 2)) 1 (nI q.1)) (φ (q.2 d)) 0 = lab (q.2 d) := by rw [va_up_n _ _ (by omega)]; exact hl _ hsd
    by_cases c : ((lab (q.2 d) - nx) &&& nI 65535) < nI 32768
    · obtain ⟨F', h1, h2⟩ := ih q (by omega) ⟨hq1, hq2, hq3⟩ F hF
      have hr : sp_rl lab nx (d + 1) q = sp_rl lab nx d q := by show sp_rl lab nx d (if _ then _ else _) = _; rw [if_pos c]
      rw [hr]
      refine ⟨F', h1, ?_⟩
      have hC := hC'
      rw [nI_s1]
      refine ev_iload_n 10 dX5_removeLate_9 rfl rfl ?_
      refine ev_if_ltN 13 46 dX5_removeLate_10 (by decide) (by omega) rfl (fun hx => absurd hx (not_false)) (fun hbr => ?_)
      refine ev_aload_n 14 dX5_removeLate_13 rfl rfl ?_
      refine ev_getP 17 mm_cl5 (j := 0) (Nat.le_of_ble_eq_true rfl) dX5_removeLate_14 lk317 (fun _ _ _ => rfl) (hC.1 2 _ rfl) (a := (o + 3)) (hC.2.2.1 4 _ _ _ rfl) rfl ?_
      refine ev_iload_n 18 dX5_removeLate_17 rfl rfl ?_
      refine ev_aald 19 _ 4 dX5_removeLate_18 (hC.1 3 _ rfl) rfl (by have hNN := hC.2.1 3 _ rfl; omega) rfl ?_
      refine ev_eqR (a := (φ (q.2 d))) ((by rw [va_up_s]; exact hF d (by omega))) ?_
      refine ev_getI 22 mm_cl4 (j := 0) (Nat.le_of_ble_eq_true rfl) dX5_removeLate_19 lk861 (fun _ _ _ => rfl) tp rfl ?_
      refine ev_eqI (y := (lab (q.2 d))) (hlab) ?_
      refine ev_iload_n 23 dX5_removeLate_22 rfl rfl ?_
      refine ev_isub 24 dX5_removeLate_23 rfl ?_
      refine ev_ldc 26 dX5_removeLate_24 lk1041 rfl ?_
      refine ev_eqI (y := nI 65535) (by decide +kernel) ?_
      refine ev_iand 27 dX5_removeLate_26 rfl ?_
      refine ev_ldc 29 dX5_removeLate_27 lk1042 rfl ?_
      refine ev_eqI (y := nI 32768) (by decide +kernel) ?_
      refine ev_icmp_lt 32 40 dX5_removeLate_29 (by decide) rfl (fun hbr => ?_) (fun hx => absurd (c) hx)
      refine ev_iinc 43 (lv' := [_, _, some (.int _), _]) dX5_removeLate_40 rfl rfl (Nat.le_of_ble_eq_true rfl) rfl rfl ?_
      refine ev_goto 9 dX5_removeLate_43 (by decide) ?_
      rw [nI_m1]
      exact h2
    · obtain ⟨F1, c1, hF1⟩ := cx_X5_remove (g := g) (B := B) (I := va_up I (o + 2) (va_up (I (o + 2)) 1 (nI q.1))) (J := J) (P := va_up P (o + 3) F) (x := x) (o := o) (n := q.1) (i := d) (φ := fun k => φ (q.2 k)) hC' (by omega) (by omega) (by rw [va_up_s, va_up_s]) (fun k hk => ⟨by rw [va_up_s]; exact hF k hk, (hT _ (hq2 k hk)).1⟩)
      rw [va_up_s, bx_uu, bx_uu, bx_uu] at c1
      obtain ⟨F', h1, h2⟩ := ih (q.1 - 1, fun k => q.2 (sk d k)) (by show d ≤ q.1 - 1; omega) (sl_sk ⟨hq1, hq2, hq3⟩ (by omega)) F1 (fun k hk => hF1 k (by have : k < q.1 - 1 := hk; omega))
      have hr : sp_rl lab nx (d + 1) q = sp_rl lab nx d (q.1 - 1, fun k => q.2 (sk d k)) := by show sp_rl lab nx d (if _ then _ else _) = _; rw [if_neg c]
      rw [hr]
      refine ⟨F', h1, ?_⟩
      generalize sp_rl lab nx d (q.1 - 1, fun k => q.2 (sk d k)) = SZ at h2
      have h2' : Ev g mX5_removeLate 9 [some (.ref (o + 2)), some (.int nx), some (.int (nI (L - (q.1 - 1)))), some (.int ((nI d - nI 1)))] [] B (va_up I (o + 2) (va_up (I (o + 2)) 1 (nI (q.1 - 1)))) J (va_up P (o + 3) F1) (some (.int (nI (L - SZ.1))), B, va_up I (o + 2) (va_up (I (o + 2)) 1 (nI SZ.1)), J, va_up P (o + 3) F') := h2
      have hC := hC'
      rw [nI_s1]
      refine ev_iload_n 10 dX5_removeLate_9 rfl rfl ?_
      refine ev_if_ltN 13 46 dX5_removeLate_10 (by decide) (by omega) rfl (fun hx => absurd hx (not_false)) (fun hbr => ?_)
      refine ev_aload_n 14 dX5_removeLate_13 rfl rfl ?_
      refine ev_getP 17 mm_cl5 (j := 0) (Nat.le_of_ble_eq_true rfl) dX5_removeLate_14 lk317 (fun _ _ _ => rfl) (hC.1 2 _ rfl) (a := (o + 3)) (hC.2.2.1 4 _ _ _ rfl) rfl ?_
      refine ev_iload_n 18 dX5_removeLate_17 rfl rfl ?_
      refine ev_aald 19 _ 4 dX5_removeLate_18 (hC.1 3 _ rfl) rfl (by have hNN := hC.2.1 3 _ rfl; omega) rfl ?_
      refine ev_eqR (a := (φ (q.2 d))) ((by rw [va_up_s]; exact hF d (by omega))) ?_
      refine ev_getI 22 mm_cl4 (j := 0) (Nat.le_of_ble_eq_true rfl) dX5_removeLate_19 lk861 (fun _ _ _ => rfl) tp rfl ?_
      refine ev_eqI (y := (lab (q.2 d))) (hlab) ?_
      refine ev_iload_n 23 dX5_removeLate_22 rfl rfl ?_
      refine ev_isub 24 dX5_removeLate_23 rfl ?_
      refine ev_ldc 26 dX5_removeLate_24 lk1041 rfl ?_
      refine ev_eqI (y := nI 65535) (by decide +kernel) ?_
      refine ev_iand 27 dX5_removeLate_26 rfl ?_
      refine ev_ldc 29 dX5_removeLate_27 lk1042 rfl ?_
      refine ev_eqI (y := nI 32768) (by decide +kernel) ?_
      refine ev_icmp_lt 32 40 dX5_removeLate_29 (by decide) rfl (fun hx => absurd hx (c)) (fun hbr => ?_)
      refine ev_aload_n 33 dX5_removeLate_32 rfl rfl ?_
      refine ev_iload_n 34 dX5_removeLate_33 rfl rfl ?_
      refine ev_invVv 37 (Mc := mX5_remove) ⟨lk1011, lk82, hdX5_remove, (Nat.le_of_ble_eq_true rfl), (Nat.le_of_ble_eq_true rfl)⟩ lk1043 lk1009 lk1010 mm_cl5 rfl dX5_removeLate_34 (c1) rfl (hC.1 2 _ rfl) (Nat.le_of_ble_eq_true rfl) rfl rfl ?_
      refine ev_iincN 40 (lv' := [_, some (.int _), _, _]) 1 dX5_removeLate_37 rfl (Nat.le_of_ble_eq_true rfl) rfl rfl ?_
      refine ev_iinc 43 (lv' := [_, _, some (.int _), _]) dX5_removeLate_40 rfl rfl (Nat.le_of_ble_eq_true rfl) rfl rfl ?_
      refine ev_goto 9 dX5_removeLate_43 (by decide) ?_
      rw [nI_m1, show L - q.1 + 1 = L - (q.1 - 1) by omega]
      exact h2'
theorem cx_X5_removeLate {L : Nat} {nx : Int32} {φ : Nat → Nat} {lab : Nat → Int32} (hC : lyC B P x o) (hL : L ≤ 250) (hs : I (o + 2) 1 = nI L) (hφ : ∀ k, k < L → P (o + 3) k = some (φ k)) (hT : ∀ k, k < L → mm_T B (φ k) = 104 ∧ o + 33 ≤ φ k) (hl : ∀ k, k < L → I (φ k) 0 = lab k) :
    ∃ F' : Nat → Option Nat, (∀ k, k < (sp_rl lab nx L (L, fun k => k)).1 → F' k = some (φ ((sp_rl lab nx L (L, fun k => k)).2 k))) ∧
    Ct g mX5_removeLate [.ref (o + 2), .int nx] B I J P (some (.int (nI (L - (sp_rl lab nx L (L, fun k => k)).1))), B, va_up I (o + 2) (va_up (I (o + 2)) 1 (nI (sp_rl lab nx L (L, fun k => k)).1)), J, va_up P (o + 3) F') := by
  obtain ⟨F', h1, h2⟩ := lx_X5_rl (g := g) (B := B) (I := I) (J := J) (P := P) (x := x) (o := o) (nx := nx) hC hL hT hl L (L, fun k => k) (Nat.le_refl _) (sl_id L) (P (o + 3)) hφ
  refine ⟨F', h1, ?_⟩
  generalize sp_rl lab nx L (L, fun k => k) = SZ at *
  rw [va_up_id, show va_up I (o + 2) (va_up (I (o + 2)) 1 (nI (L, fun k : Nat => k).1)) = I by rw [← hs, va_up_id, va_up_id], show L - (L, fun k : Nat => k).1 = 0 from Nat.sub_self L] at h2
  refine ct_of (lv := [some (.ref (o + 2)), some (.int nx), none, none]) (by decide +kernel) (Nat.le_of_ble_eq_true rfl) rfl ?_
  refine ev_iconstN 1 0 dX5_removeLate_0 rfl ?_
  refine ev_istore_n 2 (lv' := [_, some (.int _), _, _]) dX5_removeLate_1 (Nat.le_of_ble_eq_true rfl) rfl rfl ?_
  refine ev_aload_n 3 dX5_removeLate_2 rfl rfl ?_
  refine ev_getI 6 mm_cl5 (j := 1) (Nat.le_of_ble_eq_true rfl) dX5_removeLate_3 lk319 (fun _ _ _ => rfl) (hC.1 2 _ rfl) rfl ?_
  rw [hs]
  refine ev_iconstN 7 1 dX5_removeLate_6 rfl ?_
  refine ev_isub 8 dX5_removeLate_7 rfl ?_
  refine ev_istore_n 9 (lv' := [_, _, some (.int _), _]) dX5_removeLate_8 (Nat.le_of_ble_eq_true rfl) rfl rfl ?_
  exact h2
end VLN
