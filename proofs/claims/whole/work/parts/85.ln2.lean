/-! lines: the rest, and the model's -/
theorem nI_ge0 (a : Nat) (h : a < 2 ^ 31) : (0 : Int32) ≤ nI a := by
  rw [Int32.le_iff_toInt_le, nI_toInt h]; show (0 : Int) ≤ _; omega
section VL2
variable {g : mm_G} {B : mm_B} {I : mm_TI} {J : mm_TJ} {P : mm_TP} {x o m : Nat}
theorem ct_X5_first0 {n : Nat} {v : Int32} {φ : Nat → Nat} {lab : Nat → Int32} (hC : lyC B P x o) (hn : n ≤ 250) (hs : I (o + 2) 1 = nI n) (hφ : ∀ k, k < n → P (o + 3) k = some (φ k) ∧ mm_T B (φ k) = 104) (hl : ∀ k, k < n → I (φ k) 0 = lab k) (hr : ∀ k, k < n → lab k ≠ v) :
    Ct g mX5_first [.ref (o + 2), .int v] B I J P (some .null, B, I, J, P) := by
  have e := ct_X5_placeOf (g := g) (B := B) (I := I) (J := J) (P := P) (r := -1) hC hn hs hφ hl (Or.inl ⟨rfl, hr⟩)
  refine ct_of (lv := [some (.ref (o + 2)), some (.int v), none]) (by decide +kernel) (Nat.le_of_ble_eq_true rfl) rfl ?_
  refine ev_aload_n 1 dX5_first_0 rfl rfl ?_
  refine ev_iload_n 2 dX5_first_1 rfl rfl ?_
  refine ev_invV 5 (Mc := mX5_placeOf) ⟨lk1051, lk82, hdX5_placeOf, (Nat.le_of_ble_eq_true rfl), (Nat.le_of_ble_eq_true rfl)⟩ lk1048 lk1049 lk1050 mm_cl5 rfl dX5_first_2 (e) rfl (hC.1 2 _ rfl) (Nat.le_of_ble_eq_true rfl) rfl rfl ?_
  refine ev_istore_n 6 (lv' := [_, some (.int _), _]) dX5_first_5 (Nat.le_of_ble_eq_true rfl) rfl rfl ?_
  refine ev_iload_n 7 dX5_first_6 rfl rfl ?_
  refine ev_if_ge 10 14 dX5_first_7 (by decide) rfl (fun hx => absurd hx ((by decide))) (fun hbr => ?_)
  refine ev_null 11 dX5_first_10 rfl ?_
  refine ev_goto 20 dX5_first_11 (by decide) ?_
  exact ev_aretN dX5_first_20 rfl (Or.inl ⟨_, rfl⟩) (rfl)
theorem ct_X5_first1 {n i : Nat} {v : Int32} {φ : Nat → Nat} {lab : Nat → Int32} (hC : lyC B P x o) (hn : n ≤ 250) (hs : I (o + 2) 1 = nI n) (hφ : ∀ k, k < n → P (o + 3) k = some (φ k) ∧ mm_T B (φ k) = 104) (hl : ∀ k, k < n → I (φ k) 0 = lab k) (hi : i < n) (h1 : lab i = v) (h2 : ∀ k, k < i → lab k ≠ v) :
    Ct g mX5_first [.ref (o + 2), .int v] B I J P (some (.ref (φ i)), B, I, J, P) := by
  have e := ct_X5_placeOf (g := g) (B := B) (I := I) (J := J) (P := P) (r := nI i) hC hn hs hφ hl (Or.inr ⟨i, hi, rfl, h1, h2⟩)
  have tp := (hφ i hi).2
  refine ct_of (lv := [some (.ref (o + 2)), some (.int v), none]) (by decide +kernel) (Nat.le_of_ble_eq_true rfl) rfl ?_
  refine ev_aload_n 1 dX5_first_0 rfl rfl ?_
  refine ev_iload_n 2 dX5_first_1 rfl rfl ?_
  refine ev_invV 5 (Mc := mX5_placeOf) ⟨lk1051, lk82, hdX5_placeOf, (Nat.le_of_ble_eq_true rfl), (Nat.le_of_ble_eq_true rfl)⟩ lk1048 lk1049 lk1050 mm_cl5 rfl dX5_first_2 (e) rfl (hC.1 2 _ rfl) (Nat.le_of_ble_eq_true rfl) rfl rfl ?_
  refine ev_istore_n 6 (lv' := [_, some (.int _), _]) dX5_first_5 (Nat.le_of_ble_eq_true rfl) rfl rfl ?_
  refine ev_iload_n 7 dX5_first_6 rfl rfl ?_
  refine ev_if_geN 10 14 dX5_first_7 (by decide) (by omega) rfl (fun hbr => ?_) (fun hx => absurd (trivial) hx)
  refine ev_aload_n 15 dX5_first_14 rfl rfl ?_
  refine ev_getP 18 mm_cl5 (j := 0) (Nat.le_of_ble_eq_true rfl) dX5_first_15 lk317 (fun _ _ _ => rfl) (hC.1 2 _ rfl) (a := (o + 3)) (hC.2.2.1 4 _ _ _ rfl) rfl ?_
  refine ev_iload_n 19 dX5_first_18 rfl rfl ?_
  refine ev_aald 20 _ 4 dX5_first_19 (hC.1 3 _ rfl) rfl (by have hNN := hC.2.1 3 _ rfl; omega) rfl ?_
  refine ev_eqR (a := (φ i)) ((hφ i hi).1) ?_
  exact ev_aret dX5_first_20 rfl (Or.inl ⟨_, rfl⟩) (rfl)
theorem ct_X5_take0 {n : Nat} {v : Int32} {φ : Nat → Nat} {lab : Nat → Int32} (hC : lyC B P x o) (hn : n ≤ 250) (hs : I (o + 2) 1 = nI n) (hφ : ∀ k, k < n → P (o + 3) k = some (φ k) ∧ mm_T B (φ k) = 104) (hl : ∀ k, k < n → I (φ k) 0 = lab k) (hr : ∀ k, k < n → lab k ≠ v) :
    Ct g mX5_takeFirst [.ref (o + 2), .int v] B I J P (some .null, B, I, J, P) := by
  have e := ct_X5_placeOf (g := g) (B := B) (I := I) (J := J) (P := P) (r := -1) hC hn hs hφ hl (Or.inl ⟨rfl, hr⟩)
  refine ct_of (lv := [some (.ref (o + 2)), some (.int v), none, none]) (by decide +kernel) (Nat.le_of_ble_eq_true rfl) rfl ?_
  refine ev_aload_n 1 dX5_takeFirst_0 rfl rfl ?_
  refine ev_iload_n 2 dX5_takeFirst_1 rfl rfl ?_
  refine ev_invV 5 (Mc := mX5_placeOf) ⟨lk1051, lk82, hdX5_placeOf, (Nat.le_of_ble_eq_true rfl), (Nat.le_of_ble_eq_true rfl)⟩ lk1048 lk1049 lk1050 mm_cl5 rfl dX5_takeFirst_2 (e) rfl (hC.1 2 _ rfl) (Nat.le_of_ble_eq_true rfl) rfl rfl ?_
  refine ev_istore_n 6 (lv' := [_, some (.int _), _, _]) dX5_takeFirst_5 (Nat.le_of_ble_eq_true rfl) rfl rfl ?_
  refine ev_iload_n 7 dX5_takeFirst_6 rfl rfl ?_
  refine ev_if_ge 10 12 dX5_takeFirst_7 (by decide) rfl (fun hx => absurd hx ((by decide))) (fun hbr => ?_)
  refine ev_null 11 dX5_takeFirst_10 rfl ?_
  exact ev_aretN dX5_takeFirst_11 rfl (Or.inl ⟨_, rfl⟩) (rfl)
theorem cx_X5_take1 {n i : Nat} {v : Int32} {φ : Nat → Nat} {lab : Nat → Int32} (hC : lyC B P x o) (hn : n ≤ 250) (hs : I (o + 2) 1 = nI n) (hφ : ∀ k, k < n → P (o + 3) k = some (φ k) ∧ mm_T B (φ k) = 104) (hl : ∀ k, k < n → I (φ k) 0 = lab k) (hi : i < n) (h1 : lab i = v) (h2 : ∀ k, k < i → lab k ≠ v) :
    ∃ F' : Nat → Option Nat, Ct g mX5_takeFirst [.ref (o + 2), .int v] B I J P (some (.ref (φ i)), B, va_up I (o + 2) (va_up (I (o + 2)) 1 (nI (n - 1))), J, va_up P (o + 3) F') ∧ (∀ k, k + 1 < n → F' k = some (φ (sk i k))) := by
  have e := ct_X5_placeOf (g := g) (B := B) (I := I) (J := J) (P := P) (r := nI i) hC hn hs hφ hl (Or.inr ⟨i, hi, rfl, h1, h2⟩)
  obtain ⟨F', c, hF⟩ := cx_X5_remove (g := g) (B := B) (I := I) (J := J) (P := P) (x := x) (o := o) hC hn hi hs hφ
  have tp := (hφ i hi).2
  refine ⟨F', ?_, hF⟩
  refine ct_of (lv := [some (.ref (o + 2)), some (.int v), none, none]) (by decide +kernel) (Nat.le_of_ble_eq_true rfl) rfl ?_
  refine ev_aload_n 1 dX5_takeFirst_0 rfl rfl ?_
  refine ev_iload_n 2 dX5_takeFirst_1 rfl rfl ?_
  refine ev_invV 5 (Mc := mX5_placeOf) ⟨lk1051, lk82, hdX5_placeOf, (Nat.le_of_ble_eq_true rfl), (Nat.le_of_ble_eq_true rfl)⟩ lk1048 lk1049 lk1050 mm_cl5 rfl dX5_takeFirst_2 (e) rfl (hC.1 2 _ rfl) (Nat.le_of_ble_eq_true rfl) rfl rfl ?_
  refine ev_istore_n 6 (lv' := [_, some (.int _), _, _]) dX5_takeFirst_5 (Nat.le_of_ble_eq_true rfl) rfl rfl ?_
  refine ev_iload_n 7 dX5_takeFirst_6 rfl rfl ?_
  refine ev_if_geN 10 12 dX5_takeFirst_7 (by decide) (by omega) rfl (fun hbr => ?_) (fun hx => absurd (trivial) hx)
  refine ev_aload_n 13 dX5_takeFirst_12 rfl rfl ?_
  refine ev_getP 16 mm_cl5 (j := 0) (Nat.le_of_ble_eq_true rfl) dX5_takeFirst_13 lk317 (fun _ _ _ => rfl) (hC.1 2 _ rfl) (a := (o + 3)) (hC.2.2.1 4 _ _ _ rfl) rfl ?_
  refine ev_iload_n 17 dX5_takeFirst_16 rfl rfl ?_
  refine ev_aald 18 _ 4 dX5_takeFirst_17 (hC.1 3 _ rfl) rfl (by have hNN := hC.2.1 3 _ rfl; omega) rfl ?_
  refine ev_eqR (a := (φ i)) ((hφ i hi).1) ?_
  refine ev_astore_n 19 (lv' := [_, _, some (.int _), _]) dX5_takeFirst_18 (Nat.le_of_ble_eq_true rfl) rfl rfl ?_
  refine ev_aload_n 20 dX5_takeFirst_19 rfl rfl ?_
  refine ev_iload_n 21 dX5_takeFirst_20 rfl rfl ?_
  refine ev_invVv 24 (Mc := mX5_remove) ⟨lk1011, lk82, hdX5_remove, (Nat.le_of_ble_eq_true rfl), (Nat.le_of_ble_eq_true rfl)⟩ lk1043 lk1009 lk1010 mm_cl5 rfl dX5_takeFirst_21 (c) rfl (hC.1 2 _ rfl) (Nat.le_of_ble_eq_true rfl) rfl rfl ?_
  refine ev_aload_n 25 dX5_takeFirst_24 rfl rfl ?_
  exact ev_aret dX5_takeFirst_25 rfl (Or.inl ⟨_, rfl⟩) (rfl)
theorem lx_X5_insert {n i f : Nat} {φ : Nat → Nat} (hC : lyC B P x o) (hn : n < 250) (hi : i ≤ n) (hs : I (o + 2) 1 = nI n) (tf : mm_T B f = 104) (hφ : ∀ k, k < n → P (o + 3) k = some (φ k) ∧ mm_T B (φ k) = 104) : ∀ (d j : Nat), i + d = j → j ≤ n → ∀ F : Nat → Option Nat, (∀ k, k < n + 1 → F k = if j < k then some (φ (k - 1)) else if k < n then some (φ k) else F k) →
    ∃ F' : Nat → Option Nat, (∀ k, k < n + 1 → F' k = some (if k < i then φ k else if k = i then f else φ (k - 1))) ∧ Ev g mX5_insert 25 [some (.ref (o + 2)), some (.int (nI i)), some (.ref f), some (.int (nI j))] [] B I J (va_up P (o + 3) F) (none, B, va_up I (o + 2) (va_up (I (o + 2)) 1 (nI (n + 1))), J, va_up P (o + 3) F') := by
  intro d
  induction d with
  | zero =>
    intro j hj hjn F hF
    obtain rfl : i = j := by omega
    have hC := lyC_P3 (F := F) hC
    refine ⟨va_up F i (some f), fun k hk => ?_, ?_⟩
    · by_cases c : k = i
      · subst c; rw [va_up_s, if_neg (by omega), if_pos rfl]
      · rw [va_up_n _ _ c, if_neg c, hF k hk]
        by_cases c2 : k < i
        · rw [if_neg (by omega), if_pos (by omega), if_pos c2]
        · rw [if_pos (by omega), if_neg c2]
    · refine ev_iload_n 26 dX5_insert_25 rfl rfl ?_
      refine ev_iload_n 27 dX5_insert_26 rfl rfl ?_
      refine ev_icmp_leN 30 50 dX5_insert_27 (by decide) (by omega) (by omega) rfl (fun hbr => ?_) (fun hx => absurd ((by omega)) hx)
      refine ev_aload_n 51 dX5_insert_50 rfl rfl ?_
      refine ev_getP 54 mm_cl5 (j := 0) (Nat.le_of_ble_eq_true rfl) dX5_insert_51 lk317 (fun _ _ _ => rfl) (hC.1 2 _ rfl) (a := (o + 3)) (hC.2.2.1 4 _ _ _ rfl) rfl ?_
      refine ev_iload_n 55 dX5_insert_54 rfl rfl ?_
      refine ev_aload_n 56 dX5_insert_55 rfl rfl ?_
      refine ev_aast 57 _ 4 dX5_insert_56 (hC.1 3 _ rfl) rfl (by have hNN := hC.2.1 3 _ rfl; omega) (by decide) rfl tf rfl ?_
      rw [va_up_s, bx_uu]
      refine ev_aload_n 58 dX5_insert_57 rfl rfl ?_
      refine ev_dup 59 dX5_insert_58 rfl rfl ?_
      refine ev_getI 62 mm_cl5 (j := 1) (Nat.le_of_ble_eq_true rfl) dX5_insert_59 lk319 (fun _ _ _ => rfl) (hC.1 2 _ rfl) rfl ?_
      refine ev_eqI (y := nI (n)) (hs) ?_
      refine ev_iconstN 63 1 dX5_insert_62 rfl ?_
      refine ev_iaddN 64 dX5_insert_63 rfl ?_
      refine ev_putI 67 mm_cl5 (j := 1) (Nat.le_of_ble_eq_true rfl) dX5_insert_64 lk319 rfl (fun _ _ _ => rfl) rfl rfl (hC.1 2 _ rfl) rfl ?_
      exact ev_vret dX5_insert_67 rfl (rfl)
  | succ d ih =>
    intro j hj hjn F hF
    have hC' := lyC_P3 (F := F) hC
    have tp := (hφ (j - 1) (by omega)).2
    have hj1 : F (j - 1) = some (φ (j - 1)) := by rw [hF _ (by omega), if_neg (by omega), if_pos (by omega)]
    obtain ⟨F', h1, h2⟩ := ih (j - 1) (by omega) (by omega) (va_up F j (some (φ (j - 1)))) (fun k hk => by
      by_cases c : k = j
      · subst c; rw [va_up_s, if_pos (by omega)]
      · rw [va_up_n _ _ c]
        by_cases c2 : j < k
        · rw [if_pos (by omega), hF k hk, if_pos c2]
        · rw [if_neg (by omega), hF k hk, if_neg c2, if_pos (by omega), if_pos (by omega)])
    refine ⟨F', h1, ?_⟩
    have hC := hC'
    refine ev_iload_n 26 dX5_insert_25 rfl rfl ?_
    refine ev_iload_n 27 dX5_insert_26 rfl rfl ?_
    refine ev_icmp_leN 30 50 dX5_insert_27 (by decide) (by omega) (by omega) rfl (fun hx => absurd hx ((by omega))) (fun hbr => ?_)
    refine ev_aload_n 31 dX5_insert_30 rfl rfl ?_
    refine ev_getP 34 mm_cl5 (j := 0) (Nat.le_of_ble_eq_true rfl) dX5_insert_31 lk317 (fun _ _ _ => rfl) (hC.1 2 _ rfl) (a := (o + 3)) (hC.2.2.1 4 _ _ _ rfl) rfl ?_
    refine ev_iload_n 35 dX5_insert_34 rfl rfl ?_
    refine ev_aload_n 36 dX5_insert_35 rfl rfl ?_
    refine ev_getP 39 mm_cl5 (j := 0) (Nat.le_of_ble_eq_true rfl) dX5_insert_36 lk317 (fun _ _ _ => rfl) (hC.1 2 _ rfl) (a := (o + 3)) (hC.2.2.1 4 _ _ _ rfl) rfl ?_
    refine ev_iload_n 40 dX5_insert_39 rfl rfl ?_
    refine ev_iconstN 41 1 dX5_insert_40 rfl ?_
    refine ev_isubN 42 dX5_insert_41 (by omega) rfl ?_
    refine ev_aald 43 _ 4 dX5_insert_42 (hC.1 3 _ rfl) rfl (by have hNN := hC.2.1 3 _ rfl; omega) rfl ?_
    refine ev_eqR (a := (φ (j - 1))) ((by rw [va_up_s]; exact hj1)) ?_
    refine ev_aast 44 _ 4 dX5_insert_43 (hC.1 3 _ rfl) rfl (by have hNN := hC.2.1 3 _ rfl; omega) (by decide) rfl tp rfl ?_
    refine ev_iincM 47 (lv' := [_, _, some (.ref _), _]) 1 dX5_insert_44 rfl (by omega) (Nat.le_of_ble_eq_true rfl) rfl rfl ?_
    refine ev_goto 25 dX5_insert_47 (by decide) ?_
    rw [va_up_s, bx_uu]
    exact h2
theorem cx_X5_insert {n i f : Nat} {φ : Nat → Nat} (hC : lyC B P x o) (hn : n < 250) (hi : i ≤ n) (hs : I (o + 2) 1 = nI n) (tf : mm_T B f = 104) (hφ : ∀ k, k < n → P (o + 3) k = some (φ k) ∧ mm_T B (φ k) = 104) :
    ∃ F' : Nat → Option Nat, Ct g mX5_insert [.ref (o + 2), .int (nI i), .ref f] B I J P (none, B, va_up I (o + 2) (va_up (I (o + 2)) 1 (nI (n + 1))), J, va_up P (o + 3) F') ∧ (∀ k, k < n + 1 → F' k = some (if k < i then φ k else if k = i then f else φ (k - 1))) := by
  obtain ⟨F', h1, h2⟩ := lx_X5_insert (g := g) (B := B) (I := I) (J := J) (P := P) (x := x) (o := o) (i := i) hC hn hi hs tf hφ (n - i) n (by omega) (Nat.le_refl _) (P (o + 3)) (fun k hk => by
    rw [if_neg (by omega)]
    by_cases c : k < n
    · rw [if_pos c]; exact (hφ k c).1
    · rw [if_neg c])
  rw [va_up_id] at h2
  refine ⟨F', ?_, h1⟩
  have fu := ct_X5_isFull (g := g) (B := B) (I := I) (J := J) (P := P) (x := x) (o := o) hC hs (by omega)
  rw [if_neg (by omega)] at fu
  refine ct_of (lv := [some (.ref (o + 2)), some (.int (nI i)), some (.ref f), none]) (by decide +kernel) (Nat.le_of_ble_eq_true rfl) rfl ?_
  refine ev_aload_n 1 dX5_insert_0 rfl rfl ?_
  refine ev_invV 4 (Mc := mX5_isFull) ⟨lk643, lk82, hdX5_isFull, (Nat.le_of_ble_eq_true rfl), (Nat.le_of_ble_eq_true rfl)⟩ lk878 lk641 lk642 mm_cl5 rfl dX5_insert_1 (fu) rfl (hC.1 2 _ rfl) (Nat.le_of_ble_eq_true rfl) rfl rfl ?_
  refine ev_if_neN 7 19 dX5_insert_4 (by decide) (by omega) rfl (fun hx => absurd ((by omega)) hx) (fun hbr => ?_)
  refine ev_iload_n 8 dX5_insert_7 rfl rfl ?_
  refine ev_if_ltN 11 19 dX5_insert_8 (by decide) (by omega) rfl (fun hx => absurd hx (not_false)) (fun hbr => ?_)
  refine ev_iload_n 12 dX5_insert_11 rfl rfl ?_
  refine ev_aload_n 13 dX5_insert_12 rfl rfl ?_
  refine ev_getI 16 mm_cl5 (j := 1) (Nat.le_of_ble_eq_true rfl) dX5_insert_13 lk319 (fun _ _ _ => rfl) (hC.1 2 _ rfl) rfl ?_
  refine ev_eqI (y := nI (n)) (hs) ?_
  refine ev_icmp_leN 19 20 dX5_insert_16 (by decide) (by omega) (by omega) rfl (fun hbr => ?_) (fun hx => absurd ((by omega)) hx)
  refine ev_aload_n 21 dX5_insert_20 rfl rfl ?_
  refine ev_getI 24 mm_cl5 (j := 1) (Nat.le_of_ble_eq_true rfl) dX5_insert_21 lk319 (fun _ _ _ => rfl) (hC.1 2 _ rfl) rfl ?_
  refine ev_eqI (y := nI (n)) (hs) ?_
  refine ev_istore_n 25 (lv' := [_, _, some (.ref _), _]) dX5_insert_24 (Nat.le_of_ble_eq_true rfl) rfl rfl ?_
  exact h2
theorem lx_X12_take {c n i : Nat} (hM : lyM B P m) (hc8 : c < 8) (hn : n ≤ 250) (hi : i < n) (hs : I (m + 28) c = nI n) {lab ri : Nat → Int32} : ∀ (d j : Nat), i ≤ j → j + d = n - 1 → ∀ F G : Nat → Int32, (∀ k, k < n → F (250 * c + k) = if i ≤ k ∧ k < j then lab (k + 1) else lab k) → (∀ k, k < n → G (250 * c + k) = if i ≤ k ∧ k < j then ri (k + 1) else ri k) →
    ∃ F' G' : Nat → Int32, ((∀ k, k + 1 < n → F' (250 * c + k) = lab (sk i k)) ∧ (∀ k, k < 250 * c ∨ 250 * c + 250 ≤ k → F' k = F k)) ∧ ((∀ k, k + 1 < n → G' (250 * c + k) = ri (sk i k)) ∧ (∀ k, k < 250 * c ∨ 250 * c + 250 ≤ k → G' k = G k)) ∧
    Ev g mX12_take 2 [some (.ref m), some (.int (nI c)), some (.int (nI i)), some (.int (nI j))] [] B (va_up (va_up I (m + 29) F) (m + 30) G) J P (none, B, va_up (va_up (va_up I (m + 29) F') (m + 30) G') (m + 28) (va_up (I (m + 28)) c (nI (n - 1))), J, P) := by
  intro d
  induction d with
  | zero =>
    intro j hj hd F G hF hG
    refine ⟨F, G, ⟨fun k hk => ?_, fun k _ => rfl⟩, ⟨fun k hk => ?_, fun k _ => rfl⟩, ?_⟩
    · rw [hF k (by omega)]; unfold sk
      by_cases c : k < i
      · rw [if_pos c, if_neg (by omega)]
      · rw [if_neg c, if_pos (by omega)]
    · rw [hG k (by omega)]; unfold sk
      by_cases c : k < i
      · rw [if_pos c, if_neg (by omega)]
      · rw [if_neg c, if_pos (by omega)]
    · refine ev_iload_n 3 dX12_take_2 rfl rfl ?_
      refine ev_iconstN 4 1 dX12_take_3 rfl ?_
      refine ev_iaddN 5 dX12_take_4 rfl ?_
      refine ev_aload_n 6 dX12_take_5 rfl rfl ?_
      refine ev_getP 9 mm_cl12 (j := 33) (Nat.le_of_ble_eq_true rfl) dX12_take_6 lk1318 (fun _ _ _ => rfl) (hM.1 0 _ rfl) (a := (m + 28)) (hM.2.2 27 _ _ _ rfl) rfl ?_
      refine ev_iload_n 10 dX12_take_9 rfl rfl ?_
      refine ev_iald 11 _ dX12_take_10 (hM.1 28 _ rfl) rfl (by have hNN := hM.2.1 28 _ rfl; omega) rfl ?_
      refine ev_eqI (y := nI (n)) ((by rw [va_up_n _ _ (by omega), va_up_n _ _ (by omega)]; exact hs)) ?_
      refine ev_icmp_geN 14 72 dX12_take_11 (by decide) (by omega) (by omega) rfl (fun hbr => ?_) (fun hx => absurd ((by omega)) hx)
      refine ev_aload_n 73 dX12_take_72 rfl rfl ?_
      refine ev_getP 76 mm_cl12 (j := 33) (Nat.le_of_ble_eq_true rfl) dX12_take_73 lk1318 (fun _ _ _ => rfl) (hM.1 0 _ rfl) (a := (m + 28)) (hM.2.2 27 _ _ _ rfl) rfl ?_
      refine ev_iload_n 77 dX12_take_76 rfl rfl ?_
      refine ev_dup2_11 78 dX12_take_77 rfl rfl rfl ?_
      refine ev_iald 79 _ dX12_take_78 (hM.1 28 _ rfl) rfl (by have hNN := hM.2.1 28 _ rfl; omega) rfl ?_
      refine ev_eqI (y := nI (n)) ((by rw [va_up_n _ _ (by omega), va_up_n _ _ (by omega)]; exact hs)) ?_
      refine ev_iconstN 80 1 dX12_take_79 rfl ?_
      refine ev_isubN 81 dX12_take_80 (by omega) rfl ?_
      refine ev_iast 82 _ dX12_take_81 (hM.1 28 _ rfl) rfl (by have hNN := hM.2.1 28 _ rfl; omega) rfl ?_
      rw [va_up_n _ _ (show m + 28 ≠ m + 30 by omega), va_up_n _ _ (show m + 28 ≠ m + 29 by omega)]
      exact ev_vret dX12_take_82 rfl (rfl)
  | succ d ih =>
    intro j hj hd F G hF hG
    have st : ∀ (K l : Nat → Int32), (∀ k, k < n → K (250 * c + k) = if i ≤ k ∧ k < j then l (k + 1) else l k) → ∀ k, k < n → va_up K (250 * c + j) (l (j + 1)) (250 * c + k) = if i ≤ k ∧ k < j + 1 then l (k + 1) else l k := fun K l hK k hk => by
      by_cases cc : k = j
      · subst cc; rw [va_up_s, if_pos (by omega)]
      · rw [va_up_n _ _ (by omega), hK k hk]
        by_cases c2 : i ≤ k ∧ k < j
        · rw [if_pos c2, if_pos (by omega)]
        · rw [if_neg c2, if_neg (by omega)]
    obtain ⟨F', G', ⟨f1, f2⟩, ⟨g1, g2⟩, e⟩ := ih (j + 1) (by omega) (by omega) (va_up F (250 * c + j) (lab (j + 1))) (va_up G (250 * c + j) (ri (j + 1))) (st F lab hF) (st G ri hG)
    refine ⟨F', G', ⟨f1, fun k hk => by rw [f2 k hk, va_up_n _ _ (by omega)]⟩, ⟨g1, fun k hk => by rw [g2 k hk, va_up_n _ _ (by omega)]⟩, ?_⟩
    refine ev_iload_n 3 dX12_take_2 rfl rfl ?_
    refine ev_iconstN 4 1 dX12_take_3 rfl ?_
    refine ev_iaddN 5 dX12_take_4 rfl ?_
    refine ev_aload_n 6 dX12_take_5 rfl rfl ?_
    refine ev_getP 9 mm_cl12 (j := 33) (Nat.le_of_ble_eq_true rfl) dX12_take_6 lk1318 (fun _ _ _ => rfl) (hM.1 0 _ rfl) (a := (m + 28)) (hM.2.2 27 _ _ _ rfl) rfl ?_
    refine ev_iload_n 10 dX12_take_9 rfl rfl ?_
    refine ev_iald 11 _ dX12_take_10 (hM.1 28 _ rfl) rfl (by have hNN := hM.2.1 28 _ rfl; omega) rfl ?_
    refine ev_eqI (y := nI (n)) ((by rw [va_up_n _ _ (by omega), va_up_n _ _ (by omega)]; exact hs)) ?_
    refine ev_icmp_geN 14 72 dX12_take_11 (by decide) (by omega) (by omega) rfl (fun hx => absurd hx ((by omega))) (fun hbr => ?_)
    refine ev_aload_n 15 dX12_take_14 rfl rfl ?_
    refine ev_getP 18 mm_cl12 (j := 34) (Nat.le_of_ble_eq_true rfl) dX12_take_15 lk1319 (fun _ _ _ => rfl) (hM.1 0 _ rfl) (a := (m + 29)) (hM.2.2 28 _ _ _ rfl) rfl ?_
    refine ev_sipushN 21 250 dX12_take_18 (by decide +kernel) rfl ?_
    refine ev_iload_n 22 dX12_take_21 rfl rfl ?_
    refine ev_imulN 23 dX12_take_22 rfl ?_
    refine ev_iload_n 24 dX12_take_23 rfl rfl ?_
    refine ev_iaddN 25 dX12_take_24 rfl ?_
    refine ev_aload_n 26 dX12_take_25 rfl rfl ?_
    refine ev_getP 29 mm_cl12 (j := 34) (Nat.le_of_ble_eq_true rfl) dX12_take_26 lk1319 (fun _ _ _ => rfl) (hM.1 0 _ rfl) (a := (m + 29)) (hM.2.2 28 _ _ _ rfl) rfl ?_
    refine ev_sipushN 32 250 dX12_take_29 (by decide +kernel) rfl ?_
    refine ev_iload_n 33 dX12_take_32 rfl rfl ?_
    refine ev_imulN 34 dX12_take_33 rfl ?_
    refine ev_iload_n 35 dX12_take_34 rfl rfl ?_
    refine ev_iaddN 36 dX12_take_35 rfl ?_
    refine ev_iconstN 37 1 dX12_take_36 rfl ?_
    refine ev_iaddN 38 dX12_take_37 rfl ?_
    refine ev_iald 39 _ dX12_take_38 (hM.1 29 _ rfl) rfl (by have hNN := hM.2.1 29 _ rfl; omega) rfl ?_
    refine ev_eqI (y := (lab (j + 1))) ((by rw [va_up_n _ _ (by omega), va_up_s, Nat.add_assoc, hF _ (by omega), if_neg (by omega)])) ?_
    refine ev_iast 40 _ dX12_take_39 (hM.1 29 _ rfl) rfl (by have hNN := hM.2.1 29 _ rfl; omega) rfl ?_
    rw [va_3 I (a := m + 29) (b := m + 30) _ _ _ (by omega), va_up_n _ _ (show m + 29 ≠ m + 30 by omega), va_up_s]
    refine ev_aload_n 41 dX12_take_40 rfl rfl ?_
    refine ev_getP 44 mm_cl12 (j := 35) (Nat.le_of_ble_eq_true rfl) dX12_take_41 lk1320 (fun _ _ _ => rfl) (hM.1 0 _ rfl) (a := (m + 30)) (hM.2.2 29 _ _ _ rfl) rfl ?_
    refine ev_sipushN 47 250 dX12_take_44 (by decide +kernel) rfl ?_
    refine ev_iload_n 48 dX12_take_47 rfl rfl ?_
    refine ev_imulN 49 dX12_take_48 rfl ?_
    refine ev_iload_n 50 dX12_take_49 rfl rfl ?_
    refine ev_iaddN 51 dX12_take_50 rfl ?_
    refine ev_aload_n 52 dX12_take_51 rfl rfl ?_
    refine ev_getP 55 mm_cl12 (j := 35) (Nat.le_of_ble_eq_true rfl) dX12_take_52 lk1320 (fun _ _ _ => rfl) (hM.1 0 _ rfl) (a := (m + 30)) (hM.2.2 29 _ _ _ rfl) rfl ?_
    refine ev_sipushN 58 250 dX12_take_55 (by decide +kernel) rfl ?_
    refine ev_iload_n 59 dX12_take_58 rfl rfl ?_
    refine ev_imulN 60 dX12_take_59 rfl ?_
    refine ev_iload_n 61 dX12_take_60 rfl rfl ?_
    refine ev_iaddN 62 dX12_take_61 rfl ?_
    refine ev_iconstN 63 1 dX12_take_62 rfl ?_
    refine ev_iaddN 64 dX12_take_63 rfl ?_
    refine ev_iald 65 _ dX12_take_64 (hM.1 30 _ rfl) rfl (by have hNN := hM.2.1 30 _ rfl; omega) rfl ?_
    refine ev_eqI (y := (ri (j + 1))) ((by rw [va_up_s, Nat.add_assoc, hG _ (by omega), if_neg (by omega)])) ?_
    refine ev_iast 66 _ dX12_take_65 (hM.1 30 _ rfl) rfl (by have hNN := hM.2.1 30 _ rfl; omega) rfl ?_
    rw [va_up_s, bx_uu]
    refine ev_iincN 69 (lv' := [_, _, some (.int _), _]) 1 dX12_take_66 rfl (Nat.le_of_ble_eq_true rfl) rfl rfl ?_
    refine ev_goto 2 dX12_take_69 (by decide) ?_
    exact e
theorem cx_X12_take {c n i : Nat} (hM : lyM B P m) (hc8 : c < 8) (hn : n ≤ 250) (hi : i < n) (hs : I (m + 28) c = nI n) :
    ∃ F' G' : Nat → Int32, ((∀ k, k + 1 < n → F' (250 * c + k) = I (m + 29) (250 * c + sk i k)) ∧ (∀ k, k < 250 * c ∨ 250 * c + 250 ≤ k → F' k = I (m + 29) k)) ∧ ((∀ k, k + 1 < n → G' (250 * c + k) = I (m + 30) (250 * c + sk i k)) ∧ (∀ k, k < 250 * c ∨ 250 * c + 250 ≤ k → G' k = I (m + 30) k)) ∧
    Ct g mX12_take [.ref m, .int (nI c), .int (nI i)] B I J P (none, B, va_up (va_up (va_up I (m + 29) F') (m + 30) G') (m + 28) (va_up (I (m + 28)) c (nI (n - 1))), J, P) := by
  obtain ⟨F', G', f, g', e⟩ := lx_X12_take (g := g) (B := B) (I := I) (J := J) (P := P) (m := m) (lab := fun k => I (m + 29) (250 * c + k)) (ri := fun k => I (m + 30) (250 * c + k)) hM hc8 hn hi hs (n - 1 - i) i (Nat.le_refl _) (by omega) (I (m + 29)) (I (m + 30)) (fun k hk => by rw [if_neg (by omega)]) (fun k hk => by rw [if_neg (by omega)])
  rw [va_up_id, va_up_id] at e
  refine ⟨F', G', f, g', ?_⟩
  refine ct_of (lv := [some (.ref m), some (.int (nI c)), some (.int (nI i)), none]) (by decide +kernel) (Nat.le_of_ble_eq_true rfl) rfl ?_
  refine ev_iload_n 1 dX12_take_0 rfl rfl ?_
  refine ev_istore_n 2 (lv' := [_, _, some (.int _), _]) dX12_take_1 (Nat.le_of_ble_eq_true rfl) rfl rfl ?_
  exact e
theorem lp_X12_firstWith {c n : Nat} {v r : Int32} {lab : Nat → Int32} (hM : lyM B P m) (hc8 : c < 8) (hn : n ≤ 250) (hl : ∀ k, k < n → I (m + 29) (250 * c + k) = lab k) (hr : (r = -1 ∧ ∀ k, k < n → lab k ≠ v) ∨ ∃ i, i < n ∧ r = nI i ∧ lab i = v ∧ ∀ k, k < i → lab k ≠ v) : ∀ (d : Nat) (a : Int32), d ≤ n → ((∀ k, k < d → lab k ≠ v) → a = r) →
    Ev g mX12_firstWith 12 [some (.ref m), some (.int (nI c)), some (.int v), some (.int a), some (.int ((nI d - nI 1)))] [] B I J P (some (.int r), B, I, J, P) := by
  intro d
  induction d with
  | zero =>
    intro a hd h2
    have e := h2 (fun k hk => by omega)
    refine ev_iload 14 dX12_firstWith_12 rfl rfl ?_
    refine ev_if_lt 17 47 dX12_firstWith_14 (by decide) rfl (fun hbr => ?_) (fun hx => absurd (nI_01) hx)
    refine ev_iload_n 48 dX12_firstWith_47 rfl rfl ?_
    exact ev_iret dX12_firstWith_48 rfl ((by rw [e]))
  | succ d ih =>
    intro a hd h2
    rw [nI_s1]
    refine ev_iload 14 dX12_firstWith_12 rfl rfl ?_
    refine ev_if_ltN 17 47 dX12_firstWith_14 (by decide) (by omega) rfl (fun hx => absurd hx (not_false)) (fun hbr => ?_)
    refine ev_aload_n 18 dX12_firstWith_17 rfl rfl ?_
    refine ev_getP 21 mm_cl12 (j := 34) (Nat.le_of_ble_eq_true rfl) dX12_firstWith_18 lk1319 (fun _ _ _ => rfl) (hM.1 0 _ rfl) (a := (m + 29)) (hM.2.2 28 _ _ _ rfl) rfl ?_
    refine ev_sipushN 24 250 dX12_firstWith_21 (by decide +kernel) rfl ?_
    refine ev_iload_n 25 dX12_firstWith_24 rfl rfl ?_
    refine ev_imulN 26 dX12_firstWith_25 rfl ?_
    refine ev_iload 28 dX12_firstWith_26 rfl rfl ?_
    refine ev_iaddN 29 dX12_firstWith_28 rfl ?_
    refine ev_iald 30 _ dX12_firstWith_29 (hM.1 29 _ rfl) rfl (by have hNN := hM.2.1 29 _ rfl; omega) rfl ?_
    refine ev_eqI (y := (lab d)) ((hl d (by omega))) ?_
    refine ev_iload_n 31 dX12_firstWith_30 rfl rfl ?_
    refine ev_icmp_ne 34 39 dX12_firstWith_31 (by decide) rfl (fun hz => ?_) (fun hz => ?_)
    · have e := ih a (by omega) (fun h => h2 (fun k hk => by
            by_cases c : k = d
            · subst c; exact hz
            · exact h k (by omega)))
      refine ev_iload_n 40 dX12_firstWith_39 rfl rfl ?_
      refine ev_istore_n 41 (lv' := [_, _, some (.int _), _, _]) dX12_firstWith_40 (Nat.le_of_ble_eq_true rfl) rfl rfl ?_
      refine ev_iinc 44 (lv' := [_, _, _, some (.int _), _]) dX12_firstWith_41 rfl rfl (Nat.le_of_ble_eq_true rfl) rfl rfl ?_
      refine ev_goto 12 dX12_firstWith_44 (by decide) ?_
      rw [nI_m1]
      exact e
    · have e := ih (nI d) (by omega) (fun h => by
        rcases hr with hh | ⟨i, g1, g2, g3, g4⟩
        · exact absurd hz (hh.2 d (by omega))
        · rcases Nat.lt_trichotomy i d with c | c | c
          · exact absurd g3 (h i c)
          · rw [g2, c]
          · exact absurd hz (g4 d c))
      refine ev_iload 36 dX12_firstWith_34 rfl rfl ?_
      refine ev_goto 40 dX12_firstWith_36 (by decide) ?_
      refine ev_istore_n 41 (lv' := [_, _, some (.int _), _, _]) dX12_firstWith_40 (Nat.le_of_ble_eq_true rfl) rfl rfl ?_
      refine ev_iinc 44 (lv' := [_, _, _, some (.int _), _]) dX12_firstWith_41 rfl rfl (Nat.le_of_ble_eq_true rfl) rfl rfl ?_
      refine ev_goto 12 dX12_firstWith_44 (by decide) ?_
      rw [nI_m1]
      exact e
theorem ct_X12_firstWith {c n : Nat} {v r : Int32} {lab : Nat → Int32} (hM : lyM B P m) (hc8 : c < 8) (hn : n ≤ 250) (hs : I (m + 28) c = nI n) (hl : ∀ k, k < n → I (m + 29) (250 * c + k) = lab k) (hr : (r = -1 ∧ ∀ k, k < n → lab k ≠ v) ∨ ∃ i, i < n ∧ r = nI i ∧ lab i = v ∧ ∀ k, k < i → lab k ≠ v) :
    Ct g mX12_firstWith [.ref m, .int (nI c), .int v] B I J P (some (.int r), B, I, J, P) := by
  have e := lp_X12_firstWith (g := g) (B := B) (I := I) (J := J) (P := P) (m := m) hM hc8 hn hl hr n (-1) (Nat.le_refl _) (fun h => by
    rcases hr with hh | ⟨i, g1, g2, g3, g4⟩
    · exact hh.1.symm
    · exact absurd g3 (h i g1))
  refine ct_of (lv := [some (.ref m), some (.int (nI c)), some (.int v), none, none]) (by decide +kernel) (Nat.le_of_ble_eq_true rfl) rfl ?_
  refine ev_iconst 1 (v := -1) dX12_firstWith_0 (by decide +kernel) rfl ?_
  refine ev_istore_n 2 (lv' := [_, _, some (.int _), _, _]) dX12_firstWith_1 (Nat.le_of_ble_eq_true rfl) rfl rfl ?_
  refine ev_aload_n 3 dX12_firstWith_2 rfl rfl ?_
  refine ev_getP 6 mm_cl12 (j := 33) (Nat.le_of_ble_eq_true rfl) dX12_firstWith_3 lk1318 (fun _ _ _ => rfl) (hM.1 0 _ rfl) (a := (m + 28)) (hM.2.2 27 _ _ _ rfl) rfl ?_
  refine ev_iload_n 7 dX12_firstWith_6 rfl rfl ?_
  refine ev_iald 8 _ dX12_firstWith_7 (hM.1 28 _ rfl) rfl (by have hNN := hM.2.1 28 _ rfl; omega) rfl ?_
  rw [hs]
  refine ev_iconstN 9 1 dX12_firstWith_8 rfl ?_
  refine ev_isub 10 dX12_firstWith_9 rfl ?_
  refine ev_istore 12 (lv' := [_, _, _, some (.int _), _]) dX12_firstWith_10 (Nat.le_of_ble_eq_true rfl) rfl rfl ?_
  exact e
end VL2
