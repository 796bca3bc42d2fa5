/-! one place of the PATH, on both sides -/
theorem nzw_cg {z N : Nat} {st : Int32} {Y Y' : Nat → Int32} (h : ∀ n, n < N → Y n = Y' n) : ∀ n, n < N → nzw z st Y n = nzw z st Y' n := fun n hn => by unfold nzw; rw [h n hn]
theorem nzT_cg {z N : Nat} {st : Int32} {Y Y' : Nat → Int32} (h : ∀ n, n < N → Y n = Y' n) : ∀ n, n ≤ N → nzT z st Y n = nzT z st Y' n := by
  intro n
  induction n with
  | zero => intro _; rfl
  | succ n ih => intro hn; show nzT z st Y n + sp_t (nzw z st Y n) = nzT z st Y' n + sp_t (nzw z st Y' n); rw [ih (by omega), nzw_cg h n (by omega)]
theorem tlw_cg {N : Nat} {c0 : Int32} {Y Y' : Nat → Int32} (h : ∀ n, n < N → Y n = Y' n) : ∀ n, n < N → tlw c0 Y n = tlw c0 Y' n := fun n hn => by
  unfold tlw
  rw [h n hn]
  by_cases c : n = 0
  · rw [if_pos c, if_pos c]
  · rw [if_neg c, if_neg c, h (n - 1) (by omega)]
theorem tlT_cg {N : Nat} {c0 : Int32} {Y Y' : Nat → Int32} (h : ∀ n, n < N → Y n = Y' n) : ∀ n, n ≤ N → tlT c0 Y n = tlT c0 Y' n := by
  intro n
  induction n with
  | zero => intro _; rfl
  | succ n ih => intro hn; show tlT c0 Y n + sp_t (tlw c0 Y n) = tlT c0 Y' n + sp_t (tlw c0 Y' n); rw [ih (by omega), tlw_cg h n (by omega)]
theorem emG_cg {N : Nat} {g0 : Int32} {Y Y' : Nat → Int32} (h : ∀ n, n < N → Y n = Y' n) : ∀ n, n ≤ N → emG g0 Y n = emG g0 Y' n := by
  intro n
  induction n with
  | zero => intro _; rfl
  | succ n ih => intro hn; show sp_S _ = sp_S _; rw [ih (by omega), h n (by omega)]
theorem emT_cg {N : Nat} {g0 : Int32} {Y Y' : Nat → Int32} (h : ∀ n, n < N → Y n = Y' n) : ∀ n, n ≤ N → emT g0 Y n = emT g0 Y' n := by
  intro n
  induction n with
  | zero => intro _; rfl
  | succ n ih => intro hn; show emT g0 Y n + sp_t _ = emT g0 Y' n + sp_t _; rw [ih (by omega), emG_cg h n (by omega), h n (by omega)]
theorem cmY_cg {N lag : Nat} {K K' T T' : Nat → Int32} (hl : lag ≤ 160) (hK : ∀ j, j < 160 → K j = K' j) (h : ∀ n, n < N → T n = T' n) : ∀ n, n ≤ N → (∀ j, j < N → cmY T K lag n j = cmY T' K' lag n j) ∧ cmT T K lag n = cmT T' K' lag n := by
  intro n
  induction n with
  | zero => intro _; exact ⟨h, rfl⟩
  | succ n ih =>
    intro hn
    obtain ⟨h1, h2⟩ := ih (by omega)
    have hw : cmw T K (cmY T K lag n) lag n = cmw T' K' (cmY T' K' lag n) lag n := by
      unfold cmw
      rw [h n (by omega)]
      by_cases c : n < lag
      · rw [if_pos c, if_pos c, hK _ (by omega)]
      · rw [if_neg c, if_neg c, h1 _ (by omega)]
    refine ⟨fun j hj => ?_, ?_⟩
    · show va_up (cmY T K lag n) n (sp_S (cmw T K (cmY T K lag n) lag n)) j = va_up (cmY T' K' lag n) n (sp_S (cmw T' K' (cmY T' K' lag n) lag n)) j
      by_cases c : j = n
      · subst c; rw [va_up_s, va_up_s, hw]
      · rw [va_up_n _ _ c, va_up_n _ _ c]; exact h1 j hj
    · show cmT T K lag n + sp_t _ = cmT T' K' lag n + sp_t _
      rw [h2, hw]
/-- what a filter of kind k gives, how often it saturates, what it marks -/
def fiY (k z : Nat) (c0 g0 : Int32) (K : Nat → Int32) (ga : Int32) (lag N : Nat) (Y : Nat → Int32) : Nat → Int32 :=
  if k = 1 then nzY z (ga >>> (nI 4 &&& 31)) Y else if k = 2 then tlY c0 Y else if k = 3 then cmY (sgp Y 0 N (tlY c0 Y)) K lag N else if k = 4 then (fun n => emG g0 Y (n + 1)) else Y
def fiT (k z : Nat) (c0 g0 : Int32) (K : Nat → Int32) (ga : Int32) (lag N : Nat) (Y : Nat → Int32) : Int64 :=
  if k = 1 then nzT z (ga >>> (nI 4 &&& 31)) Y N else if k = 2 then tlT c0 Y N else if k = 3 then tlT c0 Y N + cmT (sgp Y 0 N (tlY c0 Y)) K lag N else if k = 4 then emT g0 Y N else 0
def fiM (k t : Nat) (F : Nat → Int32) : Nat → Int32 := if k = 0 then F else if k = 3 then va_up (va_up F t (nI 53)) (t + 1) (nI 52) else va_up F t (nI (50 + k))
def fiN (k : Nat) : Nat := if k = 0 then 0 else if k = 3 then 2 else 1
theorem fiY_0 {z lag N : Nat} {c0 g0 ga : Int32} {K Y : Nat → Int32} : fiY 0 z c0 g0 K ga lag N Y = Y := by unfold fiY; rw [if_neg (by omega), if_neg (by omega), if_neg (by omega), if_neg (by omega)]
theorem fiY_1 {z lag N : Nat} {c0 g0 ga : Int32} {K Y : Nat → Int32} : fiY 1 z c0 g0 K ga lag N Y = nzY z (ga >>> (nI 4 &&& 31)) Y := by unfold fiY; rw [if_pos rfl]
theorem fiY_2 {z lag N : Nat} {c0 g0 ga : Int32} {K Y : Nat → Int32} : fiY 2 z c0 g0 K ga lag N Y = tlY c0 Y := by unfold fiY; rw [if_neg (by omega), if_pos rfl]
theorem fiY_3 {z lag N : Nat} {c0 g0 ga : Int32} {K Y : Nat → Int32} : fiY 3 z c0 g0 K ga lag N Y = cmY (sgp Y 0 N (tlY c0 Y)) K lag N := by unfold fiY; rw [if_neg (by omega), if_neg (by omega), if_pos rfl]
theorem fiY_4 {z lag N : Nat} {c0 g0 ga : Int32} {K Y : Nat → Int32} {n : Nat} : fiY 4 z c0 g0 K ga lag N Y n = emG g0 Y (n + 1) := by unfold fiY; rw [if_neg (by omega), if_neg (by omega), if_neg (by omega), if_pos rfl]
theorem fiT_0 {z lag N : Nat} {c0 g0 ga : Int32} {K Y : Nat → Int32} : fiT 0 z c0 g0 K ga lag N Y = 0 := by unfold fiT; rw [if_neg (by omega), if_neg (by omega), if_neg (by omega), if_neg (by omega)]
theorem fiT_1 {z lag N : Nat} {c0 g0 ga : Int32} {K Y : Nat → Int32} : fiT 1 z c0 g0 K ga lag N Y = nzT z (ga >>> (nI 4 &&& 31)) Y N := by unfold fiT; rw [if_pos rfl]
theorem fiT_2 {z lag N : Nat} {c0 g0 ga : Int32} {K Y : Nat → Int32} : fiT 2 z c0 g0 K ga lag N Y = tlT c0 Y N := by unfold fiT; rw [if_neg (by omega), if_pos rfl]
theorem fiT_3 {z lag N : Nat} {c0 g0 ga : Int32} {K Y : Nat → Int32} : fiT 3 z c0 g0 K ga lag N Y = tlT c0 Y N + cmT (sgp Y 0 N (tlY c0 Y)) K lag N := by unfold fiT; rw [if_neg (by omega), if_neg (by omega), if_pos rfl]
theorem fiT_4 {z lag N : Nat} {c0 g0 ga : Int32} {K Y : Nat → Int32} : fiT 4 z c0 g0 K ga lag N Y = emT g0 Y N := by unfold fiT; rw [if_neg (by omega), if_neg (by omega), if_neg (by omega), if_pos rfl]
theorem fiM_x {k t : Nat} {F : Nat → Int32} (h : k ≠ 0) (h3 : k ≠ 3) : fiM k t F = va_up F t (nI (50 + k)) := by unfold fiM; rw [if_neg h, if_neg h3]
theorem fiM_3 {t : Nat} {F : Nat → Int32} : fiM 3 t F = va_up (va_up F t (nI (50 + 3))) (t + 1) (nI 52) := by unfold fiM; rw [if_neg (by omega), if_pos rfl]
theorem fiN_x {k : Nat} (h : k ≠ 0) (h3 : k ≠ 3) : fiN k = 1 := by unfold fiN; rw [if_neg h, if_neg h3]
theorem sgtl_cg {N : Nat} {c0 : Int32} {Y Y' : Nat → Int32} (h : ∀ n, n < N → Y n = Y' n) : ∀ n, n < N → sgp Y 0 N (tlY c0 Y) n = sgp Y' 0 N (tlY c0 Y') n := fun n hn => by
  rw [sg0_in hn, sg0_in hn]
  show sp_S _ = sp_S _
  rw [tlw_cg h n hn]
section VFP
variable {g : mm_G} {B : mm_B} {I : mm_TI} {J : mm_TJ} {P : mm_TP} {x a m : Nat}
theorem cx_X3_pass {k z N lag t : Nat} {c0 g0 ga : Int32} {K Y : Nat → Int32} (hV : lyV B P x) (ta : mm_T B a = 103) (ha : x + 22 ≤ a) (hp : P a 1 = some (a + 1)) (tk : mm_T B (a + 1) = 200) (hk : k ≤ 4) (f0 : I a 0 = nI k) (nk : k = 3 → mm_N B (a + 1) = 160 ∧ ∀ j, j < 160 → I (a + 1) j = K j) (hz : k = 1 → z < 2 ^ 31 ∧ J a 2 = lN z) (h3 : k = 2 ∨ k = 3 → I a 3 = c0) (h4 : k = 4 → I a 4 = g0)
    (hN : N ≤ 320) (hN1 : 160 ≤ N) (hl : 20 ≤ lag) (hl2 : lag ≤ 147) (hY : ∀ n, n < N → I (x + 6) n = Y n) (ht : I (x + 1) 2 = nI t) (h32 : t + 1 < 32) :
    ∃ (I' : mm_TI) (J' : mm_TJ), Ct g mX3_pass [.ref a, .ref (x + 6), .int (nI N), .int ga, .int (nI lag), .ref (x + 1)] B I J P (none, B, I', J', P) ∧ (∀ n, n < N → I' (x + 6) n = fiY k z c0 g0 K ga lag N Y n) ∧ J' (x + 1) 3 = J (x + 1) 3 + fiT k z c0 g0 K ga lag N Y ∧
      I' (x + 3) = fiM k t (I (x + 3)) ∧ I' (x + 1) = va_up (I (x + 1)) 2 (nI (t + fiN k)) ∧ I' a 0 = nI k ∧ (k = 1 → J' a 2 = lN (sp_dz z N)) ∧ (k = 2 ∨ k = 3 → I' a 3 = Y (N - 1)) ∧ (k = 3 → ∀ j, j < 160 → I' (a + 1) j = fiY k z c0 g0 K ga lag N Y (N - 160 + j)) ∧ (k = 4 → I' a 4 = emG g0 Y N) ∧
      (∀ q, q ≠ a → q ≠ a + 1 → q ≠ x + 1 → q ≠ x + 3 → q ≠ x + 6 → I' q = I q) ∧ (∀ q, q ≠ a → q ≠ x + 1 → J' q = J q) := by
  have tsame : va_up (I (x + 1)) 2 (nI (t + 0)) = I (x + 1) := by show va_up _ _ (nI t) = _; rw [← ht, va_up_id]
  have mk := ct_X10_mark (g := g) (B := B) (I := I) (J := J) (P := P) (x := x) (a := nI (50 + k)) (t := t) hV ht (by omega)
  generalize hI1 : va_up (va_up I (x + 3) (va_up (I (x + 3)) t (nI (50 + k)))) (x + 1) (va_up (I (x + 1)) 2 (nI (t + 1))) = I1 at mk
  have a1 : ∀ q, q ≠ x + 3 → q ≠ x + 1 → I1 q = I q := fun q h h' => by rw [← hI1, va_up_n _ _ h', va_up_n _ _ h]
  have e6 : I1 (x + 6) = I (x + 6) := a1 _ (by omega) (by omega)
  have ea : I1 a = I a := a1 _ (by omega) (by omega)
  have e3 : I1 (x + 3) = va_up (I (x + 3)) t (nI (50 + k)) := by rw [← hI1, va_up_n _ _ (by omega), va_up_s]
  have e1 : I1 (x + 1) = va_up (I (x + 1)) 2 (nI (t + 1)) := by rw [← hI1, va_up_s]
  rcases (show k = 0 ∨ k = 1 ∨ k = 2 ∨ k = 3 ∨ k = 4 by omega) with rfl | rfl | rfl | rfl | rfl
  · refine ⟨I, J, ?_, fun n hn => by rw [fiY_0]; exact hY n hn, by rw [fiT_0, Int64.add_zero], rfl, tsame.symm, f0, fun h => by omega, fun h => by omega, fun h => by omega, fun h => by omega, fun _ _ _ _ _ _ => rfl, fun _ _ _ => rfl⟩
    refine ct_of (lv := [some (.ref a), some (.ref (x + 6)), some (.int (nI N)), some (.int ga), some (.int (nI lag)), some (.ref (x + 1))]) (by decide +kernel) (Nat.le_of_ble_eq_true rfl) rfl ?_
    refine ev_aload_n 1 dX3_pass_0 rfl rfl ?_
    refine ev_getI 4 mm_cl3 (j := 0) (Nat.le_of_ble_eq_true rfl) dX3_pass_1 lk453 (fun _ _ _ => rfl) ta rfl ?_
    refine ev_eqI (y := nI (0)) (f0) ?_
    refine ev_if_eqN 7 19 dX3_pass_4 (by decide) (by omega) rfl (fun hbr => ?_) (fun hx => absurd (rfl) hx)
    refine ev_aload_n 20 dX3_pass_19 rfl rfl ?_
    refine ev_getI 23 mm_cl3 (j := 0) (Nat.le_of_ble_eq_true rfl) dX3_pass_20 lk453 (fun _ _ _ => rfl) ta rfl ?_
    refine ev_eqI (y := nI (0)) (f0) ?_
    refine ev_tableOut 116 dX3_pass_23 (by decide) (by decide) ?_
    exact ev_vret dX3_pass_116 rfl (rfl)
  · obtain ⟨z1, z2⟩ := hz rfl
    have c := ct_X3_noise (g := g) (B := B) (I := I1) (J := J) (P := P) (x := x) (a := a) (N := N) (z := z) (st := ga >>> (nI 4 &&& 31)) hV ta ha z1 hN z2
    rw [e6] at c
    refine ⟨va_up I1 (x + 6) (sgp (I (x + 6)) 0 N (nzY z (ga >>> (nI 4 &&& 31)) (I (x + 6)))), va_up (sp_up J (x + 1) 3 (nzT z (ga >>> (nI 4 &&& 31)) (I (x + 6)) N)) a (va_up (J a) 2 (lN (sp_dz z N))), ?ct, fun n hn => ?_, ?_, ?_, ?_, ?_, fun _ => ?_, fun h => by omega, fun h => by omega, fun h => by omega, fun q h1 h2 h3 h4 h5 => ?_, fun q h1 h2 => ?_⟩
    case ct =>
      refine ct_of (lv := [some (.ref a), some (.ref (x + 6)), some (.int (nI N)), some (.int ga), some (.int (nI lag)), some (.ref (x + 1))]) (by decide +kernel) (Nat.le_of_ble_eq_true rfl) rfl ?_
      refine ev_aload_n 1 dX3_pass_0 rfl rfl ?_
      refine ev_getI 4 mm_cl3 (j := 0) (Nat.le_of_ble_eq_true rfl) dX3_pass_1 lk453 (fun _ _ _ => rfl) ta rfl ?_
      refine ev_eqI (y := nI (1)) (f0) ?_
      refine ev_if_eqN 7 19 dX3_pass_4 (by decide) (by omega) rfl (fun hx => absurd hx ((by omega))) (fun hbr => ?_)
      refine ev_aload 9 dX3_pass_7 rfl rfl ?_
      refine ev_bipushN 11 50 dX3_pass_9 (by decide +kernel) rfl ?_
      refine ev_aload_n 12 dX3_pass_11 rfl rfl ?_
      refine ev_getI 15 mm_cl3 (j := 0) (Nat.le_of_ble_eq_true rfl) dX3_pass_12 lk453 (fun _ _ _ => rfl) ta rfl ?_
      refine ev_eqI (y := nI (1)) (f0) ?_
      refine ev_iaddN 16 dX3_pass_15 rfl ?_
      refine ev_invVv 19 (Mc := mX10_mark) ⟨lk665, lk76, hdX10_mark, (Nat.le_of_ble_eq_true rfl), (Nat.le_of_ble_eq_true rfl)⟩ lk1130 lk663 lk664 mm_cl10 rfl dX3_pass_16 (mk) rfl (hV.1 1 _ rfl) (Nat.le_of_ble_eq_true rfl) rfl rfl ?_
      refine ev_aload_n 20 dX3_pass_19 rfl rfl ?_
      refine ev_getI 23 mm_cl3 (j := 0) (Nat.le_of_ble_eq_true rfl) dX3_pass_20 lk453 (fun _ _ _ => rfl) ta rfl ?_
      refine ev_eqI (y := nI (1)) ((by rw [ea]; exact f0)) ?_
      refine ev_tableIn 52 dX3_pass_23 (by decide) (by decide) rfl (by decide) ?_
      refine ev_aload_n 53 dX3_pass_52 rfl rfl ?_
      refine ev_aload_n 54 dX3_pass_53 rfl rfl ?_
      refine ev_iload_n 55 dX3_pass_54 rfl rfl ?_
      refine ev_iload_n 56 dX3_pass_55 rfl rfl ?_
      refine ev_iconstN 57 4 dX3_pass_56 rfl ?_
      refine ev_ishr 58 dX3_pass_57 rfl ?_
      refine ev_aload 60 dX3_pass_58 rfl rfl ?_
      refine ev_invVv 63 (Mc := mX3_addNoise) ⟨lk1134, lk86, hdX3_addNoise, (Nat.le_of_ble_eq_true rfl), (Nat.le_of_ble_eq_true rfl)⟩ lk1131 lk1133 lk29 mm_cl3 rfl dX3_pass_60 (c) rfl ta (Nat.le_of_ble_eq_true rfl) rfl rfl ?_
      refine ev_goto 116 dX3_pass_63 (by decide) ?_
      exact ev_vret dX3_pass_116 rfl (rfl)
    · rw [va_up_s, sg0_in hn]
      rw [fiY_1]
      unfold nzY
      rw [nzw_cg hY n hn]
    · rw [va_up_n _ _ (by omega), sp_up_at]
      rw [fiT_1, nzT_cg hY N (Nat.le_refl _)]
    · rw [va_up_n _ _ (by omega), e3, fiM_x (by omega) (by omega)]
    · rw [va_up_n _ _ (by omega), e1, fiN_x (by omega) (by omega)]
    · rw [va_up_n _ _ (by omega), ea]; exact f0
    · rw [va_up_s, va_up_s]
    · rw [va_up_n _ _ h5, a1 q h4 h3]
    · rw [va_up_n _ _ h1, sp_up_o h2]
  · have c := ct_X3_tilt (g := g) (B := B) (I := I1) (J := J) (P := P) (x := x) (a := a) (N := N) hV ta ha hN (by omega)
    rw [e6, ea, h3 (Or.inl rfl)] at c
    refine ⟨va_up (va_up I1 (x + 6) (sgp (I (x + 6)) 0 N (tlY c0 (I (x + 6))))) a (va_up (I a) 3 (I (x + 6) (N - 1))), sp_up J (x + 1) 3 (tlT c0 (I (x + 6)) N), ?ct, fun n hn => ?_, ?_, ?_, ?_, ?_, fun h => by omega, fun _ => ?_, fun h => by omega, fun h => by omega, fun q h1 h2 h3 h4 h5 => ?_, fun q h1 h2 => ?_⟩
    case ct =>
      refine ct_of (lv := [some (.ref a), some (.ref (x + 6)), some (.int (nI N)), some (.int ga), some (.int (nI lag)), some (.ref (x + 1))]) (by decide +kernel) (Nat.le_of_ble_eq_true rfl) rfl ?_
      refine ev_aload_n 1 dX3_pass_0 rfl rfl ?_
      refine ev_getI 4 mm_cl3 (j := 0) (Nat.le_of_ble_eq_true rfl) dX3_pass_1 lk453 (fun _ _ _ => rfl) ta rfl ?_
      refine ev_eqI (y := nI (2)) (f0) ?_
      refine ev_if_eqN 7 19 dX3_pass_4 (by decide) (by omega) rfl (fun hx => absurd hx ((by omega))) (fun hbr => ?_)
      refine ev_aload 9 dX3_pass_7 rfl rfl ?_
      refine ev_bipushN 11 50 dX3_pass_9 (by decide +kernel) rfl ?_
      refine ev_aload_n 12 dX3_pass_11 rfl rfl ?_
      refine ev_getI 15 mm_cl3 (j := 0) (Nat.le_of_ble_eq_true rfl) dX3_pass_12 lk453 (fun _ _ _ => rfl) ta rfl ?_
      refine ev_eqI (y := nI (2)) (f0) ?_
      refine ev_iaddN 16 dX3_pass_15 rfl ?_
      refine ev_invVv 19 (Mc := mX10_mark) ⟨lk665, lk76, hdX10_mark, (Nat.le_of_ble_eq_true rfl), (Nat.le_of_ble_eq_true rfl)⟩ lk1130 lk663 lk664 mm_cl10 rfl dX3_pass_16 (mk) rfl (hV.1 1 _ rfl) (Nat.le_of_ble_eq_true rfl) rfl rfl ?_
      refine ev_aload_n 20 dX3_pass_19 rfl rfl ?_
      refine ev_getI 23 mm_cl3 (j := 0) (Nat.le_of_ble_eq_true rfl) dX3_pass_20 lk453 (fun _ _ _ => rfl) ta rfl ?_
      refine ev_eqI (y := nI (2)) ((by rw [ea]; exact f0)) ?_
      refine ev_tableIn 66 dX3_pass_23 (by decide) (by decide) rfl (by decide) ?_
      refine ev_aload_n 67 dX3_pass_66 rfl rfl ?_
      refine ev_aload_n 68 dX3_pass_67 rfl rfl ?_
      refine ev_iload_n 69 dX3_pass_68 rfl rfl ?_
      refine ev_aload 71 dX3_pass_69 rfl rfl ?_
      refine ev_invVv 74 (Mc := mX3_tilt) ⟨lk1141, lk86, hdX3_tilt, (Nat.le_of_ble_eq_true rfl), (Nat.le_of_ble_eq_true rfl)⟩ lk1138 lk1140 lk30 mm_cl3 rfl dX3_pass_71 (c) rfl ta (Nat.le_of_ble_eq_true rfl) rfl rfl ?_
      refine ev_goto 116 dX3_pass_74 (by decide) ?_
      exact ev_vret dX3_pass_116 rfl (rfl)
    · rw [va_up_n _ _ (by omega), va_up_s, sg0_in hn]
      rw [fiY_2]
      unfold tlY
      rw [tlw_cg hY n hn]
    · rw [sp_up_at]
      rw [fiT_2, tlT_cg hY N (Nat.le_refl _)]
    · rw [va_up_n _ _ (by omega), va_up_n _ _ (by omega), e3, fiM_x (by omega) (by omega)]
    · rw [va_up_n _ _ (by omega), va_up_n _ _ (by omega), e1, fiN_x (by omega) (by omega)]
    · rw [va_up_s, va_up_n _ _ (by omega)]; exact f0
    · rw [va_up_s, va_up_s]; exact hY _ (by omega)
    · rw [va_up_n _ _ h1, va_up_n _ _ h5, a1 q h4 h3]
    · rw [sp_up_o h2]
  · obtain ⟨n1, n2⟩ := nk rfl
    have mk2 := ct_X10_mark (g := g) (B := B) (I := I1) (J := J) (P := P) (x := x) (a := nI 52) (t := t + 1) hV (by rw [e1, va_up_s]) (by omega)
    generalize hI2 : va_up (va_up I1 (x + 3) (va_up (I1 (x + 3)) (t + 1) (nI 52))) (x + 1) (va_up (I1 (x + 1)) 2 (nI (t + 1 + 1))) = I2 at mk2
    have a2 : ∀ q, q ≠ x + 3 → q ≠ x + 1 → I2 q = I q := fun q h h' => by rw [← hI2, va_up_n _ _ h', va_up_n _ _ h, a1 q h h']
    have c := ct_X3_tilt (g := g) (B := B) (I := I2) (J := J) (P := P) (x := x) (a := a) (N := N) hV ta ha hN (by omega)
    rw [a2 (x + 6) (by omega) (by omega), a2 a (by omega) (by omega), h3 (Or.inr rfl)] at c
    generalize hI3 : va_up (va_up I2 (x + 6) (sgp (I (x + 6)) 0 N (tlY c0 (I (x + 6))))) a (va_up (I a) 3 (I (x + 6) (N - 1))) = I3 at c
    have a3 : ∀ q, q ≠ a → q ≠ x + 6 → I3 q = I2 q := fun q h h' => by rw [← hI3, va_up_n _ _ h, va_up_n _ _ h']
    have e36 : I3 (x + 6) = sgp (I (x + 6)) 0 N (tlY c0 (I (x + 6))) := by rw [← hI3, va_up_n _ _ (by omega), va_up_s]
    have d := ct_X3_comb (g := g) (B := B) (I := I3) (J := sp_up J (x + 1) 3 (tlT c0 (I (x + 6)) N)) (P := P) (x := x) (a := a) (N := N) (lag := lag) (K := K) hV ta ha hp tk n1 hN hN1 hl hl2 (fun j hj => by rw [a3 _ (by omega) (by omega), a2 _ (by omega) (by omega)]; exact n2 j hj)
    rw [e36] at d
    have cg := cmY_cg (N := N) (lag := lag) (K := K) (K' := K) (T := sgp (I (x + 6)) 0 N (tlY c0 (I (x + 6)))) (T' := sgp Y 0 N (tlY c0 Y)) (by omega) (fun _ _ => rfl) (sgtl_cg hY) N (Nat.le_refl _)
    refine ⟨va_up (va_up I3 (x + 6) (cmY (sgp (I (x + 6)) 0 N (tlY c0 (I (x + 6)))) K lag N)) (a + 1) (va_cpy (cmY (sgp (I (x + 6)) 0 N (tlY c0 (I (x + 6)))) K lag N) (I3 (a + 1)) (N - 160) 0 160), sp_up (sp_up J (x + 1) 3 (tlT c0 (I (x + 6)) N)) (x + 1) 3 (cmT (sgp (I (x + 6)) 0 N (tlY c0 (I (x + 6)))) K lag N), ?ct, fun n hn => ?_, ?_, ?_, ?_, ?_, fun h => by omega, fun _ => ?_, fun _ j hj => ?_, fun h => by omega, fun q h1 h2 h3 h4 h5 => ?_, fun q h1 h2 => ?_⟩
    case ct =>
      refine ct_of (lv := [some (.ref a), some (.ref (x + 6)), some (.int (nI N)), some (.int ga), some (.int (nI lag)), some (.ref (x + 1))]) (by decide +kernel) (Nat.le_of_ble_eq_true rfl) rfl ?_
      refine ev_aload_n 1 dX3_pass_0 rfl rfl ?_
      refine ev_getI 4 mm_cl3 (j := 0) (Nat.le_of_ble_eq_true rfl) dX3_pass_1 lk453 (fun _ _ _ => rfl) ta rfl ?_
      refine ev_eqI (y := nI (3)) (f0) ?_
      refine ev_if_eqN 7 19 dX3_pass_4 (by decide) (by omega) rfl (fun hx => absurd hx ((by omega))) (fun hbr => ?_)
      refine ev_aload 9 dX3_pass_7 rfl rfl ?_
      refine ev_bipushN 11 50 dX3_pass_9 (by decide +kernel) rfl ?_
      refine ev_aload_n 12 dX3_pass_11 rfl rfl ?_
      refine ev_getI 15 mm_cl3 (j := 0) (Nat.le_of_ble_eq_true rfl) dX3_pass_12 lk453 (fun _ _ _ => rfl) ta rfl ?_
      refine ev_eqI (y := nI (3)) (f0) ?_
      refine ev_iaddN 16 dX3_pass_15 rfl ?_
      refine ev_invVv 19 (Mc := mX10_mark) ⟨lk665, lk76, hdX10_mark, (Nat.le_of_ble_eq_true rfl), (Nat.le_of_ble_eq_true rfl)⟩ lk1130 lk663 lk664 mm_cl10 rfl dX3_pass_16 (mk) rfl (hV.1 1 _ rfl) (Nat.le_of_ble_eq_true rfl) rfl rfl ?_
      refine ev_aload_n 20 dX3_pass_19 rfl rfl ?_
      refine ev_getI 23 mm_cl3 (j := 0) (Nat.le_of_ble_eq_true rfl) dX3_pass_20 lk453 (fun _ _ _ => rfl) ta rfl ?_
      refine ev_eqI (y := nI (3)) ((by rw [ea]; exact f0)) ?_
      refine ev_tableIn 77 dX3_pass_23 (by decide) (by decide) rfl (by decide) ?_
      refine ev_aload 79 dX3_pass_77 rfl rfl ?_
      refine ev_bipushN 81 52 dX3_pass_79 (by decide +kernel) rfl ?_
      refine ev_invVv 84 (Mc := mX10_mark) ⟨lk665, lk76, hdX10_mark, (Nat.le_of_ble_eq_true rfl), (Nat.le_of_ble_eq_true rfl)⟩ lk1130 lk663 lk664 mm_cl10 rfl dX3_pass_81 (mk2) rfl (hV.1 1 _ rfl) (Nat.le_of_ble_eq_true rfl) rfl rfl ?_
      refine ev_aload_n 85 dX3_pass_84 rfl rfl ?_
      refine ev_aload_n 86 dX3_pass_85 rfl rfl ?_
      refine ev_iload_n 87 dX3_pass_86 rfl rfl ?_
      refine ev_aload 89 dX3_pass_87 rfl rfl ?_
      refine ev_invVv 92 (Mc := mX3_tilt) ⟨lk1141, lk86, hdX3_tilt, (Nat.le_of_ble_eq_true rfl), (Nat.le_of_ble_eq_true rfl)⟩ lk1138 lk1140 lk30 mm_cl3 rfl dX3_pass_89 (c) rfl ta (Nat.le_of_ble_eq_true rfl) rfl rfl ?_
      refine ev_aload_n 93 dX3_pass_92 rfl rfl ?_
      refine ev_aload_n 94 dX3_pass_93 rfl rfl ?_
      refine ev_iload_n 95 dX3_pass_94 rfl rfl ?_
      refine ev_iload 97 dX3_pass_95 rfl rfl ?_
      refine ev_aload 99 dX3_pass_97 rfl rfl ?_
      refine ev_invVv 102 (Mc := mX3_comb) ⟨lk1147, lk86, hdX3_comb, (Nat.le_of_ble_eq_true rfl), (Nat.le_of_ble_eq_true rfl)⟩ lk1144 lk1146 lk31 mm_cl3 rfl dX3_pass_99 (d) rfl ta (Nat.le_of_ble_eq_true rfl) rfl rfl ?_
      refine ev_goto 116 dX3_pass_102 (by decide) ?_
      exact ev_vret dX3_pass_116 rfl (rfl)
    · rw [va_up_n _ _ (by omega), va_up_s, cg.1 n hn, fiY_3]
    · rw [sp_up_up, sp_up_at, cg.2, tlT_cg hY N (Nat.le_refl _), fiT_3]
    · rw [va_up_n _ _ (by omega), va_up_n _ _ (by omega), a3 _ (by omega) (by omega), ← hI2, va_up_n _ _ (by omega), va_up_s, e3, fiM_3]
    · rw [va_up_n _ _ (by omega), va_up_n _ _ (by omega), a3 _ (by omega) (by omega), ← hI2, va_up_s, e1, bx_uu]; rfl
    · rw [va_up_n _ _ (by omega), va_up_n _ _ (by omega), ← hI3, va_up_s, va_up_n _ _ (by omega)]; exact f0
    · rw [va_up_n _ _ (by omega), va_up_n _ _ (by omega), ← hI3, va_up_s, va_up_s]; exact hY _ (by omega)
    · rw [va_up_s, cpy_0 hj, cg.1 _ (by omega), fiY_3]
    · rw [va_up_n _ _ h2, va_up_n _ _ h5, a3 q h1 h5, a2 q h4 h3]
    · rw [sp_up_o h2, sp_up_o h2]
  · have c := ct_X3_emph (g := g) (B := B) (I := I1) (J := J) (P := P) (x := x) (a := a) (N := N) hV ta ha hN
    rw [e6, ea, h4 rfl] at c
    refine ⟨va_up (va_up I1 (x + 6) (sgp (I (x + 6)) 0 N (fun k => emG g0 (I (x + 6)) (k + 1)))) a (va_up (I a) 4 (emG g0 (I (x + 6)) N)), sp_up J (x + 1) 3 (emT g0 (I (x + 6)) N), ?ct, fun n hn => ?_, ?_, ?_, ?_, ?_, fun h => by omega, fun h => by omega, fun h => by omega, fun _ => ?_, fun q h1 h2 h3 h4 h5 => ?_, fun q h1 h2 => ?_⟩
    case ct =>
      refine ct_of (lv := [some (.ref a), some (.ref (x + 6)), some (.int (nI N)), some (.int ga), some (.int (nI lag)), some (.ref (x + 1))]) (by decide +kernel) (Nat.le_of_ble_eq_true rfl) rfl ?_
      refine ev_aload_n 1 dX3_pass_0 rfl rfl ?_
      refine ev_getI 4 mm_cl3 (j := 0) (Nat.le_of_ble_eq_true rfl) dX3_pass_1 lk453 (fun _ _ _ => rfl) ta rfl ?_
      refine ev_eqI (y := nI (4)) (f0) ?_
      refine ev_if_eqN 7 19 dX3_pass_4 (by decide) (by omega) rfl (fun hx => absurd hx ((by omega))) (fun hbr => ?_)
      refine ev_aload 9 dX3_pass_7 rfl rfl ?_
      refine ev_bipushN 11 50 dX3_pass_9 (by decide +kernel) rfl ?_
      refine ev_aload_n 12 dX3_pass_11 rfl rfl ?_
      refine ev_getI 15 mm_cl3 (j := 0) (Nat.le_of_ble_eq_true rfl) dX3_pass_12 lk453 (fun _ _ _ => rfl) ta rfl ?_
      refine ev_eqI (y := nI (4)) (f0) ?_
      refine ev_iaddN 16 dX3_pass_15 rfl ?_
      refine ev_invVv 19 (Mc := mX10_mark) ⟨lk665, lk76, hdX10_mark, (Nat.le_of_ble_eq_true rfl), (Nat.le_of_ble_eq_true rfl)⟩ lk1130 lk663 lk664 mm_cl10 rfl dX3_pass_16 (mk) rfl (hV.1 1 _ rfl) (Nat.le_of_ble_eq_true rfl) rfl rfl ?_
      refine ev_aload_n 20 dX3_pass_19 rfl rfl ?_
      refine ev_getI 23 mm_cl3 (j := 0) (Nat.le_of_ble_eq_true rfl) dX3_pass_20 lk453 (fun _ _ _ => rfl) ta rfl ?_
      refine ev_eqI (y := nI (4)) ((by rw [ea]; exact f0)) ?_
      refine ev_tableIn 105 dX3_pass_23 (by decide) (by decide) rfl (by decide) ?_
      refine ev_aload_n 106 dX3_pass_105 rfl rfl ?_
      refine ev_aload_n 107 dX3_pass_106 rfl rfl ?_
      refine ev_iload_n 108 dX3_pass_107 rfl rfl ?_
      refine ev_aload 110 dX3_pass_108 rfl rfl ?_
      refine ev_invVv 113 (Mc := mX3_emphasize) ⟨lk1153, lk86, hdX3_emphasize, (Nat.le_of_ble_eq_true rfl), (Nat.le_of_ble_eq_true rfl)⟩ lk1150 lk1152 lk32 mm_cl3 rfl dX3_pass_110 (c) rfl ta (Nat.le_of_ble_eq_true rfl) rfl rfl ?_
      refine ev_goto 116 dX3_pass_113 (by decide) ?_
      exact ev_vret dX3_pass_116 rfl (rfl)
    · rw [va_up_n _ _ (by omega), va_up_s, sg0_in hn, emG_cg hY _ (by omega), fiY_4]
    · rw [sp_up_at, emT_cg hY N (Nat.le_refl _), fiT_4]
    · rw [va_up_n _ _ (by omega), va_up_n _ _ (by omega), e3, fiM_x (by omega) (by omega)]
    · rw [va_up_n _ _ (by omega), va_up_n _ _ (by omega), e1, fiN_x (by omega) (by omega)]
    · rw [va_up_s, va_up_n _ _ (by omega)]; exact f0
    · rw [va_up_s, va_up_s, emG_cg hY N (Nat.le_refl _)]
    · rw [va_up_n _ _ h1, va_up_n _ _ h5, a1 q h4 h3]
    · rw [sp_up_o h2]
theorem cx_X12_filter {k z c at_ N lag t : Nat} {c0 g0 ga : Int32} {K Y : Nat → Int32} (hM : lyM B P m) (hc8 : c < 8) (hat : at_ < 32) (hk : k ≤ 4) (f0 : I (m + 48) at_ = nI k) (nk : k = 3 → ∀ j, j < 160 → I (m + 52) (160 * at_ + j) = K j) (hz : k = 1 → z < 2 ^ 31 ∧ I (m + 49) at_ = nI z) (h3 : k = 2 ∨ k = 3 → I (m + 50) at_ = c0) (h4 : k = 4 → I (m + 51) at_ = g0)
    (hN : N ≤ 320) (hN1 : 160 ≤ N) (hl : 20 ≤ lag) (hl2 : lag ≤ 147) (hlag : I (m + 18) (2 * c + 1) = nI lag) (hga : I (m + 35) c = ga) (hY : ∀ n, n < N → I (m + 54) n = Y n) (ht : I m 5 = nI t) (h64 : t + 1 < 64) :
    ∃ (I' : mm_TI) (J' : mm_TJ), Ct g mX12_filter [.ref m, .int (nI c), .int (nI at_), .int (nI N)] B I J P (none, B, I', J', P) ∧ (∀ n, n < N → I' (m + 54) n = fiY k z c0 g0 K ga lag N Y n) ∧ J' = sp_up J m 2 (fiT k z c0 g0 K ga lag N Y) ∧
      I' (m + 2) = fiM k t (I (m + 2)) ∧ I' m = va_up (I m) 5 (nI (t + fiN k)) ∧ (k = 1 → I' (m + 49) at_ = nI (sp_dz z N)) ∧ (k = 2 ∨ k = 3 → I' (m + 50) at_ = Y (N - 1)) ∧ (k = 3 → ∀ j, j < 160 → I' (m + 52) (160 * at_ + j) = fiY k z c0 g0 K ga lag N Y (N - 160 + j)) ∧ (k = 4 → I' (m + 51) at_ = emG g0 Y N) ∧
      (∀ j, j ≠ at_ → I' (m + 49) j = I (m + 49) j) ∧ (∀ j, j ≠ at_ → I' (m + 50) j = I (m + 50) j) ∧ (∀ j, j ≠ at_ → I' (m + 51) j = I (m + 51) j) ∧ (∀ j, j < 160 * at_ ∨ 160 * at_ + 160 ≤ j → I' (m + 52) j = I (m + 52) j) ∧
      (∀ q, q ≠ m → q ≠ m + 2 → q < m + 49 ∨ m + 54 < q ∨ q = m + 53 → I' q = I q) := by
  have tsame : va_up (I m) 5 (nI (t + 0)) = I m := by show va_up _ _ (nI t) = _; rw [← ht, va_up_id]
  have mk := ct_X12_tell (g := g) (B := B) (I := I) (J := J) (P := P) (m := m) (a := nI (50 + k)) (t := t) hM ht (by omega)
  generalize hI1 : va_up (va_up I (m + 2) (va_up (I (m + 2)) t (nI (50 + k)))) m (va_up (I m) 5 (nI (t + 1))) = I1 at mk
  have a1 : ∀ q, q ≠ m + 2 → q ≠ m → I1 q = I q := fun q h h' => by rw [← hI1, va_up_n _ _ h', va_up_n _ _ h]
  have A1 : ∀ j, j = 18 ∨ (31 ≤ j ∧ j ≤ 63) → I1 (m + j) = I (m + j) := fun j hj => a1 _ (by omega) (by omega)
  have e2 : I1 (m + 2) = va_up (I (m + 2)) t (nI (50 + k)) := by rw [← hI1, va_up_n _ _ (by omega), va_up_s]
  have em : I1 m = va_up (I m) 5 (nI (t + 1)) := by rw [← hI1, va_up_s]
  have m0 : ∀ q, q = m + 49 ∨ q = m + 50 ∨ q = m + 51 ∨ q = m + 52 → q ≠ m + 2 ∧ q ≠ m := fun q h => by omega
  rcases (show k = 0 ∨ k = 1 ∨ k = 2 ∨ k = 3 ∨ k = 4 by omega) with rfl | rfl | rfl | rfl | rfl
  · refine ⟨I, J, ?_, fun n hn => by rw [fiY_0]; exact hY n hn, (by rw [fiT_0, sp_up_0]), rfl, tsame.symm, fun h => by omega, fun h => by omega, fun h => by omega, fun h => by omega, fun _ _ => rfl, fun _ _ => rfl, fun _ _ => rfl, fun _ _ => rfl, fun _ _ _ _ => rfl⟩
    refine ct_of (lv := [some (.ref m), some (.int (nI c)), some (.int (nI at_)), some (.int (nI N)), none, none, none, none, none]) (by decide +kernel) (Nat.le_of_ble_eq_true rfl) rfl ?_
    refine ev_aload_n 1 dX12_filter_0 rfl rfl ?_
    refine ev_getP 4 mm_cl12 (j := 54) (Nat.le_of_ble_eq_true rfl) dX12_filter_1 lk1339 (fun _ _ _ => rfl) (hM.1 0 _ rfl) (a := (m + 48)) (hM.2.2 47 _ _ _ rfl) rfl ?_
    refine ev_iload_n 5 dX12_filter_4 rfl rfl ?_
    refine ev_iald 6 _ dX12_filter_5 (hM.1 48 _ rfl) rfl (by have hNN := hM.2.1 48 _ rfl; omega) rfl ?_
    refine ev_eqI (y := nI (0)) (f0) ?_
    refine ev_istore 8 (lv' := [_, _, _, some (.int _), _, _, _, _, _]) dX12_filter_6 (Nat.le_of_ble_eq_true rfl) rfl rfl ?_
    refine ev_iload 10 dX12_filter_8 rfl rfl ?_
    refine ev_if_leN 13 22 dX12_filter_10 (by decide) (by omega) rfl (fun hbr => ?_) (fun hx => absurd ((by omega)) hx)
    refine ev_iload 24 dX12_filter_22 rfl rfl ?_
    refine ev_iconstN 25 3 dX12_filter_24 rfl ?_
    refine ev_icmp_neN 28 34 dX12_filter_25 (by decide) (by omega) (by omega) rfl (fun hbr => ?_) (fun hx => absurd hx ((by omega)))
    refine ev_iconstN 35 0 dX12_filter_34 rfl ?_
    refine ev_istore 37 (lv' := [_, _, _, _, some (.int _), _, _, _, _]) dX12_filter_35 (Nat.le_of_ble_eq_true rfl) rfl rfl ?_
    refine ev_iload 39 dX12_filter_37 rfl rfl ?_
    refine ev_iload_n 40 dX12_filter_39 rfl rfl ?_
    refine ev_icmp_geN 43 311 dX12_filter_40 (by decide) (by omega) (by omega) rfl (fun hx => absurd hx ((by omega))) (fun hbr => ?_)
    refine ev_iload 45 dX12_filter_43 rfl rfl ?_
    refine ev_if_leN 48 311 dX12_filter_45 (by decide) (by omega) rfl (fun hbr => ?_) (fun hx => absurd ((by omega)) hx)
    exact ev_vret dX12_filter_311 rfl (rfl)
  · obtain ⟨z1, z2⟩ := hz rfl
    have e := lp_X12_fi1 (g := g) (B := B) (I := I1) (J := J) (P := P) (m := m) (c := c) (at_ := at_) (N := N) (z := z) (ga := ga) hM hc8 hat z1 hN (by rw [A1 35 (by omega)]; exact hga) rfl N 0 (by omega)
    rw [sgp_0, va_up_id, show nzT z (ga >>> (nI 4 &&& 31)) (I1 (m + 54)) 0 = 0 from rfl, sp_up_0, show sp_dz z 0 = z from rfl, ← z2, A1 49 (by omega), va_up_id, show va_up I1 (m + 49) (I (m + 49)) = I1 by rw [← A1 49 (by omega), va_up_id], A1 54 (by omega)] at e
    refine ⟨va_up (va_up I1 (m + 54) (sgp (I (m + 54)) 0 N (nzY z (ga >>> (nI 4 &&& 31)) (I (m + 54))))) (m + 49) (va_up (I (m + 49)) at_ (nI (sp_dz z N))), sp_up J m 2 (nzT z (ga >>> (nI 4 &&& 31)) (I (m + 54)) N), ?ct, fun n hn => ?_, ?_, ?_, ?_, fun _ => ?_, fun h => by omega, fun h => by omega, fun h => by omega, fun j hj => ?_, fun j hj => ?_, fun j hj => ?_, fun j hj => ?_, fun q h1 h2 h3 => ?_⟩
    case ct =>
      refine ct_of (lv := [some (.ref m), some (.int (nI c)), some (.int (nI at_)), some (.int (nI N)), none, none, none, none, none]) (by decide +kernel) (Nat.le_of_ble_eq_true rfl) rfl ?_
      refine ev_aload_n 1 dX12_filter_0 rfl rfl ?_
      refine ev_getP 4 mm_cl12 (j := 54) (Nat.le_of_ble_eq_true rfl) dX12_filter_1 lk1339 (fun _ _ _ => rfl) (hM.1 0 _ rfl) (a := (m + 48)) (hM.2.2 47 _ _ _ rfl) rfl ?_
      refine ev_iload_n 5 dX12_filter_4 rfl rfl ?_
      refine ev_iald 6 _ dX12_filter_5 (hM.1 48 _ rfl) rfl (by have hNN := hM.2.1 48 _ rfl; omega) rfl ?_
      refine ev_eqI (y := nI (1)) (f0) ?_
      refine ev_istore 8 (lv' := [_, _, _, some (.int _), _, _, _, _, _]) dX12_filter_6 (Nat.le_of_ble_eq_true rfl) rfl rfl ?_
      refine ev_iload 10 dX12_filter_8 rfl rfl ?_
      refine ev_if_leN 13 22 dX12_filter_10 (by decide) (by omega) rfl (fun hx => absurd hx ((by omega))) (fun hbr => ?_)
      refine ev_aload_n 14 dX12_filter_13 rfl rfl ?_
      refine ev_bipushN 16 50 dX12_filter_14 (by decide +kernel) rfl ?_
      refine ev_iload 18 dX12_filter_16 rfl rfl ?_
      refine ev_iaddN 19 dX12_filter_18 rfl ?_
      refine ev_invVv 22 (Mc := mX12_tell) ⟨lk1599, lk80, hdX12_tell, (Nat.le_of_ble_eq_true rfl), (Nat.le_of_ble_eq_true rfl)⟩ lk1596 lk1598 lk41 mm_cl12 rfl dX12_filter_19 (mk) rfl (hM.1 0 _ rfl) (Nat.le_of_ble_eq_true rfl) rfl rfl ?_
      refine ev_iload 24 dX12_filter_22 rfl rfl ?_
      refine ev_iconstN 25 3 dX12_filter_24 rfl ?_
      refine ev_icmp_neN 28 34 dX12_filter_25 (by decide) (by omega) (by omega) rfl (fun hbr => ?_) (fun hx => absurd hx ((by omega)))
      refine ev_iconstN 35 0 dX12_filter_34 rfl ?_
      refine ev_istore 37 (lv' := [_, _, _, _, some (.int _), _, _, _, _]) dX12_filter_35 (Nat.le_of_ble_eq_true rfl) rfl rfl ?_
      exact e
    · rw [va_up_n _ _ (by omega), va_up_s, sg0_in hn]
      rw [fiY_1]
      unfold nzY
      rw [nzw_cg hY n hn]
    · rw [fiT_1, nzT_cg hY N (Nat.le_refl _)]
    · rw [va_up_n _ _ (by omega), va_up_n _ _ (by omega), e2, fiM_x (by omega) (by omega)]
    · rw [va_up_n _ _ (by omega), va_up_n _ _ (by omega), em, fiN_x (by omega) (by omega)]
    · rw [va_up_s, va_up_s]
    · rw [va_up_s, va_up_n _ _ hj]
    · rw [va_up_n _ _ (by omega), va_up_n _ _ (by omega), A1 50 (by omega)]
    · rw [va_up_n _ _ (by omega), va_up_n _ _ (by omega), A1 51 (by omega)]
    · rw [va_up_n _ _ (by omega), va_up_n _ _ (by omega), A1 52 (by omega)]
    · rw [va_up_n _ _ (by omega), va_up_n _ _ (by omega), a1 q h2 h1]
  · have e := lp_X12_fi2 (g := g) (B := B) (I := I1) (J := J) (P := P) (m := m) (c := c) (at_ := at_) (N := N) (c0 := c0) hM hc8 hat hN rfl N 0 (by omega)
    rw [sgp_0, va_up_id, show tlT c0 (I1 (m + 54)) 0 = 0 from rfl, sp_up_0, if_pos rfl, ← h3 (Or.inl rfl), A1 50 (by omega), va_up_id, show va_up I1 (m + 50) (I (m + 50)) = I1 by rw [← A1 50 (by omega), va_up_id], A1 54 (by omega), h3 (Or.inl rfl), if_neg (show ¬ N = 0 by omega)] at e
    refine ⟨va_up (va_up I1 (m + 54) (sgp (I (m + 54)) 0 N (tlY c0 (I (m + 54))))) (m + 50) (va_up (I (m + 50)) at_ (I (m + 54) (N - 1))), sp_up J m 2 (tlT c0 (I (m + 54)) N), ?ct, fun n hn => ?_, ?_, ?_, ?_, fun h => by omega, fun _ => ?_, fun h => by omega, fun h => by omega, fun j hj => ?_, fun j hj => ?_, fun j hj => ?_, fun j hj => ?_, fun q h1 h2 h3 => ?_⟩
    case ct =>
      refine ct_of (lv := [some (.ref m), some (.int (nI c)), some (.int (nI at_)), some (.int (nI N)), none, none, none, none, none]) (by decide +kernel) (Nat.le_of_ble_eq_true rfl) rfl ?_
      refine ev_aload_n 1 dX12_filter_0 rfl rfl ?_
      refine ev_getP 4 mm_cl12 (j := 54) (Nat.le_of_ble_eq_true rfl) dX12_filter_1 lk1339 (fun _ _ _ => rfl) (hM.1 0 _ rfl) (a := (m + 48)) (hM.2.2 47 _ _ _ rfl) rfl ?_
      refine ev_iload_n 5 dX12_filter_4 rfl rfl ?_
      refine ev_iald 6 _ dX12_filter_5 (hM.1 48 _ rfl) rfl (by have hNN := hM.2.1 48 _ rfl; omega) rfl ?_
      refine ev_eqI (y := nI (2)) (f0) ?_
      refine ev_istore 8 (lv' := [_, _, _, some (.int _), _, _, _, _, _]) dX12_filter_6 (Nat.le_of_ble_eq_true rfl) rfl rfl ?_
      refine ev_iload 10 dX12_filter_8 rfl rfl ?_
      refine ev_if_leN 13 22 dX12_filter_10 (by decide) (by omega) rfl (fun hx => absurd hx ((by omega))) (fun hbr => ?_)
      refine ev_aload_n 14 dX12_filter_13 rfl rfl ?_
      refine ev_bipushN 16 50 dX12_filter_14 (by decide +kernel) rfl ?_
      refine ev_iload 18 dX12_filter_16 rfl rfl ?_
      refine ev_iaddN 19 dX12_filter_18 rfl ?_
      refine ev_invVv 22 (Mc := mX12_tell) ⟨lk1599, lk80, hdX12_tell, (Nat.le_of_ble_eq_true rfl), (Nat.le_of_ble_eq_true rfl)⟩ lk1596 lk1598 lk41 mm_cl12 rfl dX12_filter_19 (mk) rfl (hM.1 0 _ rfl) (Nat.le_of_ble_eq_true rfl) rfl rfl ?_
      refine ev_iload 24 dX12_filter_22 rfl rfl ?_
      refine ev_iconstN 25 3 dX12_filter_24 rfl ?_
      refine ev_icmp_neN 28 34 dX12_filter_25 (by decide) (by omega) (by omega) rfl (fun hbr => ?_) (fun hx => absurd hx ((by omega)))
      refine ev_iconstN 35 0 dX12_filter_34 rfl ?_
      refine ev_istore 37 (lv' := [_, _, _, _, some (.int _), _, _, _, _]) dX12_filter_35 (Nat.le_of_ble_eq_true rfl) rfl rfl ?_
      exact e
    · rw [va_up_n _ _ (by omega), va_up_s, sg0_in hn]
      rw [fiY_2]
      unfold tlY
      rw [tlw_cg hY n hn]
    · rw [fiT_2, tlT_cg hY N (Nat.le_refl _)]
    · rw [va_up_n _ _ (by omega), va_up_n _ _ (by omega), e2, fiM_x (by omega) (by omega)]
    · rw [va_up_n _ _ (by omega), va_up_n _ _ (by omega), em, fiN_x (by omega) (by omega)]
    · rw [va_up_s, va_up_s]; exact hY _ (by omega)
    · rw [va_up_n _ _ (by omega), va_up_n _ _ (by omega), A1 49 (by omega)]
    · rw [va_up_s, va_up_n _ _ hj]
    · rw [va_up_n _ _ (by omega), va_up_n _ _ (by omega), A1 51 (by omega)]
    · rw [va_up_n _ _ (by omega), va_up_n _ _ (by omega), A1 52 (by omega)]
    · rw [va_up_n _ _ (by omega), va_up_n _ _ (by omega), a1 q h2 h1]
  · have mk2 := ct_X12_tell (g := g) (B := B) (I := I1) (J := J) (P := P) (m := m) (a := nI 52) (t := t + 1) hM (by rw [em, va_up_s]) (by omega)
    generalize hI2 : va_up (va_up I1 (m + 2) (va_up (I1 (m + 2)) (t + 1) (nI 52))) m (va_up (I1 m) 5 (nI (t + 1 + 1))) = I2 at mk2
    have a2 : ∀ q, q ≠ m + 2 → q ≠ m → I2 q = I q := fun q h h' => by rw [← hI2, va_up_n _ _ h', va_up_n _ _ h, a1 q h h']
    have A2 : ∀ j, j = 18 ∨ (31 ≤ j ∧ j ≤ 63) → I2 (m + j) = I (m + j) := fun j hj => a2 _ (by omega) (by omega)
    have cg := cmY_cg (N := N) (lag := lag) (K := K) (K' := K) (T := sgp (I (m + 54)) 0 N (tlY c0 (I (m + 54)))) (T' := sgp Y 0 N (tlY c0 Y)) (by omega) (fun _ _ => rfl) (sgtl_cg hY) N (Nat.le_refl _)
    obtain ⟨G', g1, g2, e⟩ := lx_X12_fi3 (g := g) (B := B) (I := I2) (J := J) (P := P) (m := m) (c := c) (at_ := at_) (N := N) (lag := lag) (c0 := c0) (Y := I (m + 54)) (K := K) (T := sgp (I (m + 54)) 0 N (tlY c0 (I (m + 54)))) (V := cmY (sgp (I (m + 54)) 0 N (tlY c0 (I (m + 54)))) K lag N) hM hc8 hat hN hl hl2 (by rw [A2 18 (by omega)]; exact hlag) (A2 54 (by omega)) (fun n hn => sg0_in hn) rfl N 0 (by omega) (I (m + 52)) (fun j hj => by rw [Nat.add_zero, if_pos (by omega)]; exact nk rfl j hj)
    rw [sgp_0, show tlT c0 (I (m + 54)) 0 + cmT (sgp (I (m + 54)) 0 N (tlY c0 (I (m + 54)))) K lag 0 = 0 from Int64.add_zero 0, sp_up_0, if_pos rfl, ← h3 (Or.inr rfl), A2 50 (by omega), va_up_id, show va_up I2 (m + 54) (I (m + 54)) = I2 by rw [← A2 54 (by omega), va_up_id], show va_up I2 (m + 50) (I (m + 50)) = I2 by rw [← A2 50 (by omega), va_up_id], show va_up I2 (m + 52) (I (m + 52)) = I2 by rw [← A2 52 (by omega), va_up_id], h3 (Or.inr rfl), if_neg (show ¬ N = 0 by omega)] at e
    refine ⟨va_up (va_up (va_up I2 (m + 54) (sgp (I (m + 54)) 0 N (cmY (sgp (I (m + 54)) 0 N (tlY c0 (I (m + 54)))) K lag N))) (m + 50) (va_up (I (m + 50)) at_ (I (m + 54) (N - 1)))) (m + 52) G', sp_up J m 2 (tlT c0 (I (m + 54)) N + cmT (sgp (I (m + 54)) 0 N (tlY c0 (I (m + 54)))) K lag N), ?ct, fun n hn => ?_, ?_, ?_, ?_, fun h => by omega, fun _ => ?_, fun _ j hj => ?_, fun h => by omega, fun j hj => ?_, fun j hj => ?_, fun j hj => ?_, fun j hj => ?_, fun q h1 h2 h3 => ?_⟩
    case ct =>
      refine ct_of (lv := [some (.ref m), some (.int (nI c)), some (.int (nI at_)), some (.int (nI N)), none, none, none, none, none]) (by decide +kernel) (Nat.le_of_ble_eq_true rfl) rfl ?_
      refine ev_aload_n 1 dX12_filter_0 rfl rfl ?_
      refine ev_getP 4 mm_cl12 (j := 54) (Nat.le_of_ble_eq_true rfl) dX12_filter_1 lk1339 (fun _ _ _ => rfl) (hM.1 0 _ rfl) (a := (m + 48)) (hM.2.2 47 _ _ _ rfl) rfl ?_
      refine ev_iload_n 5 dX12_filter_4 rfl rfl ?_
      refine ev_iald 6 _ dX12_filter_5 (hM.1 48 _ rfl) rfl (by have hNN := hM.2.1 48 _ rfl; omega) rfl ?_
      refine ev_eqI (y := nI (3)) (f0) ?_
      refine ev_istore 8 (lv' := [_, _, _, some (.int _), _, _, _, _, _]) dX12_filter_6 (Nat.le_of_ble_eq_true rfl) rfl rfl ?_
      refine ev_iload 10 dX12_filter_8 rfl rfl ?_
      refine ev_if_leN 13 22 dX12_filter_10 (by decide) (by omega) rfl (fun hx => absurd hx ((by omega))) (fun hbr => ?_)
      refine ev_aload_n 14 dX12_filter_13 rfl rfl ?_
      refine ev_bipushN 16 50 dX12_filter_14 (by decide +kernel) rfl ?_
      refine ev_iload 18 dX12_filter_16 rfl rfl ?_
      refine ev_iaddN 19 dX12_filter_18 rfl ?_
      refine ev_invVv 22 (Mc := mX12_tell) ⟨lk1599, lk80, hdX12_tell, (Nat.le_of_ble_eq_true rfl), (Nat.le_of_ble_eq_true rfl)⟩ lk1596 lk1598 lk41 mm_cl12 rfl dX12_filter_19 (mk) rfl (hM.1 0 _ rfl) (Nat.le_of_ble_eq_true rfl) rfl rfl ?_
      refine ev_iload 24 dX12_filter_22 rfl rfl ?_
      refine ev_iconstN 25 3 dX12_filter_24 rfl ?_
      refine ev_icmp_neN 28 34 dX12_filter_25 (by decide) (by omega) (by omega) rfl (fun hx => absurd ((by omega)) hx) (fun hbr => ?_)
      refine ev_aload_n 29 dX12_filter_28 rfl rfl ?_
      refine ev_bipushN 31 52 dX12_filter_29 (by decide +kernel) rfl ?_
      refine ev_invVv 34 (Mc := mX12_tell) ⟨lk1599, lk80, hdX12_tell, (Nat.le_of_ble_eq_true rfl), (Nat.le_of_ble_eq_true rfl)⟩ lk1596 lk1598 lk41 mm_cl12 rfl dX12_filter_31 (mk2) rfl (hM.1 0 _ rfl) (Nat.le_of_ble_eq_true rfl) rfl rfl ?_
      refine ev_iconstN 35 0 dX12_filter_34 rfl ?_
      refine ev_istore 37 (lv' := [_, _, _, _, some (.int _), _, _, _, _]) dX12_filter_35 (Nat.le_of_ble_eq_true rfl) rfl rfl ?_
      exact e
    · rw [va_up_n _ _ (by omega), va_up_n _ _ (by omega), va_up_s, sg0_in hn, cg.1 n hn, fiY_3]
    · rw [cg.2, tlT_cg hY N (Nat.le_refl _), fiT_3]
    · rw [va_up_n _ _ (by omega), va_up_n _ _ (by omega), va_up_n _ _ (by omega), ← hI2, va_up_n _ _ (by omega), va_up_s, e2, fiM_3]
    · rw [va_up_n _ _ (by omega), va_up_n _ _ (by omega), va_up_n _ _ (by omega), ← hI2, va_up_s, em, bx_uu]; rfl
    · rw [va_up_n _ _ (by omega), va_up_s, va_up_s]; exact hY _ (by omega)
    · rw [va_up_s, g1 j hj, if_neg (by omega), show j + N - 160 = N - 160 + j by omega, cg.1 _ (by omega), fiY_3]
    · rw [va_up_n _ _ (by omega), va_up_n _ _ (by omega), va_up_n _ _ (by omega), A2 49 (by omega)]
    · rw [va_up_n _ _ (by omega), va_up_s, va_up_n _ _ hj]
    · rw [va_up_n _ _ (by omega), va_up_n _ _ (by omega), va_up_n _ _ (by omega), A2 51 (by omega)]
    · rw [va_up_s, g2 j hj]
    · rw [va_up_n _ _ (by omega), va_up_n _ _ (by omega), va_up_n _ _ (by omega), a2 q h2 h1]
  · have e := lp_X12_fi4 (g := g) (B := B) (I := I1) (J := J) (P := P) (m := m) (c := c) (at_ := at_) (N := N) (g0 := g0) hM hc8 hat hN rfl N 0 (by omega)
    rw [sgp_0, va_up_id, show emT g0 (I1 (m + 54)) 0 = 0 from rfl, sp_up_0, show emG g0 (I1 (m + 54)) 0 = g0 from rfl, ← h4 rfl, A1 51 (by omega), va_up_id, show va_up I1 (m + 51) (I (m + 51)) = I1 by rw [← A1 51 (by omega), va_up_id], A1 54 (by omega), h4 rfl] at e
    refine ⟨va_up (va_up I1 (m + 54) (sgp (I (m + 54)) 0 N (fun k => emG g0 (I (m + 54)) (k + 1)))) (m + 51) (va_up (I (m + 51)) at_ (emG g0 (I (m + 54)) N)), sp_up J m 2 (emT g0 (I (m + 54)) N), ?ct, fun n hn => ?_, ?_, ?_, ?_, fun h => by omega, fun h => by omega, fun h => by omega, fun _ => ?_, fun j hj => ?_, fun j hj => ?_, fun j hj => ?_, fun j hj => ?_, fun q h1 h2 h3 => ?_⟩
    case ct =>
      refine ct_of (lv := [some (.ref m), some (.int (nI c)), some (.int (nI at_)), some (.int (nI N)), none, none, none, none, none]) (by decide +kernel) (Nat.le_of_ble_eq_true rfl) rfl ?_
      refine ev_aload_n 1 dX12_filter_0 rfl rfl ?_
      refine ev_getP 4 mm_cl12 (j := 54) (Nat.le_of_ble_eq_true rfl) dX12_filter_1 lk1339 (fun _ _ _ => rfl) (hM.1 0 _ rfl) (a := (m + 48)) (hM.2.2 47 _ _ _ rfl) rfl ?_
      refine ev_iload_n 5 dX12_filter_4 rfl rfl ?_
      refine ev_iald 6 _ dX12_filter_5 (hM.1 48 _ rfl) rfl (by have hNN := hM.2.1 48 _ rfl; omega) rfl ?_
      refine ev_eqI (y := nI (4)) (f0) ?_
      refine ev_istore 8 (lv' := [_, _, _, some (.int _), _, _, _, _, _]) dX12_filter_6 (Nat.le_of_ble_eq_true rfl) rfl rfl ?_
      refine ev_iload 10 dX12_filter_8 rfl rfl ?_
      refine ev_if_leN 13 22 dX12_filter_10 (by decide) (by omega) rfl (fun hx => absurd hx ((by omega))) (fun hbr => ?_)
      refine ev_aload_n 14 dX12_filter_13 rfl rfl ?_
      refine ev_bipushN 16 50 dX12_filter_14 (by decide +kernel) rfl ?_
      refine ev_iload 18 dX12_filter_16 rfl rfl ?_
      refine ev_iaddN 19 dX12_filter_18 rfl ?_
      refine ev_invVv 22 (Mc := mX12_tell) ⟨lk1599, lk80, hdX12_tell, (Nat.le_of_ble_eq_true rfl), (Nat.le_of_ble_eq_true rfl)⟩ lk1596 lk1598 lk41 mm_cl12 rfl dX12_filter_19 (mk) rfl (hM.1 0 _ rfl) (Nat.le_of_ble_eq_true rfl) rfl rfl ?_
      refine ev_iload 24 dX12_filter_22 rfl rfl ?_
      refine ev_iconstN 25 3 dX12_filter_24 rfl ?_
      refine ev_icmp_neN 28 34 dX12_filter_25 (by decide) (by omega) (by omega) rfl (fun hbr => ?_) (fun hx => absurd hx ((by omega)))
      refine ev_iconstN 35 0 dX12_filter_34 rfl ?_
      refine ev_istore 37 (lv' := [_, _, _, _, some (.int _), _, _, _, _]) dX12_filter_35 (Nat.le_of_ble_eq_true rfl) rfl rfl ?_
      exact e
    · rw [va_up_n _ _ (by omega), va_up_s, sg0_in hn, emG_cg hY _ (by omega), fiY_4]
    · rw [emT_cg hY N (Nat.le_refl _), fiT_4]
    · rw [va_up_n _ _ (by omega), va_up_n _ _ (by omega), e2, fiM_x (by omega) (by omega)]
    · rw [va_up_n _ _ (by omega), va_up_n _ _ (by omega), em, fiN_x (by omega) (by omega)]
    · rw [va_up_s, va_up_s, emG_cg hY N (Nat.le_refl _)]
    · rw [va_up_n _ _ (by omega), va_up_n _ _ (by omega), A1 49 (by omega)]
    · rw [va_up_n _ _ (by omega), va_up_n _ _ (by omega), A1 50 (by omega)]
    · rw [va_up_s, va_up_n _ _ hj]
    · rw [va_up_n _ _ (by omega), va_up_n _ _ (by omega), A1 52 (by omega)]
    · rw [va_up_n _ _ (by omega), va_up_n _ _ (by omega), a1 q h2 h1]
end VFP
