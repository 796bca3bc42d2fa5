theorem sp_cl_i {v : Int64} : sp_cl v = if 31 < v then 31 else if v < -31 then -31 else v := by
  unfold sp_cl
  simp only [Int64.lt_iff_toInt_lt]
  have e1 : (31 : Int64).toInt = 31 := by decide +kernel
  have e2 : (-31 : Int64).toInt = -31 := by decide +kernel
  rw [e1, e2]
  by_cases h : v.toInt < -31
  · rw [if_pos h, if_neg (by omega), if_pos h]
  · rw [if_neg h]
    by_cases h2 : 31 < v.toInt
    · rw [if_pos h2, if_pos h2]
    · rw [if_neg h2, if_neg h2, if_neg h]
theorem sp_up_f (A : mm_TJ) (q j : Nat) (t : Int64) : va_up A q (va_up (A q) j (A q j + t)) = sp_up A q j t := rfl
section MOP
variable {g : mm_G} {B : mm_B} {I : mm_TI} {J : mm_TJ} {P : mm_TP} {m : Nat}
theorem ct_X12_word32 {w : Int64} (hM : lyM B P m) : Ct g mX12_word32 [.ref m, .long w] B I J P (some (.long (sp_W w)), B, I, sp_up J m 2 (sp_tW w), P) := by
  have big : 2147483647 < w → (0 : Int64) < w ∧ ¬ w < -2147483648 := fun h => by
    simp only [Int64.lt_iff_toInt_lt] at h ⊢
    have e1 : (2147483647 : Int64).toInt = 2147483647 := by decide +kernel
    have e2 : (0 : Int64).toInt = 0 := by decide +kernel
    have e3 : (-2147483648 : Int64).toInt = -2147483648 := by decide +kernel
    omega
  have low : w < -2147483648 → ¬ (0 : Int64) < w ∧ ¬ 2147483647 < w := fun h => by
    simp only [Int64.lt_iff_toInt_lt] at h ⊢
    have e1 : (2147483647 : Int64).toInt = 2147483647 := by decide +kernel
    have e2 : (0 : Int64).toInt = 0 := by decide +kernel
    have e3 : (-2147483648 : Int64).toInt = -2147483648 := by decide +kernel
    omega
  refine ct_of (lv := [some (.ref m), some (.long w), none]) (by decide +kernel) (Nat.le_of_ble_eq_true rfl) rfl ?_
  refine ev_lload_n 1 dX12_word32_0 rfl rfl ?_
  refine ev_ldc2 4 dX12_word32_1 lk1588 rfl ?_
  refine ev_lcmp 5 dX12_word32_4 rfl ?_
  refine ev_lc_gt 8 16 dX12_word32_5 (by decide) rfl (fun h1 => ?_) (fun h1 => ?_)
  · refine ev_aload_n 17 dX12_word32_16 rfl rfl ?_
    refine ev_dup 18 dX12_word32_17 rfl rfl ?_
    refine ev_getJ 21 mm_cl12 (j := 2) (Nat.le_of_ble_eq_true rfl) dX12_word32_18 lk1287 (fun _ _ _ => rfl) (hM.1 0 _ rfl) rfl ?_
    refine ev_lconst 22 (v := 1) dX12_word32_21 (by decide +kernel) rfl ?_
    refine ev_ladd 23 dX12_word32_22 rfl ?_
    refine ev_putJ 26 mm_cl12 (j := 2) (Nat.le_of_ble_eq_true rfl) dX12_word32_23 lk1287 rfl (fun _ _ _ => rfl) rfl rfl (hM.1 0 _ rfl) rfl ?_
    refine ev_lload_n 27 dX12_word32_26 rfl rfl ?_
    refine ev_lconst 28 (v := 0) dX12_word32_27 (by decide +kernel) rfl ?_
    refine ev_lcmp 29 dX12_word32_28 rfl ?_
    refine ev_lc_le 32 38 dX12_word32_29 (by decide) rfl (fun hx => absurd ((big h1).1) hx) (fun hbr => ?_)
    refine ev_ldc2 35 dX12_word32_32 lk1588 rfl ?_
    refine ev_goto 41 dX12_word32_35 (by decide) ?_
    rw [show sp_W w = 2147483647 by unfold sp_W; rw [if_neg (big h1).2, if_pos h1], show sp_tW w = 1 by unfold sp_tW; rw [if_pos (Or.inr h1)]]
    exact ev_lret dX12_word32_41 rfl (rfl)
  · refine ev_lload_n 9 dX12_word32_8 rfl rfl ?_
    refine ev_ldc2 12 dX12_word32_9 lk1647 rfl ?_
    refine ev_lcmp 13 dX12_word32_12 rfl ?_
    refine ev_lc_ge 16 42 dX12_word32_13 (by decide) rfl (fun h2 => ?_) (fun h2 => ?_)
    · refine ev_lload_n 43 dX12_word32_42 rfl rfl ?_
      rw [show sp_W w = w by unfold sp_W; rw [if_neg h2, if_neg h1], show sp_tW w = 0 by unfold sp_tW; rw [if_neg (fun h => h.elim h2 h1)], sp_up_0]
      exact ev_lret dX12_word32_43 rfl (rfl)
    · refine ev_aload_n 17 dX12_word32_16 rfl rfl ?_
      refine ev_dup 18 dX12_word32_17 rfl rfl ?_
      refine ev_getJ 21 mm_cl12 (j := 2) (Nat.le_of_ble_eq_true rfl) dX12_word32_18 lk1287 (fun _ _ _ => rfl) (hM.1 0 _ rfl) rfl ?_
      refine ev_lconst 22 (v := 1) dX12_word32_21 (by decide +kernel) rfl ?_
      refine ev_ladd 23 dX12_word32_22 rfl ?_
      refine ev_putJ 26 mm_cl12 (j := 2) (Nat.le_of_ble_eq_true rfl) dX12_word32_23 lk1287 rfl (fun _ _ _ => rfl) rfl rfl (hM.1 0 _ rfl) rfl ?_
      refine ev_lload_n 27 dX12_word32_26 rfl rfl ?_
      refine ev_lconst 28 (v := 0) dX12_word32_27 (by decide +kernel) rfl ?_
      refine ev_lcmp 29 dX12_word32_28 rfl ?_
      refine ev_lc_le 32 38 dX12_word32_29 (by decide) rfl (fun hbr => ?_) (fun hx => absurd hx ((low h2).1))
      refine ev_ldc2 41 dX12_word32_38 lk1647 rfl ?_
      rw [show sp_W w = -2147483648 by unfold sp_W; rw [if_pos h2], show sp_tW w = 1 by unfold sp_tW; rw [if_pos (Or.inl h2)]]
      exact ev_lret dX12_word32_41 rfl (rfl)
theorem lp_X12_pre1 {c n k : Nat} {Z : mm_Z} (hM : lyM B P m) (hn : n ≤ 320) (hk : k ≤ n)
    (e : Ev g mX12_predict 50 [some (.ref m), some (.int (nI c)), some (.int (nI n)), some (.int (nI k)), some (.long (sp_ac (I (m + 53)) k (n - k))), none, some (.int (nI n)), none, none, none, none, none, none, none, none, none] [] B I J P Z) : ∀ (d i : Nat), i + d = n - k →
    Ev g mX12_predict 14 [some (.ref m), some (.int (nI c)), some (.int (nI n)), some (.int (nI k)), some (.long (sp_ac (I (m + 53)) k i)), none, some (.int (nI (k + i))), none, none, none, none, none, none, none, none, none] [] B I J P Z := by
  intro d
  induction d with
  | zero =>
    intro i hi
    obtain rfl : i = n - k := by omega
    refine ev_iload 16 dX12_predict_14 rfl rfl ?_
    refine ev_iload_n 17 dX12_predict_16 rfl rfl ?_
    refine ev_icmp_geN 20 50 dX12_predict_17 (by decide) (by omega) (by omega) rfl (fun hbr => ?_) (fun hx => absurd ((by omega)) hx)
    rw [show k + (n - k) = n by omega]
    exact e
  | succ d ih =>
    intro i hi
    refine ev_iload 16 dX12_predict_14 rfl rfl ?_
    refine ev_iload_n 17 dX12_predict_16 rfl rfl ?_
    refine ev_icmp_geN 20 50 dX12_predict_17 (by decide) (by omega) (by omega) rfl (fun hx => absurd hx ((by omega))) (fun hbr => ?_)
    refine ev_lload 22 dX12_predict_20 rfl rfl ?_
    refine ev_aload_n 23 dX12_predict_22 rfl rfl ?_
    refine ev_getP 26 mm_cl12 (j := 59) (Nat.le_of_ble_eq_true rfl) dX12_predict_23 lk1344 (fun _ _ _ => rfl) (hM.1 0 _ rfl) (a := (m + 53)) (hM.2.2 52 _ _ _ rfl) rfl ?_
    refine ev_iload 28 dX12_predict_26 rfl rfl ?_
    refine ev_iald 29 _ dX12_predict_28 (hM.1 53 _ rfl) rfl (by have hNN := hM.2.1 53 _ rfl; omega) rfl ?_
    refine ev_i2l 30 dX12_predict_29 rfl ?_
    refine ev_aload_n 31 dX12_predict_30 rfl rfl ?_
    refine ev_getP 34 mm_cl12 (j := 59) (Nat.le_of_ble_eq_true rfl) dX12_predict_31 lk1344 (fun _ _ _ => rfl) (hM.1 0 _ rfl) (a := (m + 53)) (hM.2.2 52 _ _ _ rfl) rfl ?_
    refine ev_iload 36 dX12_predict_34 rfl rfl ?_
    refine ev_iload_n 37 dX12_predict_36 rfl rfl ?_
    refine ev_isubN 38 dX12_predict_37 (by omega) rfl ?_
    refine ev_iald 39 _ dX12_predict_38 (hM.1 53 _ rfl) rfl (by have hNN := hM.2.1 53 _ rfl; omega) rfl ?_
    refine ev_i2l 40 dX12_predict_39 rfl ?_
    refine ev_lmul 41 dX12_predict_40 rfl ?_
    refine ev_ladd 42 dX12_predict_41 rfl ?_
    refine ev_lstore 44 (lv' := [_, _, _, some (.int _), _, _, _, _, _, _, _, _, _, _, _, _]) dX12_predict_42 (Nat.le_of_ble_eq_true rfl) rfl rfl ?_
    refine ev_iincN 47 (lv' := [_, _, _, _, _, none, _, _, _, _, _, _, _, _, _, _]) 1 dX12_predict_44 rfl (Nat.le_of_ble_eq_true rfl) rfl rfl ?_
    refine ev_goto 14 dX12_predict_47 (by decide) ?_
    rw [Nat.add_sub_cancel_left]
    exact ih (i + 1) (by omega)
theorem lx_X12_pre2 {c n : Nat} (hM : lyM B P m) (hn : n ≤ 320) (h9 : 9 ≤ n) : ∀ (d k : Nat), k + d = 9 → ∀ (F : Nat → Int64), (∀ j, j < k → F j = sp_ac (I (m + 53)) j (n - j)) → ∃ F' : Nat → Int64, (∀ j, j < 9 → F' j = sp_ac (I (m + 53)) j (n - j)) ∧
    ∀ Z : mm_Z, Ev g mX12_predict 64 [some (.ref m), some (.int (nI c)), some (.int (nI n)), none, none, none, none, none, none, none, none, none, none, none, none, none] [] B I (va_up J (m + 61) F') P Z → Ev g mX12_predict 2 [some (.ref m), some (.int (nI c)), some (.int (nI n)), some (.int (nI k)), none, none, none, none, none, none, none, none, none, none, none, none] [] B I (va_up J (m + 61) F) P Z := by
  intro d
  induction d with
  | zero =>
    intro k hk F hF
    obtain rfl : k = 9 := by omega
    refine ⟨F, hF, fun Z e => ?_⟩
    refine ev_iload_n 3 dX12_predict_2 rfl rfl ?_
    refine ev_bipushN 5 9 dX12_predict_3 (by decide +kernel) rfl ?_
    refine ev_icmp_geN 8 64 dX12_predict_5 (by decide) (by omega) (by omega) rfl (fun hbr => ?_) (fun hx => absurd ((by omega)) hx)
    refine ev_le (mle_s (mle_s (mle_s (mle_n (mle_n (mle_n (mle_n (mle_n (mle_n (mle_n (mle_n (mle_n (mle_n (mle_n (mle_n (mle_n (mle_0))))))))))))))))) ?_
    exact e
  | succ d ih =>
    intro k hk F hF
    obtain ⟨F', h1, h2⟩ := ih (k + 1) (by omega) (va_up F k (sp_ac (I (m + 53)) k (n - k))) (fun j hj => by
      by_cases c : j = k
      · subst c; rw [va_up_s]
      · rw [va_up_n _ _ c]; exact hF j (by omega))
    refine ⟨F', h1, fun Z e => ?_⟩
    have e2 := h2 Z e
    refine ev_iload_n 3 dX12_predict_2 rfl rfl ?_
    refine ev_bipushN 5 9 dX12_predict_3 (by decide +kernel) rfl ?_
    refine ev_icmp_geN 8 64 dX12_predict_5 (by decide) (by omega) (by omega) rfl (fun hx => absurd hx ((by omega))) (fun hbr => ?_)
    refine ev_lconst 9 (v := 0) dX12_predict_8 (by decide +kernel) rfl ?_
    refine ev_lstore 11 (lv' := [_, _, _, some (.int _), _, _, _, _, _, _, _, _, _, _, _, _]) dX12_predict_9 (Nat.le_of_ble_eq_true rfl) rfl rfl ?_
    refine ev_iload_n 12 dX12_predict_11 rfl rfl ?_
    refine ev_istore 14 (lv' := [_, _, _, _, _, none, _, _, _, _, _, _, _, _, _, _]) dX12_predict_12 (Nat.le_of_ble_eq_true rfl) rfl rfl ?_
    refine lp_X12_pre1 hM hn (by omega) ?_ (n - k) 0 (by omega)
    refine ev_aload_n 51 dX12_predict_50 rfl rfl ?_
    refine ev_getP 54 mm_cl12 (j := 67) (Nat.le_of_ble_eq_true rfl) dX12_predict_51 lk1352 (fun _ _ _ => rfl) (hM.1 0 _ rfl) (a := (m + 61)) (hM.2.2 60 _ _ _ rfl) rfl ?_
    refine ev_iload_n 55 dX12_predict_54 rfl rfl ?_
    refine ev_lload 57 dX12_predict_55 rfl rfl ?_
    refine ev_last 58 _ dX12_predict_57 (hM.1 61 _ rfl) rfl (by have hNN := hM.2.1 61 _ rfl; omega) rfl ?_
    refine ev_iincN 61 (lv' := [_, _, some (.int _), _, _, _, _, _, _, _, _, _, _, _, _, _]) 1 dX12_predict_58 rfl (Nat.le_of_ble_eq_true rfl) rfl rfl ?_
    refine ev_goto 2 dX12_predict_61 (by decide) ?_
    rw [va_up_s, bx_uu]
    refine ev_le (mle_s (mle_s (mle_s (mle_s (mle_n (mle_n (mle_n (mle_n (mle_n (mle_n (mle_n (mle_n (mle_n (mle_n (mle_n (mle_n (mle_0))))))))))))))))) ?_
    exact e2
theorem lp_X12_pre3 {c n : Nat} {F : Nat → Int64} {Z : mm_Z} (hM : lyM B P m)
    (e : Ev g mX12_predict 87 [some (.ref m), some (.int (nI c)), some (.int (nI n)), some (.int (nI (sp_sf (F 0) 33 0))), none, none, none, none, none, none, none, none, none, none, none, none] [] B I (va_up J (m + 61) F) P Z) : ∀ (d s : Nat), s + d = 33 → sp_sf (F 0) 33 0 = sp_sf (F 0) d s →
    Ev g mX12_predict 66 [some (.ref m), some (.int (nI c)), some (.int (nI n)), some (.int (nI s)), none, none, none, none, none, none, none, none, none, none, none, none] [] B I (va_up J (m + 61) F) P Z := by
  intro d
  induction d with
  | zero =>
    intro s hs hq
    obtain rfl : s = 33 := by omega
    rw [show sp_sf (F 0) 0 33 = 33 from rfl] at hq
    rw [hq] at e
    refine ev_aload_n 67 dX12_predict_66 rfl rfl ?_
    refine ev_getP 70 mm_cl12 (j := 67) (Nat.le_of_ble_eq_true rfl) dX12_predict_67 lk1352 (fun _ _ _ => rfl) (hM.1 0 _ rfl) (a := (m + 61)) (hM.2.2 60 _ _ _ rfl) rfl ?_
    refine ev_iconstN 71 0 dX12_predict_70 rfl ?_
    refine ev_lald 72 _ dX12_predict_71 (hM.1 61 _ rfl) rfl (by have hNN := hM.2.1 61 _ rfl; omega) rfl ?_
    refine ev_eqJ (y := (F 0)) ((by rw [va_up_s])) ?_
    refine ev_iload_n 73 dX12_predict_72 rfl rfl ?_
    refine ev_lshr 74 dX12_predict_73 rfl ?_
    refine ev_ldc2 77 dX12_predict_74 lk1639 rfl ?_
    refine ev_lcmp 78 dX12_predict_77 rfl ?_
    refine ev_lc_lt 81 87 dX12_predict_78 (by decide) rfl (fun hbr => ?_) (fun hx => absurd ((sp_sf_e _)) hx)
    exact e
  | succ d ih =>
    intro s hs hq
    refine ev_aload_n 67 dX12_predict_66 rfl rfl ?_
    refine ev_getP 70 mm_cl12 (j := 67) (Nat.le_of_ble_eq_true rfl) dX12_predict_67 lk1352 (fun _ _ _ => rfl) (hM.1 0 _ rfl) (a := (m + 61)) (hM.2.2 60 _ _ _ rfl) rfl ?_
    refine ev_iconstN 71 0 dX12_predict_70 rfl ?_
    refine ev_lald 72 _ dX12_predict_71 (hM.1 61 _ rfl) rfl (by have hNN := hM.2.1 61 _ rfl; omega) rfl ?_
    refine ev_eqJ (y := (F 0)) ((by rw [va_up_s])) ?_
    refine ev_iload_n 73 dX12_predict_72 rfl rfl ?_
    refine ev_lshr 74 dX12_predict_73 rfl ?_
    refine ev_ldc2 77 dX12_predict_74 lk1639 rfl ?_
    refine ev_lcmp 78 dX12_predict_77 rfl ?_
    refine ev_lc_lt 81 87 dX12_predict_78 (by decide) rfl (fun h => ?_) (fun h => ?_)
    · rw [show sp_sf (F 0) (d + 1) s = s by rw [sp_sf, if_pos h]] at hq
      rw [hq] at e
      exact e
    · refine ev_iincN 84 (lv' := [_, _, some (.int _), _, _, _, _, _, _, _, _, _, _, _, _, _]) 1 dX12_predict_81 rfl (Nat.le_of_ble_eq_true rfl) rfl rfl ?_
      refine ev_goto 66 dX12_predict_84 (by decide) ?_
      exact ih (s + 1) (by omega) (by rw [hq, sp_sf, if_neg h])
theorem lx_X12_pre4 {c n s : Nat} {F0 : Nat → Int64} (hM : lyM B P m) : ∀ (d k : Nat), k + d = 9 → ∀ (F : Nat → Int64), (∀ j, j < 9 → F j = if j < k then F0 j >>> ((nI s).toInt64 &&& 63) else F0 j) → ∃ F' : Nat → Int64, (∀ j, j < 9 → F' j = F0 j >>> ((nI s).toInt64 &&& 63)) ∧
    ∀ Z : mm_Z, Ev g mX12_predict 119 [some (.ref m), some (.int (nI c)), some (.int (nI n)), some (.int (nI s)), none, none, none, none, none, none, none, none, none, none, none, none] [] B I (va_up J (m + 61) F') P Z → Ev g mX12_predict 90 [some (.ref m), some (.int (nI c)), some (.int (nI n)), some (.int (nI s)), some (.int (nI k)), none, none, none, none, none, none, none, none, none, none, none] [] B I (va_up J (m + 61) F) P Z := by
  intro d
  induction d with
  | zero =>
    intro k hk F hF
    obtain rfl : k = 9 := by omega
    refine ⟨F, fun j hj => by rw [hF j hj, if_pos hj], fun Z e => ?_⟩
    refine ev_iload 92 dX12_predict_90 rfl rfl ?_
    refine ev_bipushN 94 9 dX12_predict_92 (by decide +kernel) rfl ?_
    refine ev_icmp_geN 97 119 dX12_predict_94 (by decide) (by omega) (by omega) rfl (fun hbr => ?_) (fun hx => absurd ((by omega)) hx)
    refine ev_le (mle_s (mle_s (mle_s (mle_s (mle_n (mle_n (mle_n (mle_n (mle_n (mle_n (mle_n (mle_n (mle_n (mle_n (mle_n (mle_n (mle_0))))))))))))))))) ?_
    exact e
  | succ d ih =>
    intro k hk F hF
    obtain ⟨F', h1, h2⟩ := ih (k + 1) (by omega) (va_up F k (F k >>> ((nI s).toInt64 &&& 63))) (fun j hj => by
      by_cases c : j = k
      · subst c; rw [va_up_s, if_pos (by omega), hF j hj, if_neg (by omega)]
      · rw [va_up_n _ _ c, hF j hj]
        by_cases c2 : j < k
        · rw [if_pos c2, if_pos (by omega)]
        · rw [if_neg c2, if_neg (by omega)])
    refine ⟨F', h1, fun Z e => ?_⟩
    have e2 := h2 Z e
    refine ev_iload 92 dX12_predict_90 rfl rfl ?_
    refine ev_bipushN 94 9 dX12_predict_92 (by decide +kernel) rfl ?_
    refine ev_icmp_geN 97 119 dX12_predict_94 (by decide) (by omega) (by omega) rfl (fun hx => absurd hx ((by omega))) (fun hbr => ?_)
    refine ev_aload_n 98 dX12_predict_97 rfl rfl ?_
    refine ev_getP 101 mm_cl12 (j := 67) (Nat.le_of_ble_eq_true rfl) dX12_predict_98 lk1352 (fun _ _ _ => rfl) (hM.1 0 _ rfl) (a := (m + 61)) (hM.2.2 60 _ _ _ rfl) rfl ?_
    refine ev_iload 103 dX12_predict_101 rfl rfl ?_
    refine ev_aload_n 104 dX12_predict_103 rfl rfl ?_
    refine ev_getP 107 mm_cl12 (j := 67) (Nat.le_of_ble_eq_true rfl) dX12_predict_104 lk1352 (fun _ _ _ => rfl) (hM.1 0 _ rfl) (a := (m + 61)) (hM.2.2 60 _ _ _ rfl) rfl ?_
    refine ev_iload 109 dX12_predict_107 rfl rfl ?_
    refine ev_lald 110 _ dX12_predict_109 (hM.1 61 _ rfl) rfl (by have hNN := hM.2.1 61 _ rfl; omega) rfl ?_
    refine ev_iload_n 111 dX12_predict_110 rfl rfl ?_
    refine ev_lshr 112 dX12_predict_111 rfl ?_
    refine ev_last 113 _ dX12_predict_112 (hM.1 61 _ rfl) rfl (by have hNN := hM.2.1 61 _ rfl; omega) rfl ?_
    refine ev_iincN 116 (lv' := [_, _, _, some (.int _), _, _, _, _, _, _, _, _, _, _, _, _]) 1 dX12_predict_113 rfl (Nat.le_of_ble_eq_true rfl) rfl rfl ?_
    refine ev_goto 90 dX12_predict_116 (by decide) ?_
    rw [va_up_s, bx_uu]
    exact e2
theorem lp_X12_pre5 {c n s : Nat} {Z : mm_Z} (hM : lyM B P m) (hc8 : c < 8)
    (e : Ev g mX12_predict 148 [some (.ref m), some (.int (nI c)), some (.int (nI n)), some (.int (nI s)), none, none, none, none, none, none, none, none, none, none, none, none] [] B (va_up I (m + 21) (sgp (I (m + 21)) (8 * c) 8 (fun _ => nI 0))) J P Z) : ∀ (d k : Nat), k + d = 8 →
    Ev g mX12_predict 122 [some (.ref m), some (.int (nI c)), some (.int (nI n)), some (.int (nI s)), some (.int (nI k)), none, none, none, none, none, none, none, none, none, none, none] [] B (va_up I (m + 21) (sgp (I (m + 21)) (8 * c) k (fun _ => nI 0))) J P Z := by
  intro d
  induction d with
  | zero =>
    intro k hk
    obtain rfl : k = 8 := by omega
    refine ev_iload 124 dX12_predict_122 rfl rfl ?_
    refine ev_bipushN 126 8 dX12_predict_124 (by decide +kernel) rfl ?_
    refine ev_icmp_geN 129 148 dX12_predict_126 (by decide) (by omega) (by omega) rfl (fun hbr => ?_) (fun hx => absurd ((by omega)) hx)
    refine ev_le (mle_s (mle_s (mle_s (mle_s (mle_n (mle_n (mle_n (mle_n (mle_n (mle_n (mle_n (mle_n (mle_n (mle_n (mle_n (mle_n (mle_0))))))))))))))))) ?_
    exact e
  | succ d ih =>
    intro k hk
    refine ev_iload 124 dX12_predict_122 rfl rfl ?_
    refine ev_bipushN 126 8 dX12_predict_124 (by decide +kernel) rfl ?_
    refine ev_icmp_geN 129 148 dX12_predict_126 (by decide) (by omega) (by omega) rfl (fun hx => absurd hx ((by omega))) (fun hbr => ?_)
    refine ev_aload_n 130 dX12_predict_129 rfl rfl ?_
    refine ev_getP 133 mm_cl12 (j := 26) (Nat.le_of_ble_eq_true rfl) dX12_predict_130 lk1311 (fun _ _ _ => rfl) (hM.1 0 _ rfl) (a := (m + 21)) (hM.2.2 20 _ _ _ rfl) rfl ?_
    refine ev_bipushN 135 8 dX12_predict_133 (by decide +kernel) rfl ?_
    refine ev_iload_n 136 dX12_predict_135 rfl rfl ?_
    refine ev_imulN 137 dX12_predict_136 rfl ?_
    refine ev_iload 139 dX12_predict_137 rfl rfl ?_
    refine ev_iaddN 140 dX12_predict_139 rfl ?_
    refine ev_iconstN 141 0 dX12_predict_140 rfl ?_
    refine ev_iast 142 _ dX12_predict_141 (hM.1 21 _ rfl) rfl (by have hNN := hM.2.1 21 _ rfl; omega) rfl ?_
    refine ev_iincN 145 (lv' := [_, _, _, some (.int _), _, _, _, _, _, _, _, _, _, _, _, _]) 1 dX12_predict_142 rfl (Nat.le_of_ble_eq_true rfl) rfl rfl ?_
    refine ev_goto 122 dX12_predict_145 (by decide) ?_
    rw [va_up_s, bx_uu, sgp_grow rfl]
    exact ih (k + 1) (by omega)
theorem lx_X12_pre6 {c n s : Nat} {A : Nat → Int64} (hM : lyM B P m) : ∀ (d k : Nat), k + d = 9 → ∀ (F K : Nat → Int64), (∀ j, j < k → F j = A j ∧ K j = A j) → ∃ F' K' : Nat → Int64, (∀ j, j < 9 → F' j = A j ∧ K' j = A j) ∧
    ∀ Z : mm_Z, Ev g mX12_predict 224 [some (.ref m), some (.int (nI c)), some (.int (nI n)), some (.int (nI s)), none, none, none, none, none, none, none, none, none, none, none, none] [] B I (va_up (va_up (va_up J (m + 61) A) (m + 62) F') (m + 63) K') P Z → Ev g mX12_predict 183 [some (.ref m), some (.int (nI c)), some (.int (nI n)), some (.int (nI s)), some (.int (nI k)), none, none, none, none, none, none, none, none, none, none, none] [] B I (va_up (va_up (va_up J (m + 61) A) (m + 62) F) (m + 63) K) P Z := by
  intro d
  induction d with
  | zero =>
    intro k hk F K hF
    obtain rfl : k = 9 := by omega
    refine ⟨F, K, hF, fun Z e => ?_⟩
    refine ev_iload 185 dX12_predict_183 rfl rfl ?_
    refine ev_bipushN 187 9 dX12_predict_185 (by decide +kernel) rfl ?_
    refine ev_icmp_geN 190 224 dX12_predict_187 (by decide) (by omega) (by omega) rfl (fun hbr => ?_) (fun hx => absurd ((by omega)) hx)
    refine ev_le (mle_s (mle_s (mle_s (mle_s (mle_n (mle_n (mle_n (mle_n (mle_n (mle_n (mle_n (mle_n (mle_n (mle_n (mle_n (mle_n (mle_0))))))))))))))))) ?_
    exact e
  | succ d ih =>
    intro k hk F K hF
    obtain ⟨F', K', h1, h2⟩ := ih (k + 1) (by omega) (va_up F k (A k)) (va_up K k (A k)) (fun j hj => by
      by_cases c : j = k
      · subst c; rw [va_up_s, va_up_s]; exact ⟨rfl, rfl⟩
      · rw [va_up_n _ _ c, va_up_n _ _ c]; exact hF j (by omega))
    refine ⟨F', K', h1, fun Z e => ?_⟩
    have e2 := h2 Z e
    have a0 : ∀ (F K : Nat → Int64), va_up (va_up (va_up J (m + 61) A) (m + 62) F) (m + 63) K (m + 61) = A := fun F K => by rw [va_up_n _ _ (by omega), va_up_n _ _ (by omega), va_up_s]
    refine ev_iload 185 dX12_predict_183 rfl rfl ?_
    refine ev_bipushN 187 9 dX12_predict_185 (by decide +kernel) rfl ?_
    refine ev_icmp_geN 190 224 dX12_predict_187 (by decide) (by omega) (by omega) rfl (fun hx => absurd hx ((by omega))) (fun hbr => ?_)
    refine ev_aload_n 191 dX12_predict_190 rfl rfl ?_
    refine ev_getP 194 mm_cl12 (j := 68) (Nat.le_of_ble_eq_true rfl) dX12_predict_191 lk1353 (fun _ _ _ => rfl) (hM.1 0 _ rfl) (a := (m + 62)) (hM.2.2 61 _ _ _ rfl) rfl ?_
    refine ev_iload 196 dX12_predict_194 rfl rfl ?_
    refine ev_aload_n 197 dX12_predict_196 rfl rfl ?_
    refine ev_getP 200 mm_cl12 (j := 67) (Nat.le_of_ble_eq_true rfl) dX12_predict_197 lk1352 (fun _ _ _ => rfl) (hM.1 0 _ rfl) (a := (m + 61)) (hM.2.2 60 _ _ _ rfl) rfl ?_
    refine ev_iload 202 dX12_predict_200 rfl rfl ?_
    refine ev_lald 203 _ dX12_predict_202 (hM.1 61 _ rfl) rfl (by have hNN := hM.2.1 61 _ rfl; omega) rfl ?_
    refine ev_eqJ (y := (A k)) ((by rw [a0])) ?_
    refine ev_last 204 _ dX12_predict_203 (hM.1 62 _ rfl) rfl (by have hNN := hM.2.1 62 _ rfl; omega) rfl ?_
    rw [va_3 _ (a := m + 62) (b := m + 63) _ _ _ (by omega), va_up_n _ _ (show m + 62 ≠ m + 63 by omega), va_up_s]
    refine ev_aload_n 205 dX12_predict_204 rfl rfl ?_
    refine ev_getP 208 mm_cl12 (j := 69) (Nat.le_of_ble_eq_true rfl) dX12_predict_205 lk1354 (fun _ _ _ => rfl) (hM.1 0 _ rfl) (a := (m + 63)) (hM.2.2 62 _ _ _ rfl) rfl ?_
    refine ev_iload 210 dX12_predict_208 rfl rfl ?_
    refine ev_aload_n 211 dX12_predict_210 rfl rfl ?_
    refine ev_getP 214 mm_cl12 (j := 67) (Nat.le_of_ble_eq_true rfl) dX12_predict_211 lk1352 (fun _ _ _ => rfl) (hM.1 0 _ rfl) (a := (m + 61)) (hM.2.2 60 _ _ _ rfl) rfl ?_
    refine ev_iload 216 dX12_predict_214 rfl rfl ?_
    refine ev_lald 217 _ dX12_predict_216 (hM.1 61 _ rfl) rfl (by have hNN := hM.2.1 61 _ rfl; omega) rfl ?_
    refine ev_eqJ (y := (A k)) ((by rw [a0])) ?_
    refine ev_last 218 _ dX12_predict_217 (hM.1 63 _ rfl) rfl (by have hNN := hM.2.1 63 _ rfl; omega) rfl ?_
    refine ev_iincN 221 (lv' := [_, _, _, some (.int _), _, _, _, _, _, _, _, _, _, _, _, _]) 1 dX12_predict_218 rfl (Nat.le_of_ble_eq_true rfl) rfl rfl ?_
    refine ev_goto 183 dX12_predict_221 (by decide) ?_
    rw [va_up_s, bx_uu]
    exact e2
theorem lp_X12_pre8 {c n s k : Nat} {z w t : Int64} {u v : Value} {F K : Nat → Int64} {Z : mm_Z} (hM : lyM B P m) (hk : k < 7)
    (e : Ev g mX12_predict 496 [some (.ref m), some (.int (nI c)), some (.int (nI n)), some (.int (nI s)), some (.int (nI (k + 1))), none, none, none, none, none, none, none, none, none, none, none] [] B I (va_up (va_up (sp_up J m 2 (sp_ro z (F, K, t) (7 - k)).2.2) (m + 62) (sp_ro z (F, K, t) (7 - k)).1) (m + 63) (sp_ro z (F, K, t) (7 - k)).2.1) P Z) : ∀ (d i : Nat), i + d = 7 - k →
    Ev g mX12_predict 418 [some (.ref m), some (.int (nI c)), some (.int (nI n)), some (.int (nI s)), some (.int (nI (k + 1))), none, none, some (.long z), none, none, none, some (.int (nI (i + 1))), none, none, none, none] [] B I (va_up (va_up (sp_up J m 2 (sp_ro z (F, K, t) i).2.2) (m + 62) (sp_ro z (F, K, t) i).1) (m + 63) (sp_ro z (F, K, t) i).2.1) P Z := by
  intro d
  induction d with
  | zero =>
    intro i hi
    obtain rfl : i = 7 - k := by omega
    refine ev_iload 420 dX12_predict_418 rfl rfl ?_
    refine ev_bipushN 422 8 dX12_predict_420 (by decide +kernel) rfl ?_
    refine ev_iload 424 dX12_predict_422 rfl rfl ?_
    refine ev_isubN 425 dX12_predict_424 (by omega) rfl ?_
    refine ev_icmp_gtN 428 496 dX12_predict_425 (by decide) (by omega) (by omega) rfl (fun hbr => ?_) (fun hx => absurd ((by omega)) hx)
    refine ev_le (mle_s (mle_s (mle_s (mle_s (mle_s (mle_n (mle_n (mle_n (mle_n (mle_n (mle_n (mle_n (mle_n (mle_n (mle_n (mle_n (mle_0))))))))))))))))) ?_
    exact e
  | succ d ih =>
    intro i hi
    have e := ih (i + 1) (by omega)
    generalize hq : sp_ro z (F, K, t) i = q
    simp only [sp_ro, hq] at e
    obtain ⟨F', K', t'⟩ := q
    refine ev_iload 420 dX12_predict_418 rfl rfl ?_
    refine ev_bipushN 422 8 dX12_predict_420 (by decide +kernel) rfl ?_
    refine ev_iload 424 dX12_predict_422 rfl rfl ?_
    refine ev_isubN 425 dX12_predict_424 (by omega) rfl ?_
    refine ev_icmp_gtN 428 496 dX12_predict_425 (by decide) (by omega) (by omega) rfl (fun hx => absurd hx ((by omega))) (fun hbr => ?_)
    refine ev_aload_n 429 dX12_predict_428 rfl rfl ?_
    refine ev_getP 432 mm_cl12 (j := 68) (Nat.le_of_ble_eq_true rfl) dX12_predict_429 lk1353 (fun _ _ _ => rfl) (hM.1 0 _ rfl) (a := (m + 62)) (hM.2.2 61 _ _ _ rfl) rfl ?_
    refine ev_iload 434 dX12_predict_432 rfl rfl ?_
    refine ev_iconstN 435 1 dX12_predict_434 rfl ?_
    refine ev_iaddN 436 dX12_predict_435 rfl ?_
    refine ev_lald 437 _ dX12_predict_436 (hM.1 62 _ rfl) rfl (by have hNN := hM.2.1 62 _ rfl; omega) rfl ?_
    refine ev_eqJ (y := (F' (i + 1 + 1))) ((by rw [va_up_n _ _ (by omega), va_up_s])) ?_
    refine ev_lstore 439 (lv' := [_, _, _, _, _, _, _, _, _, _, _, some (.int _), _, _, _, _]) dX12_predict_437 (Nat.le_of_ble_eq_true rfl) rfl rfl ?_
    refine ev_aload_n 440 dX12_predict_439 rfl rfl ?_
    refine ev_getP 443 mm_cl12 (j := 69) (Nat.le_of_ble_eq_true rfl) dX12_predict_440 lk1354 (fun _ _ _ => rfl) (hM.1 0 _ rfl) (a := (m + 63)) (hM.2.2 62 _ _ _ rfl) rfl ?_
    refine ev_iload 445 dX12_predict_443 rfl rfl ?_
    refine ev_lald 446 _ dX12_predict_445 (hM.1 63 _ rfl) rfl (by have hNN := hM.2.1 63 _ rfl; omega) rfl ?_
    refine ev_eqJ (y := (K' (i + 1))) ((by rw [va_up_s])) ?_
    refine ev_lstore 448 (lv' := [_, _, _, _, _, _, _, _, _, _, _, _, _, none, _, _]) dX12_predict_446 (Nat.le_of_ble_eq_true rfl) rfl rfl ?_
    refine ev_aload_n 449 dX12_predict_448 rfl rfl ?_
    refine ev_getP 452 mm_cl12 (j := 68) (Nat.le_of_ble_eq_true rfl) dX12_predict_449 lk1353 (fun _ _ _ => rfl) (hM.1 0 _ rfl) (a := (m + 62)) (hM.2.2 61 _ _ _ rfl) rfl ?_
    refine ev_iload 454 dX12_predict_452 rfl rfl ?_
    refine ev_aload_n 455 dX12_predict_454 rfl rfl ?_
    refine ev_lload 457 dX12_predict_455 rfl rfl ?_
    refine ev_lload 459 dX12_predict_457 rfl rfl ?_
    refine ev_lload 461 dX12_predict_459 rfl rfl ?_
    refine ev_invS 464 (Mc := mX12_half) ⟨lk1603, lk80, hdX12_half, (Nat.le_of_ble_eq_true rfl), (Nat.le_of_ble_eq_true rfl)⟩ lk1601 lk1602 dX12_predict_461 (ct_X12_half) rfl (Nat.le_of_ble_eq_true rfl) rfl rfl ?_
    refine ev_ladd 465 dX12_predict_464 rfl ?_
    refine ev_invV 468 (Mc := mX12_word32) ⟨lk1646, lk80, hdX12_word32, (Nat.le_of_ble_eq_true rfl), (Nat.le_of_ble_eq_true rfl)⟩ lk1643 lk1645 lk50 mm_cl12 rfl dX12_predict_465 (ct_X12_word32 hM) rfl (hM.1 0 _ rfl) (Nat.le_of_ble_eq_true rfl) rfl rfl ?_
    rw [sp_up_c _ _ _ (by omega), sp_up_c _ _ _ (by omega), sp_up_up]
    refine ev_last 469 _ dX12_predict_468 (hM.1 62 _ rfl) rfl (by have hNN := hM.2.1 62 _ rfl; omega) rfl ?_
    refine ev_aload_n 470 dX12_predict_469 rfl rfl ?_
    refine ev_getP 473 mm_cl12 (j := 69) (Nat.le_of_ble_eq_true rfl) dX12_predict_470 lk1354 (fun _ _ _ => rfl) (hM.1 0 _ rfl) (a := (m + 63)) (hM.2.2 62 _ _ _ rfl) rfl ?_
    refine ev_iload 475 dX12_predict_473 rfl rfl ?_
    refine ev_aload_n 476 dX12_predict_475 rfl rfl ?_
    refine ev_lload 478 dX12_predict_476 rfl rfl ?_
    refine ev_lload 480 dX12_predict_478 rfl rfl ?_
    refine ev_lload 482 dX12_predict_480 rfl rfl ?_
    rw [va_3 _ (a := m + 62) (b := m + 63) _ _ _ (by omega), va_up_n _ _ (show m + 62 ≠ m + 63 by omega), va_up_s]
    refine ev_invS 485 (Mc := mX12_half) ⟨lk1603, lk80, hdX12_half, (Nat.le_of_ble_eq_true rfl), (Nat.le_of_ble_eq_true rfl)⟩ lk1601 lk1602 dX12_predict_482 (ct_X12_half) rfl (Nat.le_of_ble_eq_true rfl) rfl rfl ?_
    refine ev_ladd 486 dX12_predict_485 rfl ?_
    refine ev_invV 489 (Mc := mX12_word32) ⟨lk1646, lk80, hdX12_word32, (Nat.le_of_ble_eq_true rfl), (Nat.le_of_ble_eq_true rfl)⟩ lk1643 lk1645 lk50 mm_cl12 rfl dX12_predict_486 (ct_X12_word32 hM) rfl (hM.1 0 _ rfl) (Nat.le_of_ble_eq_true rfl) rfl rfl ?_
    rw [sp_up_c _ _ _ (by omega), sp_up_c _ _ _ (by omega), sp_up_up]
    refine ev_last 490 _ dX12_predict_489 (hM.1 63 _ rfl) rfl (by have hNN := hM.2.1 63 _ rfl; omega) rfl ?_
    refine ev_iincN 493 (lv' := [_, _, _, _, _, _, _, _, _, _, none, _, _, _, _, _]) 1 dX12_predict_490 rfl (Nat.le_of_ble_eq_true rfl) rfl rfl ?_
    refine ev_goto 418 dX12_predict_493 (by decide) ?_
    rw [va_up_s, bx_uu, Int64.add_assoc]
    refine ev_le (mle_s (mle_s (mle_s (mle_s (mle_s (mle_n (mle_n (mle_s (mle_n (mle_n (mle_n (mle_s (mle_n (mle_n (mle_n (mle_n (mle_0))))))))))))))))) ?_
    exact e
theorem lx_X12_pre7 {c n s : Nat} (hM : lyM B P m) (hc8 : c < 8) : ∀ (d k : Nat), k + d = 8 → ∀ (F K : Nat → Int64) (ix : Nat → Int32) (t : Int64), ∃ F' K' : Nat → Int64,
    Ev g mX12_predict 227 [some (.ref m), some (.int (nI c)), some (.int (nI n)), some (.int (nI s)), some (.int (nI (k + 1))), none, none, none, none, none, none, none, none, none, none, none] [] B (va_up I (m + 21) (sgp (I (m + 21)) (8 * c) 8 ix)) (va_up (va_up (sp_up J m 2 t) (m + 62) F) (m + 63) K) P
      (none, B, va_up I (m + 21) (sgp (I (m + 21)) (8 * c) 8 (sp_rf d k F K ix t).1), va_up (va_up (sp_up J m 2 (sp_rf d k F K ix t).2) (m + 62) F') (m + 63) K', P) := by
  intro d
  induction d with
  | zero =>
    intro k hk F K ix t
    obtain rfl : k = 8 := by omega
    refine ⟨F, K, ?_⟩
    refine ev_iload 229 dX12_predict_227 rfl rfl ?_
    refine ev_bipushN 231 8 dX12_predict_229 (by decide +kernel) rfl ?_
    refine ev_icmp_gtN 234 502 dX12_predict_231 (by decide) (by omega) (by omega) rfl (fun hbr => ?_) (fun hx => absurd ((by omega)) hx)
    exact ev_vret dX12_predict_502 rfl (rfl)
  | succ d ih =>
    intro k hk F K ix t
    have f0 : ∀ (A : mm_TJ) (K : Nat → Int64) (j : Nat), va_up (va_up A (m + 62) F) (m + 63) K (m + 62) j = F j := fun A K j => by rw [va_up_n _ _ (by omega), va_up_s]
    -- the size of F 1
    suffices hS : ∃ F' K' : Nat → Int64, Ev g mX12_predict 263 [some (.ref m), some (.int (nI c)), some (.int (nI n)), some (.int (nI s)), some (.int (nI (k + 1))), some (.long (sp_ab (F 1))), none, none, none, none, none, none, none, none, none, none] [] B (va_up I (m + 21) (sgp (I (m + 21)) (8 * c) 8 ix)) (va_up (va_up (sp_up J m 2 t) (m + 62) F) (m + 63) K) P
      (none, B, va_up I (m + 21) (sgp (I (m + 21)) (8 * c) 8 (sp_rf (d + 1) k F K ix t).1), va_up (va_up (sp_up J m 2 (sp_rf (d + 1) k F K ix t).2) (m + 62) F') (m + 63) K', P) by
      obtain ⟨F', K', e⟩ := hS
      refine ⟨F', K', ?_⟩
      refine ev_iload 229 dX12_predict_227 rfl rfl ?_
      refine ev_bipushN 231 8 dX12_predict_229 (by decide +kernel) rfl ?_
      refine ev_icmp_gtN 234 502 dX12_predict_231 (by decide) (by omega) (by omega) rfl (fun hx => absurd hx ((by omega))) (fun hbr => ?_)
      refine ev_aload_n 235 dX12_predict_234 rfl rfl ?_
      refine ev_getP 238 mm_cl12 (j := 68) (Nat.le_of_ble_eq_true rfl) dX12_predict_235 lk1353 (fun _ _ _ => rfl) (hM.1 0 _ rfl) (a := (m + 62)) (hM.2.2 61 _ _ _ rfl) rfl ?_
      refine ev_iconstN 239 1 dX12_predict_238 rfl ?_
      refine ev_lald 240 _ dX12_predict_239 (hM.1 62 _ rfl) rfl (by have hNN := hM.2.1 62 _ rfl; omega) rfl ?_
      refine ev_eqJ (y := (F 1)) ((f0 _ _ _)) ?_
      refine ev_lconst 241 (v := 0) dX12_predict_240 (by decide +kernel) rfl ?_
      refine ev_lcmp 242 dX12_predict_241 rfl ?_
      refine ev_lc_ge 245 255 dX12_predict_242 (by decide) rfl (fun hz => ?_) (fun hz => ?_)
      · refine ev_aload_n 256 dX12_predict_255 rfl rfl ?_
        refine ev_getP 259 mm_cl12 (j := 68) (Nat.le_of_ble_eq_true rfl) dX12_predict_256 lk1353 (fun _ _ _ => rfl) (hM.1 0 _ rfl) (a := (m + 62)) (hM.2.2 61 _ _ _ rfl) rfl ?_
        refine ev_iconstN 260 1 dX12_predict_259 rfl ?_
        refine ev_lald 261 _ dX12_predict_260 (hM.1 62 _ rfl) rfl (by have hNN := hM.2.1 62 _ rfl; omega) rfl ?_
        refine ev_eqJ (y := (F 1)) ((f0 _ _ _)) ?_
        refine ev_lstore 263 (lv' := [_, _, _, _, some (.int _), _, _, _, _, _, _, _, _, _, _, _]) dX12_predict_261 (Nat.le_of_ble_eq_true rfl) rfl rfl ?_
        rw [show sp_ab (F 1) = F 1 by
          unfold sp_ab
          by_cases h : 0 < F 1
          · rw [if_pos h]
          · rw [if_neg h]
            have h0 : F 1 = 0 := by
              rw [Int64.lt_iff_toInt_lt] at h hz
              apply Int64.toInt_inj.mp
              have : (0 : Int64).toInt = 0 := by decide +kernel
              omega
            rw [h0]; rfl] at e
        exact e
      · refine ev_aload_n 246 dX12_predict_245 rfl rfl ?_
        refine ev_getP 249 mm_cl12 (j := 68) (Nat.le_of_ble_eq_true rfl) dX12_predict_246 lk1353 (fun _ _ _ => rfl) (hM.1 0 _ rfl) (a := (m + 62)) (hM.2.2 61 _ _ _ rfl) rfl ?_
        refine ev_iconstN 250 1 dX12_predict_249 rfl ?_
        refine ev_lald 251 _ dX12_predict_250 (hM.1 62 _ rfl) rfl (by have hNN := hM.2.1 62 _ rfl; omega) rfl ?_
        refine ev_eqJ (y := (F 1)) ((f0 _ _ _)) ?_
        refine ev_lneg 252 dX12_predict_251 rfl ?_
        refine ev_goto 261 dX12_predict_252 (by decide) ?_
        refine ev_lstore 263 (lv' := [_, _, _, _, some (.int _), _, _, _, _, _, _, _, _, _, _, _]) dX12_predict_261 (Nat.le_of_ble_eq_true rfl) rfl rfl ?_
        rw [show sp_ab (F 1) = - F 1 by
          unfold sp_ab
          rw [if_neg (fun h => by
            rw [Int64.lt_iff_toInt_lt] at h hz
            omega)]] at e
        exact e
    by_cases c1 : 0 < F 0
    · by_cases c2 : sp_ab (F 1) < F 0
      · have hn : ¬ (¬ 0 < F 0 ∨ ¬ sp_ab (F 1) < F 0) := fun z => z.elim (fun z => z c1) (fun z => z c2)
        have hne : ¬ F 0 = 0 := fun z => by rw [z] at c1; exact absurd c1 (by decide +kernel)
        have key : ∃ F' K' : Nat → Int64, Ev g mX12_predict 363 [some (.ref m), some (.int (nI c)), some (.int (nI n)), some (.int (nI s)), some (.int (nI (k + 1))), none, none, some (.long (sp_z F)), none, some (.long (sp_cl (sp_v F))), none, none, none, none, none, none] [] B (va_up I (m + 21) (sgp (I (m + 21)) (8 * c) 8 ix)) (va_up (va_up (sp_up J m 2 (t + sp_tc (sp_v F))) (m + 62) F) (m + 63) K) P
            (none, B, va_up I (m + 21) (sgp (I (m + 21)) (8 * c) 8 (sp_rf (d + 1) k F K ix t).1), va_up (va_up (sp_up J m 2 (sp_rf (d + 1) k F K ix t).2) (m + 62) F') (m + 63) K', P) := by
          by_cases c3 : d = 0
          · subst c3
            refine ⟨F, K, ?_⟩
            rw [show sp_rf (0 + 1) k F K ix t = (va_up ix k (sp_cl (sp_v F)).toInt32, t + sp_tc (sp_v F)) by unfold sp_rf; rw [if_neg hn, if_pos rfl]]
            obtain rfl : k = 7 := by omega
            refine ev_aload_n 364 dX12_predict_363 rfl rfl ?_
            refine ev_getP 367 mm_cl12 (j := 26) (Nat.le_of_ble_eq_true rfl) dX12_predict_364 lk1311 (fun _ _ _ => rfl) (hM.1 0 _ rfl) (a := (m + 21)) (hM.2.2 20 _ _ _ rfl) rfl ?_
            refine ev_bipushN 369 8 dX12_predict_367 (by decide +kernel) rfl ?_
            refine ev_iload_n 370 dX12_predict_369 rfl rfl ?_
            refine ev_imulN 371 dX12_predict_370 rfl ?_
            refine ev_iload 373 dX12_predict_371 rfl rfl ?_
            refine ev_iaddN 374 dX12_predict_373 rfl ?_
            refine ev_iconstN 375 1 dX12_predict_374 rfl ?_
            refine ev_isubN 376 dX12_predict_375 (by omega) rfl ?_
            refine ev_lload 378 dX12_predict_376 rfl rfl ?_
            refine ev_l2i 379 dX12_predict_378 rfl ?_
            refine ev_iast 380 _ dX12_predict_379 (hM.1 21 _ rfl) rfl (by have hNN := hM.2.1 21 _ rfl; omega) rfl ?_
            refine ev_iload 382 dX12_predict_380 rfl rfl ?_
            refine ev_bipushN 384 8 dX12_predict_382 (by decide +kernel) rfl ?_
            rw [va_up_s, bx_uu, show 8 * c + (7 + 1) - 1 = 8 * c + 7 by omega, sgp_up (by omega)]
            refine ev_icmp_geN 387 496 dX12_predict_384 (by decide) (by omega) (by omega) rfl (fun hbr => ?_) (fun hx => absurd ((by omega)) hx)
            refine ev_iincN 499 (lv' := [_, _, _, some (.int _), _, _, _, _, _, _, _, _, _, _, _, _]) 1 dX12_predict_496 rfl (Nat.le_of_ble_eq_true rfl) rfl rfl ?_
            refine ev_goto 227 dX12_predict_499 (by decide) ?_
            refine ev_iload 229 dX12_predict_227 rfl rfl ?_
            refine ev_bipushN 231 8 dX12_predict_229 (by decide +kernel) rfl ?_
            refine ev_icmp_gtN 234 502 dX12_predict_231 (by decide) (by omega) (by omega) rfl (fun hbr => ?_) (fun hx => absurd ((by omega)) hx)
            exact ev_vret dX12_predict_502 rfl (rfl)
          · obtain ⟨F', K', e⟩ := ih (k + 1) (by omega) (sp_r1 (sp_z F) F K (7 - k)).1 (sp_r1 (sp_z F) F K (7 - k)).2.1 (va_up ix k (sp_cl (sp_v F)).toInt32) (t + (sp_tc (sp_v F) + (sp_r1 (sp_z F) F K (7 - k)).2.2))
            refine ⟨F', K', ?_⟩
            rw [show sp_rf (d + 1) k F K ix t = sp_rf d (k + 1) (sp_r1 (sp_z F) F K (7 - k)).1 (sp_r1 (sp_z F) F K (7 - k)).2.1 (va_up ix k (sp_cl (sp_v F)).toInt32) (t + (sp_tc (sp_v F) + (sp_r1 (sp_z F) F K (7 - k)).2.2)) by rw [sp_rf, if_neg hn, if_neg c3]]
            refine ev_aload_n 364 dX12_predict_363 rfl rfl ?_
            refine ev_getP 367 mm_cl12 (j := 26) (Nat.le_of_ble_eq_true rfl) dX12_predict_364 lk1311 (fun _ _ _ => rfl) (hM.1 0 _ rfl) (a := (m + 21)) (hM.2.2 20 _ _ _ rfl) rfl ?_
            refine ev_bipushN 369 8 dX12_predict_367 (by decide +kernel) rfl ?_
            refine ev_iload_n 370 dX12_predict_369 rfl rfl ?_
            refine ev_imulN 371 dX12_predict_370 rfl ?_
            refine ev_iload 373 dX12_predict_371 rfl rfl ?_
            refine ev_iaddN 374 dX12_predict_373 rfl ?_
            refine ev_iconstN 375 1 dX12_predict_374 rfl ?_
            refine ev_isubN 376 dX12_predict_375 (by omega) rfl ?_
            refine ev_lload 378 dX12_predict_376 rfl rfl ?_
            refine ev_l2i 379 dX12_predict_378 rfl ?_
            refine ev_iast 380 _ dX12_predict_379 (hM.1 21 _ rfl) rfl (by have hNN := hM.2.1 21 _ rfl; omega) rfl ?_
            refine ev_iload 382 dX12_predict_380 rfl rfl ?_
            refine ev_bipushN 384 8 dX12_predict_382 (by decide +kernel) rfl ?_
            rw [va_up_s, bx_uu, show 8 * c + (k + 1) - 1 = 8 * c + k by omega, sgp_up (by omega)]
            refine ev_icmp_geN 387 496 dX12_predict_384 (by decide) (by omega) (by omega) rfl (fun hx => absurd hx ((by omega))) (fun hbr => ?_)
            refine ev_aload_n 388 dX12_predict_387 rfl rfl ?_
            refine ev_getP 391 mm_cl12 (j := 68) (Nat.le_of_ble_eq_true rfl) dX12_predict_388 lk1353 (fun _ _ _ => rfl) (hM.1 0 _ rfl) (a := (m + 62)) (hM.2.2 61 _ _ _ rfl) rfl ?_
            refine ev_iconstN 392 0 dX12_predict_391 rfl ?_
            refine ev_aload_n 393 dX12_predict_392 rfl rfl ?_
            refine ev_aload_n 394 dX12_predict_393 rfl rfl ?_
            refine ev_getP 397 mm_cl12 (j := 68) (Nat.le_of_ble_eq_true rfl) dX12_predict_394 lk1353 (fun _ _ _ => rfl) (hM.1 0 _ rfl) (a := (m + 62)) (hM.2.2 61 _ _ _ rfl) rfl ?_
            refine ev_iconstN 398 0 dX12_predict_397 rfl ?_
            refine ev_lald 399 _ dX12_predict_398 (hM.1 62 _ rfl) rfl (by have hNN := hM.2.1 62 _ rfl; omega) rfl ?_
            refine ev_eqJ (y := (F 0)) ((f0 _ _ _)) ?_
            refine ev_aload_n 400 dX12_predict_399 rfl rfl ?_
            refine ev_getP 403 mm_cl12 (j := 68) (Nat.le_of_ble_eq_true rfl) dX12_predict_400 lk1353 (fun _ _ _ => rfl) (hM.1 0 _ rfl) (a := (m + 62)) (hM.2.2 61 _ _ _ rfl) rfl ?_
            refine ev_iconstN 404 1 dX12_predict_403 rfl ?_
            refine ev_lald 405 _ dX12_predict_404 (hM.1 62 _ rfl) rfl (by have hNN := hM.2.1 62 _ rfl; omega) rfl ?_
            refine ev_eqJ (y := (F 1)) ((f0 _ _ _)) ?_
            refine ev_lload 407 dX12_predict_405 rfl rfl ?_
            refine ev_invS 410 (Mc := mX12_half) ⟨lk1603, lk80, hdX12_half, (Nat.le_of_ble_eq_true rfl), (Nat.le_of_ble_eq_true rfl)⟩ lk1601 lk1602 dX12_predict_407 (ct_X12_half) rfl (Nat.le_of_ble_eq_true rfl) rfl rfl ?_
            refine ev_ladd 411 dX12_predict_410 rfl ?_
            refine ev_invV 414 (Mc := mX12_word32) ⟨lk1646, lk80, hdX12_word32, (Nat.le_of_ble_eq_true rfl), (Nat.le_of_ble_eq_true rfl)⟩ lk1643 lk1645 lk50 mm_cl12 rfl dX12_predict_411 (ct_X12_word32 hM) rfl (hM.1 0 _ rfl) (Nat.le_of_ble_eq_true rfl) rfl rfl ?_
            rw [sp_up_c _ _ _ (by omega), sp_up_c _ _ _ (by omega), sp_up_up]
            refine ev_last 415 _ dX12_predict_414 (hM.1 62 _ rfl) rfl (by have hNN := hM.2.1 62 _ rfl; omega) rfl ?_
            refine ev_iconstN 416 1 dX12_predict_415 rfl ?_
            refine ev_istore 418 (lv' := [_, _, _, _, _, _, _, _, _, _, none, _, _, _, _, _]) dX12_predict_416 (Nat.le_of_ble_eq_true rfl) rfl rfl ?_
            rw [va_3 _ (a := m + 62) (b := m + 63) _ _ _ (by omega), va_up_n _ _ (show m + 62 ≠ m + 63 by omega), va_up_s]
            have e8 := lp_X12_pre8 (g := g) (I := va_up I (m + 21) (sgp (I (m + 21)) (8 * c) 8 (va_up ix k (sp_cl (sp_v F)).toInt32))) (J := sp_up J m 2 (t + sp_tc (sp_v F))) (P := P) (c := c) (n := n) (s := s) (k := k) (z := sp_z F) (t := sp_tW (F 0 + sp_half (F 1) (sp_z F))) (F := va_up F 0 (sp_W (F 0 + sp_half (F 1) (sp_z F)))) (K := K)
              (Z := (none, B, va_up I (m + 21) (sgp (I (m + 21)) (8 * c) 8 (sp_rf d (k + 1) (sp_r1 (sp_z F) F K (7 - k)).1 (sp_r1 (sp_z F) F K (7 - k)).2.1 (va_up ix k (sp_cl (sp_v F)).toInt32) (t + (sp_tc (sp_v F) + (sp_r1 (sp_z F) F K (7 - k)).2.2))).1), va_up (va_up (sp_up J m 2 (sp_rf d (k + 1) (sp_r1 (sp_z F) F K (7 - k)).1 (sp_r1 (sp_z F) F K (7 - k)).2.1 (va_up ix k (sp_cl (sp_v F)).toInt32) (t + (sp_tc (sp_v F) + (sp_r1 (sp_z F) F K (7 - k)).2.2))).2) (m + 62) F') (m + 63) K', P)) (w := 0) (u := .null) (v := .null) hM (by omega) ?_ (7 - k) 0 (by omega)
            · rw [show sp_ro (sp_z F) (va_up F 0 (sp_W (F 0 + sp_half (F 1) (sp_z F))), K, sp_tW (F 0 + sp_half (F 1) (sp_z F))) 0 = (va_up F 0 (sp_W (F 0 + sp_half (F 1) (sp_z F))), K, sp_tW (F 0 + sp_half (F 1) (sp_z F))) from rfl, sp_up_up] at e8
              simp only [Nat.zero_add] at e8
              refine ev_le (mle_s (mle_s (mle_s (mle_s (mle_s (mle_n (mle_n (mle_s (mle_n (mle_n (mle_n (mle_s (mle_n (mle_n (mle_n (mle_n (mle_0))))))))))))))))) ?_
              exact e8
            rw [show sp_ro (sp_z F) (va_up F 0 (sp_W (F 0 + sp_half (F 1) (sp_z F))), K, sp_tW (F 0 + sp_half (F 1) (sp_z F))) (7 - k) = sp_r1 (sp_z F) F K (7 - k) from rfl, sp_up_up, Int64.add_assoc]
            refine ev_iincN 499 (lv' := [_, _, _, some (.int _), _, _, _, _, _, _, _, _, _, _, _, _]) 1 dX12_predict_496 rfl (Nat.le_of_ble_eq_true rfl) rfl rfl ?_
            refine ev_goto 227 dX12_predict_499 (by decide) ?_
            exact e
        obtain ⟨F', K', e⟩ := key
        refine ⟨F', K', ?_⟩
        refine ev_aload_n 264 dX12_predict_263 rfl rfl ?_
        refine ev_getP 267 mm_cl12 (j := 68) (Nat.le_of_ble_eq_true rfl) dX12_predict_264 lk1353 (fun _ _ _ => rfl) (hM.1 0 _ rfl) (a := (m + 62)) (hM.2.2 61 _ _ _ rfl) rfl ?_
        refine ev_iconstN 268 0 dX12_predict_267 rfl ?_
        refine ev_lald 269 _ dX12_predict_268 (hM.1 62 _ rfl) rfl (by have hNN := hM.2.1 62 _ rfl; omega) rfl ?_
        refine ev_eqJ (y := (F 0)) ((f0 _ _ _)) ?_
        refine ev_lconst 270 (v := 0) dX12_predict_269 (by decide +kernel) rfl ?_
        refine ev_lcmp 271 dX12_predict_270 rfl ?_
        refine ev_lc_le 274 286 dX12_predict_271 (by decide) rfl (fun hx => absurd (c1) hx) (fun hbr => ?_)
        refine ev_lload 276 dX12_predict_274 rfl rfl ?_
        refine ev_aload_n 277 dX12_predict_276 rfl rfl ?_
        refine ev_getP 280 mm_cl12 (j := 68) (Nat.le_of_ble_eq_true rfl) dX12_predict_277 lk1353 (fun _ _ _ => rfl) (hM.1 0 _ rfl) (a := (m + 62)) (hM.2.2 61 _ _ _ rfl) rfl ?_
        refine ev_iconstN 281 0 dX12_predict_280 rfl ?_
        refine ev_lald 282 _ dX12_predict_281 (hM.1 62 _ rfl) rfl (by have hNN := hM.2.1 62 _ rfl; omega) rfl ?_
        refine ev_eqJ (y := (F 0)) ((f0 _ _ _)) ?_
        refine ev_lcmp 283 dX12_predict_282 rfl ?_
        refine ev_lc_lt 286 287 dX12_predict_283 (by decide) rfl (fun hbr => ?_) (fun hx => absurd (c2) hx)
        refine ev_ldc2 290 dX12_predict_287 lk1610 rfl ?_
        refine ev_aload_n 291 dX12_predict_290 rfl rfl ?_
        refine ev_getP 294 mm_cl12 (j := 68) (Nat.le_of_ble_eq_true rfl) dX12_predict_291 lk1353 (fun _ _ _ => rfl) (hM.1 0 _ rfl) (a := (m + 62)) (hM.2.2 61 _ _ _ rfl) rfl ?_
        refine ev_iconstN 295 1 dX12_predict_294 rfl ?_
        refine ev_lald 296 _ dX12_predict_295 (hM.1 62 _ rfl) rfl (by have hNN := hM.2.1 62 _ rfl; omega) rfl ?_
        refine ev_eqJ (y := (F 1)) ((f0 _ _ _)) ?_
        refine ev_lmul 297 dX12_predict_296 rfl ?_
        refine ev_aload_n 298 dX12_predict_297 rfl rfl ?_
        refine ev_getP 301 mm_cl12 (j := 68) (Nat.le_of_ble_eq_true rfl) dX12_predict_298 lk1353 (fun _ _ _ => rfl) (hM.1 0 _ rfl) (a := (m + 62)) (hM.2.2 61 _ _ _ rfl) rfl ?_
        refine ev_iconstN 302 0 dX12_predict_301 rfl ?_
        refine ev_lald 303 _ dX12_predict_302 (hM.1 62 _ rfl) rfl (by have hNN := hM.2.1 62 _ rfl; omega) rfl ?_
        refine ev_eqJ (y := (F 0)) ((f0 _ _ _)) ?_
        refine ev_ldiv 304 dX12_predict_303 (by assumption) rfl ?_
        refine ev_eqJ (y := sp_z F) rfl ?_
        refine ev_lstore 306 (lv' := [_, _, _, _, _, _, none, _, _, _, _, _, _, _, _, _]) dX12_predict_304 (Nat.le_of_ble_eq_true rfl) rfl rfl ?_
        refine ev_lload 308 dX12_predict_306 rfl rfl ?_
        refine ev_ldc2 311 dX12_predict_308 lk1640 rfl ?_
        refine ev_ladd 312 dX12_predict_311 rfl ?_
        refine ev_bipushN 314 10 dX12_predict_312 (by decide +kernel) rfl ?_
        refine ev_lshr 315 dX12_predict_314 rfl ?_
        refine ev_eqJ (y := sp_v F) rfl ?_
        refine ev_lstore 317 (lv' := [_, _, _, _, _, _, _, _, none, _, _, _, _, _, _, _]) dX12_predict_315 (Nat.le_of_ble_eq_true rfl) rfl rfl ?_
        refine ev_lload 319 dX12_predict_317 rfl rfl ?_
        refine ev_ldc2 322 dX12_predict_319 lk1641 rfl ?_
        refine ev_lcmp 323 dX12_predict_322 rfl ?_
        rw [sp_cl_i] at e
        have e1 : (31 : Int64).toInt = 31 := by decide +kernel
        have e2 : (0 : Int64).toInt = 0 := by decide +kernel
        have e3 : (-31 : Int64).toInt = -31 := by decide +kernel
        refine ev_lc_gt 326 335 dX12_predict_323 (by decide) rfl (fun h1 => ?_) (fun h1 => ?_)
        · rw [if_pos h1, show sp_tc (sp_v F) = 1 by unfold sp_tc; rw [if_pos (Or.inr h1)]] at e
          rw [Int64.lt_iff_toInt_lt] at h1
          refine ev_aload_n 336 dX12_predict_335 rfl rfl ?_
          refine ev_dup 337 dX12_predict_336 rfl rfl ?_
          refine ev_getJ 340 mm_cl12 (j := 2) (Nat.le_of_ble_eq_true rfl) dX12_predict_337 lk1287 (fun _ _ _ => rfl) (hM.1 0 _ rfl) rfl ?_
          refine ev_lconst 341 (v := 1) dX12_predict_340 (by decide +kernel) rfl ?_
          refine ev_ladd 342 dX12_predict_341 rfl ?_
          refine ev_putJ 345 mm_cl12 (j := 2) (Nat.le_of_ble_eq_true rfl) dX12_predict_342 lk1287 rfl (fun _ _ _ => rfl) rfl rfl (hM.1 0 _ rfl) rfl ?_
          refine ev_lload 347 dX12_predict_345 rfl rfl ?_
          refine ev_lconst 348 (v := 0) dX12_predict_347 (by decide +kernel) rfl ?_
          refine ev_lcmp 349 dX12_predict_348 rfl ?_
          rw [sp_up_f, sp_up_c _ _ _ (by omega), sp_up_c _ _ _ (by omega), sp_up_up]
          refine ev_lc_le 352 358 dX12_predict_349 (by decide) rfl (fun hx => absurd ((by rw [Int64.lt_iff_toInt_lt]; omega)) hx) (fun hbr => ?_)
          refine ev_ldc2 355 dX12_predict_352 lk1641 rfl ?_
          refine ev_goto 361 dX12_predict_355 (by decide) ?_
          refine ev_lstore 363 (lv' := [_, _, _, _, _, _, _, _, none, _, _, _, _, _, _, _]) dX12_predict_361 (Nat.le_of_ble_eq_true rfl) rfl rfl ?_
          refine ev_le (mle_s (mle_s (mle_s (mle_s (mle_s (mle_n (mle_n (mle_s (mle_n (mle_s (mle_n (mle_n (mle_n (mle_n (mle_n (mle_n (mle_0))))))))))))))))) ?_
          exact e
        · refine ev_lload 328 dX12_predict_326 rfl rfl ?_
          refine ev_ldc2 331 dX12_predict_328 lk1642 rfl ?_
          refine ev_lcmp 332 dX12_predict_331 rfl ?_
          refine ev_lc_ge 335 363 dX12_predict_332 (by decide) rfl (fun h2 => ?_) (fun h2 => ?_)
          · rw [if_neg h1, if_neg h2, show sp_tc (sp_v F) = 0 by unfold sp_tc; rw [if_neg (fun h => h.elim h2 h1)], Int64.add_zero] at e
            refine ev_le (mle_s (mle_s (mle_s (mle_s (mle_s (mle_n (mle_n (mle_s (mle_n (mle_s (mle_n (mle_n (mle_n (mle_n (mle_n (mle_n (mle_0))))))))))))))))) ?_
            exact e
          · rw [if_neg h1, if_pos h2, show sp_tc (sp_v F) = 1 by unfold sp_tc; rw [if_pos (Or.inl h2)]] at e
            rw [Int64.lt_iff_toInt_lt] at h2
            refine ev_aload_n 336 dX12_predict_335 rfl rfl ?_
            refine ev_dup 337 dX12_predict_336 rfl rfl ?_
            refine ev_getJ 340 mm_cl12 (j := 2) (Nat.le_of_ble_eq_true rfl) dX12_predict_337 lk1287 (fun _ _ _ => rfl) (hM.1 0 _ rfl) rfl ?_
            refine ev_lconst 341 (v := 1) dX12_predict_340 (by decide +kernel) rfl ?_
            refine ev_ladd 342 dX12_predict_341 rfl ?_
            refine ev_putJ 345 mm_cl12 (j := 2) (Nat.le_of_ble_eq_true rfl) dX12_predict_342 lk1287 rfl (fun _ _ _ => rfl) rfl rfl (hM.1 0 _ rfl) rfl ?_
            refine ev_lload 347 dX12_predict_345 rfl rfl ?_
            refine ev_lconst 348 (v := 0) dX12_predict_347 (by decide +kernel) rfl ?_
            refine ev_lcmp 349 dX12_predict_348 rfl ?_
            rw [sp_up_f, sp_up_c _ _ _ (by omega), sp_up_c _ _ _ (by omega), sp_up_up]
            refine ev_lc_le 352 358 dX12_predict_349 (by decide) rfl (fun hbr => ?_) (fun hx => absurd hx ((by rw [Int64.lt_iff_toInt_lt]; omega)))
            refine ev_ldc2 361 dX12_predict_358 lk1642 rfl ?_
            refine ev_lstore 363 (lv' := [_, _, _, _, _, _, _, _, none, _, _, _, _, _, _, _]) dX12_predict_361 (Nat.le_of_ble_eq_true rfl) rfl rfl ?_
            refine ev_le (mle_s (mle_s (mle_s (mle_s (mle_s (mle_n (mle_n (mle_s (mle_n (mle_s (mle_n (mle_n (mle_n (mle_n (mle_n (mle_n (mle_0))))))))))))))))) ?_
            exact e
      · refine ⟨F, K, ?_⟩
        rw [show sp_rf (d + 1) k F K ix t = (ix, t) by rw [sp_rf, if_pos (Or.inr c2)]]
        refine ev_aload_n 264 dX12_predict_263 rfl rfl ?_
        refine ev_getP 267 mm_cl12 (j := 68) (Nat.le_of_ble_eq_true rfl) dX12_predict_264 lk1353 (fun _ _ _ => rfl) (hM.1 0 _ rfl) (a := (m + 62)) (hM.2.2 61 _ _ _ rfl) rfl ?_
        refine ev_iconstN 268 0 dX12_predict_267 rfl ?_
        refine ev_lald 269 _ dX12_predict_268 (hM.1 62 _ rfl) rfl (by have hNN := hM.2.1 62 _ rfl; omega) rfl ?_
        refine ev_eqJ (y := (F 0)) ((f0 _ _ _)) ?_
        refine ev_lconst 270 (v := 0) dX12_predict_269 (by decide +kernel) rfl ?_
        refine ev_lcmp 271 dX12_predict_270 rfl ?_
        refine ev_lc_le 274 286 dX12_predict_271 (by decide) rfl (fun hx => absurd (c1) hx) (fun hbr => ?_)
        refine ev_lload 276 dX12_predict_274 rfl rfl ?_
        refine ev_aload_n 277 dX12_predict_276 rfl rfl ?_
        refine ev_getP 280 mm_cl12 (j := 68) (Nat.le_of_ble_eq_true rfl) dX12_predict_277 lk1353 (fun _ _ _ => rfl) (hM.1 0 _ rfl) (a := (m + 62)) (hM.2.2 61 _ _ _ rfl) rfl ?_
        refine ev_iconstN 281 0 dX12_predict_280 rfl ?_
        refine ev_lald 282 _ dX12_predict_281 (hM.1 62 _ rfl) rfl (by have hNN := hM.2.1 62 _ rfl; omega) rfl ?_
        refine ev_eqJ (y := (F 0)) ((f0 _ _ _)) ?_
        refine ev_lcmp 283 dX12_predict_282 rfl ?_
        refine ev_lc_lt 286 287 dX12_predict_283 (by decide) rfl (fun hx => absurd hx (c2)) (fun hbr => ?_)
        exact ev_vret dX12_predict_286 rfl (rfl)
    · refine ⟨F, K, ?_⟩
      rw [show sp_rf (d + 1) k F K ix t = (ix, t) by rw [sp_rf, if_pos (Or.inl c1)]]
      refine ev_aload_n 264 dX12_predict_263 rfl rfl ?_
      refine ev_getP 267 mm_cl12 (j := 68) (Nat.le_of_ble_eq_true rfl) dX12_predict_264 lk1353 (fun _ _ _ => rfl) (hM.1 0 _ rfl) (a := (m + 62)) (hM.2.2 61 _ _ _ rfl) rfl ?_
      refine ev_iconstN 268 0 dX12_predict_267 rfl ?_
      refine ev_lald 269 _ dX12_predict_268 (hM.1 62 _ rfl) rfl (by have hNN := hM.2.1 62 _ rfl; omega) rfl ?_
      refine ev_eqJ (y := (F 0)) ((f0 _ _ _)) ?_
      refine ev_lconst 270 (v := 0) dX12_predict_269 (by decide +kernel) rfl ?_
      refine ev_lcmp 271 dX12_predict_270 rfl ?_
      refine ev_lc_le 274 286 dX12_predict_271 (by decide) rfl (fun hbr => ?_) (fun hx => absurd hx (c1))
      exact ev_vret dX12_predict_286 rfl (rfl)
theorem cx_X12_predict {c n : Nat} (hM : lyM B P m) (hc8 : c < 8) (hn : n ≤ 320) (h9 : 9 ≤ n) : ∃ J' : mm_TJ, Ct g mX12_predict [.ref m, .int (nI c), .int (nI n)] B I J P
    (none, B, va_up I (m + 21) (sgp (I (m + 21)) (8 * c) 8 (sp_pr (I (m + 53)) n).1), J', P) ∧
    J' m = sp_up J m 2 (sp_pr (I (m + 53)) n).2 m ∧ (∀ q, q ≠ m → q ≠ m + 61 → q ≠ m + 62 → q ≠ m + 63 → J' q = J q) := by
  obtain ⟨F1, a1, a2⟩ := lx_X12_pre2 (g := g) (I := I) (J := J) (c := c) hM hn h9 9 0 (by omega) (J (m + 61)) (fun j hj => by omega)
  obtain ⟨F2, b1, b2⟩ := lx_X12_pre4 (g := g) (I := I) (J := J) (c := c) (n := n) (s := sp_sf (F1 0) 33 0) (F0 := F1) hM 9 0 (by omega) F1 (fun j hj => by rw [if_neg (by omega)])
  have hF : ∀ k, k ≤ 8 → F2 k = sp_ar (I (m + 53)) n k := fun j hj => by
    rw [b1 j (by omega), a1 j (by omega), a1 0 (by omega)]
    rfl
  have z0 : (fun (_ : Nat) => nI 0) = fun _ => 0 := by funext _; exact nI_0
  by_cases c0 : sp_ar (I (m + 53)) n 0 = 0
  · refine ⟨va_up J (m + 61) F2, ?_, ?_, ?_⟩
    · rw [show sp_pr (I (m + 53)) n = (fun _ => 0, 0) by unfold sp_pr; rw [if_pos c0]]
      refine ct_of (lv := [some (.ref m), some (.int (nI c)), some (.int (nI n)), none, none, none, none, none, none, none, none, none, none, none, none, none]) (by decide +kernel) (Nat.le_of_ble_eq_true rfl) rfl ?_
      refine ev_iconstN 1 0 dX12_predict_0 rfl ?_
      refine ev_istore_n 2 (lv' := [_, _, some (.int _), _, _, _, _, _, _, _, _, _, _, _, _, _]) dX12_predict_1 (Nat.le_of_ble_eq_true rfl) rfl rfl ?_
      rw [va_up_id] at a2
      refine a2 _ ?_
      refine ev_iconstN 65 0 dX12_predict_64 rfl ?_
      refine ev_istore_n 66 (lv' := [_, _, some (.int _), _, _, _, _, _, _, _, _, _, _, _, _, _]) dX12_predict_65 (Nat.le_of_ble_eq_true rfl) rfl rfl ?_
      refine lp_X12_pre3 hM ?_ 33 0 (by omega) rfl
      have hs := sp_sf_le (F1 0) 33 0 (by omega)
      refine ev_iconstN 88 0 dX12_predict_87 rfl ?_
      refine ev_istore 90 (lv' := [_, _, _, some (.int _), _, _, _, _, _, _, _, _, _, _, _, _]) dX12_predict_88 (Nat.le_of_ble_eq_true rfl) rfl rfl ?_
      refine b2 _ ?_
      refine ev_iconstN 120 0 dX12_predict_119 rfl ?_
      refine ev_istore 122 (lv' := [_, _, _, some (.int _), _, _, _, _, _, _, _, _, _, _, _, _]) dX12_predict_120 (Nat.le_of_ble_eq_true rfl) rfl rfl ?_
      have e5 := lp_X12_pre5 (g := g) (I := I) (J := va_up J (m + 61) F2) (c := c) (n := n) (s := sp_sf (F1 0) 33 0) (Z := (none, B, va_up I (m + 21) (sgp (I (m + 21)) (8 * c) 8 (fun _ => 0)), va_up J (m + 61) F2, P)) hM hc8 ?_ 8 0 (by omega)
      · rw [sgp_0, va_up_id] at e5
        exact e5
      rw [z0]
      refine ev_aload_n 149 dX12_predict_148 rfl rfl ?_
      refine ev_getP 152 mm_cl12 (j := 67) (Nat.le_of_ble_eq_true rfl) dX12_predict_149 lk1352 (fun _ _ _ => rfl) (hM.1 0 _ rfl) (a := (m + 61)) (hM.2.2 60 _ _ _ rfl) rfl ?_
      refine ev_iconstN 153 0 dX12_predict_152 rfl ?_
      refine ev_lald 154 _ dX12_predict_153 (hM.1 61 _ rfl) rfl (by have hNN := hM.2.1 61 _ rfl; omega) rfl ?_
      refine ev_eqJ (y := (F2 0)) ((by rw [va_up_s])) ?_
      refine ev_lconst 155 (v := 0) dX12_predict_154 (by decide +kernel) rfl ?_
      refine ev_lcmp 156 dX12_predict_155 rfl ?_
      refine ev_lc_ne 159 160 dX12_predict_156 (by decide) rfl (fun hx => absurd (((hF 0 (by omega)).trans c0)) hx) (fun hbr => ?_)
      exact ev_vret dX12_predict_159 rfl (rfl)
    · rw [va_up_n _ _ (by omega), show sp_pr (I (m + 53)) n = (fun _ => 0, 0) by unfold sp_pr; rw [if_pos c0], sp_up_0]
    · intro q h1 h2 h3 h4
      rw [va_up_n _ _ h2]
  · generalize hA : va_up F2 0 (F2 0 + (F2 0 >>> ((nI 10).toInt64 &&& 63) + 1)) = A
    obtain ⟨F3, K3, c1, c2⟩ := lx_X12_pre6 (g := g) (I := va_up I (m + 21) (sgp (I (m + 21)) (8 * c) 8 (fun _ => 0))) (J := J) (c := c) (n := n) (s := sp_sf (F1 0) 33 0) (A := A) hM 9 0 (by omega) (J (m + 62)) (J (m + 63)) (fun j hj => by omega)
    obtain ⟨F', K', e⟩ := lx_X12_pre7 (g := g) (I := I) (J := va_up J (m + 61) A) (c := c) (n := n) (s := sp_sf (F1 0) 33 0) hM hc8 8 0 (by omega) F3 K3 (fun _ => 0) 0
    have hpr : sp_pr (I (m + 53)) n = sp_rf 8 0 F3 K3 (fun _ => 0) 0 := by
      unfold sp_pr
      rw [if_neg c0]
      refine sp_rf_cg _ _ _ _ _ _ _ _ (fun j hj => ?_) (fun j h1 h2 => ?_)
      · rw [(c1 j (by omega)).1, ← hA, hF 0 (by omega)]
        by_cases e : j = 0
        · subst e; rw [va_up_s, va_up_s]
        · rw [va_up_n _ _ e, va_up_n _ _ e]; exact (hF j hj).symm
      · rw [(c1 j (by omega)).2, ← hA, va_up_n _ _ (by omega)]
        exact (hF j (by omega)).symm
    rw [← hpr, sp_up_0] at e
    refine ⟨va_up (va_up (sp_up (va_up J (m + 61) A) m 2 (sp_pr (I (m + 53)) n).2) (m + 62) F') (m + 63) K', ?_, ?_, ?_⟩
    · refine ct_of (lv := [some (.ref m), some (.int (nI c)), some (.int (nI n)), none, none, none, none, none, none, none, none, none, none, none, none, none]) (by decide +kernel) (Nat.le_of_ble_eq_true rfl) rfl ?_
      refine ev_iconstN 1 0 dX12_predict_0 rfl ?_
      refine ev_istore_n 2 (lv' := [_, _, some (.int _), _, _, _, _, _, _, _, _, _, _, _, _, _]) dX12_predict_1 (Nat.le_of_ble_eq_true rfl) rfl rfl ?_
      rw [va_up_id] at a2
      refine a2 _ ?_
      refine ev_iconstN 65 0 dX12_predict_64 rfl ?_
      refine ev_istore_n 66 (lv' := [_, _, some (.int _), _, _, _, _, _, _, _, _, _, _, _, _, _]) dX12_predict_65 (Nat.le_of_ble_eq_true rfl) rfl rfl ?_
      refine lp_X12_pre3 hM ?_ 33 0 (by omega) rfl
      have hs := sp_sf_le (F1 0) 33 0 (by omega)
      refine ev_iconstN 88 0 dX12_predict_87 rfl ?_
      refine ev_istore 90 (lv' := [_, _, _, some (.int _), _, _, _, _, _, _, _, _, _, _, _, _]) dX12_predict_88 (Nat.le_of_ble_eq_true rfl) rfl rfl ?_
      refine b2 _ ?_
      refine ev_iconstN 120 0 dX12_predict_119 rfl ?_
      refine ev_istore 122 (lv' := [_, _, _, some (.int _), _, _, _, _, _, _, _, _, _, _, _, _]) dX12_predict_120 (Nat.le_of_ble_eq_true rfl) rfl rfl ?_
      have e5 := lp_X12_pre5 (g := g) (I := I) (J := va_up J (m + 61) F2) (c := c) (n := n) (s := sp_sf (F1 0) 33 0) (Z := (none, B, va_up I (m + 21) (sgp (I (m + 21)) (8 * c) 8 (sp_pr (I (m + 53)) n).1), va_up (va_up (sp_up (va_up J (m + 61) A) m 2 (sp_pr (I (m + 53)) n).2) (m + 62) F') (m + 63) K', P)) hM hc8 ?_ 8 0 (by omega)
      · rw [sgp_0, va_up_id] at e5
        exact e5
      rw [z0]
      refine ev_aload_n 149 dX12_predict_148 rfl rfl ?_
      refine ev_getP 152 mm_cl12 (j := 67) (Nat.le_of_ble_eq_true rfl) dX12_predict_149 lk1352 (fun _ _ _ => rfl) (hM.1 0 _ rfl) (a := (m + 61)) (hM.2.2 60 _ _ _ rfl) rfl ?_
      refine ev_iconstN 153 0 dX12_predict_152 rfl ?_
      refine ev_lald 154 _ dX12_predict_153 (hM.1 61 _ rfl) rfl (by have hNN := hM.2.1 61 _ rfl; omega) rfl ?_
      refine ev_eqJ (y := (F2 0)) ((by rw [va_up_s])) ?_
      refine ev_lconst 155 (v := 0) dX12_predict_154 (by decide +kernel) rfl ?_
      refine ev_lcmp 156 dX12_predict_155 rfl ?_
      refine ev_lc_ne 159 160 dX12_predict_156 (by decide) rfl (fun hbr => ?_) (fun hx => absurd hx ((fun z => c0 ((hF 0 (by omega)).symm.trans z))))
      refine ev_aload_n 161 dX12_predict_160 rfl rfl ?_
      refine ev_getP 164 mm_cl12 (j := 67) (Nat.le_of_ble_eq_true rfl) dX12_predict_161 lk1352 (fun _ _ _ => rfl) (hM.1 0 _ rfl) (a := (m + 61)) (hM.2.2 60 _ _ _ rfl) rfl ?_
      refine ev_iconstN 165 0 dX12_predict_164 rfl ?_
      refine ev_dup2_11 166 dX12_predict_165 rfl rfl rfl ?_
      refine ev_lald 167 _ dX12_predict_166 (hM.1 61 _ rfl) rfl (by have hNN := hM.2.1 61 _ rfl; omega) rfl ?_
      refine ev_eqJ (y := (F2 0)) ((by rw [va_up_s])) ?_
      refine ev_aload_n 168 dX12_predict_167 rfl rfl ?_
      refine ev_getP 171 mm_cl12 (j := 67) (Nat.le_of_ble_eq_true rfl) dX12_predict_168 lk1352 (fun _ _ _ => rfl) (hM.1 0 _ rfl) (a := (m + 61)) (hM.2.2 60 _ _ _ rfl) rfl ?_
      refine ev_iconstN 172 0 dX12_predict_171 rfl ?_
      refine ev_lald 173 _ dX12_predict_172 (hM.1 61 _ rfl) rfl (by have hNN := hM.2.1 61 _ rfl; omega) rfl ?_
      refine ev_eqJ (y := (F2 0)) ((by rw [va_up_s])) ?_
      refine ev_bipushN 175 10 dX12_predict_173 (by decide +kernel) rfl ?_
      refine ev_lshr 176 dX12_predict_175 rfl ?_
      refine ev_lconst 177 (v := 1) dX12_predict_176 (by decide +kernel) rfl ?_
      refine ev_ladd 178 dX12_predict_177 rfl ?_
      refine ev_ladd 179 dX12_predict_178 rfl ?_
      refine ev_last 180 _ dX12_predict_179 (hM.1 61 _ rfl) rfl (by have hNN := hM.2.1 61 _ rfl; omega) rfl ?_
      refine ev_iconstN 181 0 dX12_predict_180 rfl ?_
      refine ev_istore 183 (lv' := [_, _, _, some (.int _), _, _, _, _, _, _, _, _, _, _, _, _]) dX12_predict_181 (Nat.le_of_ble_eq_true rfl) rfl rfl ?_
      rw [va_up_s, bx_uu, hA]
      have u1 := va_up_id (va_up J (m + 61) A) (m + 62)
      rw [va_up_n _ _ (show m + 62 ≠ m + 61 by omega)] at u1
      have u2 := va_up_id (va_up J (m + 61) A) (m + 63)
      rw [va_up_n _ _ (show m + 63 ≠ m + 61 by omega)] at u2
      rw [u1, u2] at c2
      refine c2 _ ?_
      refine ev_iconstN 225 1 dX12_predict_224 rfl ?_
      refine ev_istore 227 (lv' := [_, _, _, some (.int _), _, _, _, _, _, _, _, _, _, _, _, _]) dX12_predict_225 (Nat.le_of_ble_eq_true rfl) rfl rfl ?_
      exact e
    · rw [va_up_n _ _ (by omega), va_up_n _ _ (by omega), sp_up_c _ _ _ (by omega), va_up_n _ _ (by omega)]
    · intro q h1 h2 h3 h4
      rw [va_up_n _ _ h4, va_up_n _ _ h3, sp_up_n _ _ h1, va_up_n _ _ h2]
end MOP
