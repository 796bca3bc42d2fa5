/-! FRAMES: what changes them, class and model -/
theorem nI_xor (a b : Nat) : nI a ^^^ nI b = nI (a ^^^ b) := by
  apply Int32.toBitVec_inj.mp
  show BitVec.ofNat 32 a ^^^ BitVec.ofNat 32 b = BitVec.ofNat 32 (a ^^^ b)
  apply BitVec.eq_of_toNat_eq
  rw [BitVec.toNat_xor, BitVec.toNat_ofNat, BitVec.toNat_ofNat, BitVec.toNat_ofNat, Nat.xor_mod_two_pow]
theorem xr_9 {v : Int32} {k : Nat} (h1 : -256 ≤ v.toInt) (h2 : v.toInt ≤ 255) (hk : k ≤ 255) : -256 ≤ (v ^^^ nI k).toInt ∧ (v ^^^ nI k).toInt ≤ 255 := by
  have key : ∀ w : Int32, 0 ≤ w.toInt → w.toInt ≤ 255 → 0 ≤ (w ^^^ nI k).toInt ∧ (w ^^^ nI k).toInt ≤ 255 := fun w a b => by
    have e : w = nI w.toInt.toNat := Int32.toInt_inj.mp (by rw [nI_toInt (by omega)]; omega)
    have l : w.toInt.toNat ^^^ k < 2 ^ 8 := Nat.xor_lt_two_pow (by omega) (by omega)
    rw [e, nI_xor, nI_toInt (by omega)]
    omega
  by_cases h : 0 ≤ v.toInt
  · have := key v h h2; omega
  · have t : (~~~v).toInt = -v.toInt - 1 := by
      rw [Int32.toInt_not]
      exact Int.bmod_eq_of_le (by omega) (by omega)
    have a := key (~~~v) (by omega) (by omega)
    rw [Int32.not_xor, Int32.toInt_not] at a
    generalize v ^^^ nI k = w at a ⊢
    have l1 := w.toInt_lt
    have l2 := w.le_toInt
    rw [Int.bmod_eq_of_le (by omega) (by omega)] at a
    omega
section FO0
variable {g : mm_G} {B : mm_B} {I : mm_TI} {J : mm_TJ} {P : mm_TP} {x m o n k f a s : Nat}
theorem ct_finit_1 {v : Int32} (tf : mm_T B f = 104) : Ct g mX4_init [.ref f, .int v, .ref a, .null] B I J P (none, B, va_up I f (va_up (I f) 0 v), J, va_up P f (va_up (va_up (P f) 1 (some a)) 2 none)) := by
  refine ct_of (lv := [some (.ref f), some (.int (v)), some (.ref a), some (.null)]) (by decide +kernel) (Nat.le_of_ble_eq_true rfl) rfl ?_
  refine ev_aload_n 1 dX4_init_0 rfl rfl ?_
  refine ev_objInit 4 dX4_init_1 lk859 lk97 lk98 (Nat.le_of_ble_eq_true rfl) (Nat.le_of_ble_eq_true rfl) (Nat.le_of_ble_eq_true rfl) rfl ?_
  refine ev_aload_n 5 dX4_init_4 rfl rfl ?_
  refine ev_iload_n 6 dX4_init_5 rfl rfl ?_
  refine ev_putFI 9 mm_cl4 (j := 0) (Nat.le_of_ble_eq_true rfl) dX4_init_6 lk860 rfl rfl rfl (fun _ _ _ => rfl) rfl rfl tf rfl ?_
  refine ev_aload_n 10 dX4_init_9 rfl rfl ?_
  refine ev_aload_n 11 dX4_init_10 rfl rfl ?_
  refine ev_putP 14 mm_cl4 (j := 1) (Nat.le_of_ble_eq_true rfl) dX4_init_11 lk863 rfl (fun _ _ _ => rfl) rfl rfl tf rfl ?_
  refine ev_aload_n 15 dX4_init_14 rfl rfl ?_
  refine ev_aload_nN 16 dX4_init_15 rfl rfl ?_
  refine ev_putN 19 mm_cl4 (j := 2) (Nat.le_of_ble_eq_true rfl) dX4_init_16 lk865 rfl (fun _ _ _ => rfl) rfl rfl tf rfl ?_
  rw [va_up_s, bx_uu]
  exact ev_vret dX4_init_19 rfl (rfl)
theorem ct_finit_2 {v : Int32} (tf : mm_T B f = 104) : Ct g mX4_init [.ref f, .int v, .null, .ref a] B I J P (none, B, va_up I f (va_up (I f) 0 v), J, va_up P f (va_up (va_up (P f) 1 none) 2 (some a))) := by
  refine ct_of (lv := [some (.ref f), some (.int (v)), some (.null), some (.ref a)]) (by decide +kernel) (Nat.le_of_ble_eq_true rfl) rfl ?_
  refine ev_aload_n 1 dX4_init_0 rfl rfl ?_
  refine ev_objInit 4 dX4_init_1 lk859 lk97 lk98 (Nat.le_of_ble_eq_true rfl) (Nat.le_of_ble_eq_true rfl) (Nat.le_of_ble_eq_true rfl) rfl ?_
  refine ev_aload_n 5 dX4_init_4 rfl rfl ?_
  refine ev_iload_n 6 dX4_init_5 rfl rfl ?_
  refine ev_putFI 9 mm_cl4 (j := 0) (Nat.le_of_ble_eq_true rfl) dX4_init_6 lk860 rfl rfl rfl (fun _ _ _ => rfl) rfl rfl tf rfl ?_
  refine ev_aload_n 10 dX4_init_9 rfl rfl ?_
  refine ev_aload_nN 11 dX4_init_10 rfl rfl ?_
  refine ev_putN 14 mm_cl4 (j := 1) (Nat.le_of_ble_eq_true rfl) dX4_init_11 lk863 rfl (fun _ _ _ => rfl) rfl rfl tf rfl ?_
  refine ev_aload_n 15 dX4_init_14 rfl rfl ?_
  refine ev_aload_n 16 dX4_init_15 rfl rfl ?_
  refine ev_putP 19 mm_cl4 (j := 2) (Nat.le_of_ble_eq_true rfl) dX4_init_16 lk865 rfl (fun _ _ _ => rfl) rfl rfl tf rfl ?_
  rw [va_up_s, bx_uu]
  exact ev_vret dX4_init_19 rfl (rfl)
theorem ct_finit_0 {v : Int32} (tf : mm_T B f = 104) : Ct g mX4_init [.ref f, .int v, .null, .null] B I J P (none, B, va_up I f (va_up (I f) 0 v), J, va_up P f (va_up (va_up (P f) 1 none) 2 none)) := by
  refine ct_of (lv := [some (.ref f), some (.int (v)), some (.null), some (.null)]) (by decide +kernel) (Nat.le_of_ble_eq_true rfl) rfl ?_
  refine ev_aload_n 1 dX4_init_0 rfl rfl ?_
  refine ev_objInit 4 dX4_init_1 lk859 lk97 lk98 (Nat.le_of_ble_eq_true rfl) (Nat.le_of_ble_eq_true rfl) (Nat.le_of_ble_eq_true rfl) rfl ?_
  refine ev_aload_n 5 dX4_init_4 rfl rfl ?_
  refine ev_iload_n 6 dX4_init_5 rfl rfl ?_
  refine ev_putFI 9 mm_cl4 (j := 0) (Nat.le_of_ble_eq_true rfl) dX4_init_6 lk860 rfl rfl rfl (fun _ _ _ => rfl) rfl rfl tf rfl ?_
  refine ev_aload_n 10 dX4_init_9 rfl rfl ?_
  refine ev_aload_nN 11 dX4_init_10 rfl rfl ?_
  refine ev_putN 14 mm_cl4 (j := 1) (Nat.le_of_ble_eq_true rfl) dX4_init_11 lk863 rfl (fun _ _ _ => rfl) rfl rfl tf rfl ?_
  refine ev_aload_n 15 dX4_init_14 rfl rfl ?_
  refine ev_aload_nN 16 dX4_init_15 rfl rfl ?_
  refine ev_putN 19 mm_cl4 (j := 2) (Nat.le_of_ble_eq_true rfl) dX4_init_16 lk865 rfl (fun _ _ _ => rfl) rfl rfl tf rfl ?_
  rw [va_up_s, bx_uu]
  exact ev_vret dX4_init_19 rfl (rfl)
theorem cx_shorten1 {w : Nat} (tf : mm_T B f = 104) (hfn : f < mm_nx B) (h1 : P f 1 = some a) (ta : mm_T B a = 201) (han : a < mm_nx B) (na : mm_N B a = s) (hs : s ≤ 64) (hw : w ≤ s) (hb : ∀ k, k < s → b8 (I a k) = I a k) : ∃ F : Nat → Int32, (∀ k, k < w → F k = I a k) ∧ Ct g mX4_shorten [.ref f, .int (nI w)] B I J P (none, mm_al B 201 w w, va_up I (mm_nx B) F, va_up J (mm_nx B) (fun _ => 0), va_up (va_up P (mm_nx B) (fun _ => none)) f (va_up (P f) 1 (some (mm_nx B)))) := by
  obtain ⟨F, hF, hc⟩ := cx_copyB (g := g) (I := I) (J := J) (P := P) ta na han hs hw (fun k hk => hb k (by omega))
  refine ⟨F, hF, ?_⟩
  have tf' : mm_T (mm_al B 201 w w) f = 104 := (al_T (by omega)).trans tf
  refine ct_of (lv := [some (.ref f), some (.int (nI w))]) (by decide +kernel) (Nat.le_of_ble_eq_true rfl) rfl ?_
  refine ev_iload_n 1 dX4_shorten_0 rfl rfl ?_
  refine ev_if_ltN 4 12 dX4_shorten_1 (by decide) (by omega) rfl (fun hx => absurd hx (not_false)) (fun hbr => ?_)
  refine ev_iload_n 5 dX4_shorten_4 rfl rfl ?_
  refine ev_aload_n 6 dX4_shorten_5 rfl rfl ?_
  refine ev_invV 9 (Mc := mX4_size) ⟨lk931, lk89, hdX4_size, (Nat.le_of_ble_eq_true rfl), (Nat.le_of_ble_eq_true rfl)⟩ lk940 lk929 lk930 mm_cl4 rfl dX4_shorten_6 (ct_size tf (Or.inr (Or.inl ⟨a, h1, ta, na⟩))) rfl tf (Nat.le_of_ble_eq_true rfl) rfl rfl ?_
  refine ev_icmp_leN 12 13 dX4_shorten_9 (by decide) (by omega) (by omega) rfl (fun hbr => ?_) (fun hx => absurd ((by omega)) hx)
  refine ev_aload_n 14 dX4_shorten_13 rfl rfl ?_
  refine ev_getP 17 mm_cl4 (j := 1) (Nat.le_of_ble_eq_true rfl) dX4_shorten_14 lk863 (fun _ _ _ => rfl) tf (a := a) (h1) rfl ?_
  refine ev_ifnull_r 20 dX4_shorten_17 rfl ?_
  refine ev_aload_n 21 dX4_shorten_20 rfl rfl ?_
  refine ev_aload_n 22 dX4_shorten_21 rfl rfl ?_
  refine ev_getP 25 mm_cl4 (j := 1) (Nat.le_of_ble_eq_true rfl) dX4_shorten_22 lk863 (fun _ _ _ => rfl) tf (a := a) (h1) rfl ?_
  refine ev_iload_n 26 dX4_shorten_25 rfl rfl ?_
  refine ev_invS 29 (Mc := mJ7_copyOf_9075b) ⟨lk964, lk90, hdJ7_copyOf_9075b, (Nat.le_of_ble_eq_true rfl), (Nat.le_of_ble_eq_true rfl)⟩ lk962 lk963 dX4_shorten_26 (hc) rfl (Nat.le_of_ble_eq_true rfl) rfl rfl ?_
  refine ev_putP 32 mm_cl4 (j := 1) (Nat.le_of_ble_eq_true rfl) dX4_shorten_29 lk863 rfl (fun _ _ _ => rfl) rfl rfl tf' rfl ?_
  refine ev_goto 54 dX4_shorten_32 (by decide) ?_
  rw [va_up_n _ _ (show f ≠ mm_nx B by omega)]
  exact ev_vret dX4_shorten_54 rfl (rfl)
theorem cx_shorten2 {w : Nat} (tf : mm_T B f = 104) (hfn : f < mm_nx B) (h1 : P f 1 = none) (h2 : P f 2 = some a) (ta : mm_T B a = 202) (han : a < mm_nx B) (na : mm_N B a = s) (hs : s ≤ 64) (hw : w ≤ s) (hb : ∀ k, k < s → -256 ≤ (I a k).toInt ∧ (I a k).toInt ≤ 255) : ∃ F : Nat → Int32, (∀ k, k < w → F k = I a k) ∧ Ct g mX4_shorten [.ref f, .int (nI w)] B I J P (none, mm_al B 202 w w, va_up I (mm_nx B) F, va_up J (mm_nx B) (fun _ => 0), va_up (va_up P (mm_nx B) (fun _ => none)) f (va_up (P f) 2 (some (mm_nx B)))) := by
  obtain ⟨F, hF, hc⟩ := cx_copyS (g := g) (I := I) (J := J) (P := P) ta na han hs hw (fun k hk => hb k (by omega))
  refine ⟨F, hF, ?_⟩
  have tf' : mm_T (mm_al B 202 w w) f = 104 := (al_T (by omega)).trans tf
  refine ct_of (lv := [some (.ref f), some (.int (nI w))]) (by decide +kernel) (Nat.le_of_ble_eq_true rfl) rfl ?_
  refine ev_iload_n 1 dX4_shorten_0 rfl rfl ?_
  refine ev_if_ltN 4 12 dX4_shorten_1 (by decide) (by omega) rfl (fun hx => absurd hx (not_false)) (fun hbr => ?_)
  refine ev_iload_n 5 dX4_shorten_4 rfl rfl ?_
  refine ev_aload_n 6 dX4_shorten_5 rfl rfl ?_
  refine ev_invV 9 (Mc := mX4_size) ⟨lk931, lk89, hdX4_size, (Nat.le_of_ble_eq_true rfl), (Nat.le_of_ble_eq_true rfl)⟩ lk940 lk929 lk930 mm_cl4 rfl dX4_shorten_6 (ct_size tf (Or.inr (Or.inr ⟨a, h1, h2, ta, na⟩))) rfl tf (Nat.le_of_ble_eq_true rfl) rfl rfl ?_
  refine ev_icmp_leN 12 13 dX4_shorten_9 (by decide) (by omega) (by omega) rfl (fun hbr => ?_) (fun hx => absurd ((by omega)) hx)
  refine ev_aload_n 14 dX4_shorten_13 rfl rfl ?_
  refine ev_getN 17 mm_cl4 (j := 1) (Nat.le_of_ble_eq_true rfl) dX4_shorten_14 lk863 (fun _ _ _ => rfl) tf (h1) rfl ?_
  refine ev_ifnull_n 35 dX4_shorten_17 (by decide) ?_
  refine ev_aload_n 36 dX4_shorten_35 rfl rfl ?_
  refine ev_getP 39 mm_cl4 (j := 2) (Nat.le_of_ble_eq_true rfl) dX4_shorten_36 lk865 (fun _ _ _ => rfl) tf (a := a) (h2) rfl ?_
  refine ev_ifnull_r 42 dX4_shorten_39 rfl ?_
  refine ev_aload_n 43 dX4_shorten_42 rfl rfl ?_
  refine ev_aload_n 44 dX4_shorten_43 rfl rfl ?_
  refine ev_getP 47 mm_cl4 (j := 2) (Nat.le_of_ble_eq_true rfl) dX4_shorten_44 lk865 (fun _ _ _ => rfl) tf (a := a) (h2) rfl ?_
  refine ev_iload_n 48 dX4_shorten_47 rfl rfl ?_
  refine ev_invS 51 (Mc := mJ7_copyOf_974b1) ⟨lk976, lk90, hdJ7_copyOf_974b1, (Nat.le_of_ble_eq_true rfl), (Nat.le_of_ble_eq_true rfl)⟩ lk974 lk975 dX4_shorten_48 (hc) rfl (Nat.le_of_ble_eq_true rfl) rfl rfl ?_
  refine ev_putP 54 mm_cl4 (j := 2) (Nat.le_of_ble_eq_true rfl) dX4_shorten_51 lk865 rfl (fun _ _ _ => rfl) rfl rfl tf' rfl ?_
  rw [va_up_n _ _ (show f ≠ mm_nx B by omega)]
  exact ev_vret dX4_shorten_54 rfl (rfl)
theorem ct_flip1 {i : Nat} {mk : Int32} (tf : mm_T B f = 104) (h1 : P f 1 = some a) (ta : mm_T B a = 201) (na : mm_N B a = s) (hs : s ≤ 64) (hi : i < s) : Ct g mX4_flip [.ref f, .int (nI i), .int mk] B I J P (none, B, va_up I a (va_up (I a) i (b8 (b8 (I a i ^^^ mk)))), J, P) := by
  refine ct_of (lv := [some (.ref f), some (.int (nI (i))), some (.int (mk))]) (by decide +kernel) (Nat.le_of_ble_eq_true rfl) rfl ?_
  refine ev_aload_n 1 dX4_flip_0 rfl rfl ?_
  refine ev_iload_n 2 dX4_flip_1 rfl rfl ?_
  refine ev_invV 5 (Mc := mX4_has) ⟨lk939, lk89, hdX4_has, (Nat.le_of_ble_eq_true rfl), (Nat.le_of_ble_eq_true rfl)⟩ lk945 lk937 lk938 mm_cl4 rfl dX4_flip_2 (ct_has_t tf (Or.inr (Or.inl ⟨a, h1, ta, na⟩)) (by omega) hi) rfl tf (Nat.le_of_ble_eq_true rfl) rfl rfl ?_
  refine ev_if_neN 8 9 dX4_flip_5 (by decide) (by omega) rfl (fun hbr => ?_) (fun hx => absurd hx ((by omega)))
  refine ev_aload_n 10 dX4_flip_9 rfl rfl ?_
  refine ev_getP 13 mm_cl4 (j := 1) (Nat.le_of_ble_eq_true rfl) dX4_flip_10 lk863 (fun _ _ _ => rfl) tf (a := a) (h1) rfl ?_
  refine ev_ifnull_r 16 dX4_flip_13 rfl ?_
  refine ev_aload_n 17 dX4_flip_16 rfl rfl ?_
  refine ev_getP 20 mm_cl4 (j := 1) (Nat.le_of_ble_eq_true rfl) dX4_flip_17 lk863 (fun _ _ _ => rfl) tf (a := a) (h1) rfl ?_
  refine ev_iload_n 21 dX4_flip_20 rfl rfl ?_
  refine ev_aload_n 22 dX4_flip_21 rfl rfl ?_
  refine ev_getP 25 mm_cl4 (j := 1) (Nat.le_of_ble_eq_true rfl) dX4_flip_22 lk863 (fun _ _ _ => rfl) tf (a := a) (h1) rfl ?_
  refine ev_iload_n 26 dX4_flip_25 rfl rfl ?_
  refine ev_bald 27 _ dX4_flip_26 ta rfl (by omega) rfl ?_
  refine ev_iload_n 28 dX4_flip_27 rfl rfl ?_
  refine ev_ixor 29 dX4_flip_28 rfl ?_
  refine ev_i2b 30 dX4_flip_29 rfl ?_
  refine ev_bast 31 _ dX4_flip_30 ta rfl (by omega) rfl ?_
  refine ev_goto 49 dX4_flip_31 (by decide) ?_
  exact ev_vret dX4_flip_49 rfl (rfl)
theorem ct_flip2 {i : Nat} {mk : Int32} (tf : mm_T B f = 104) (h1 : P f 1 = none) (h2 : P f 2 = some a) (ta : mm_T B a = 202) (na : mm_N B a = s) (hs : s ≤ 64) (hi : i < s) : Ct g mX4_flip [.ref f, .int (nI i), .int mk] B I J P (none, B, va_up I a (va_up (I a) i ((I a i ^^^ mk).toInt16.toInt32.toInt16.toInt32)), J, P) := by
  refine ct_of (lv := [some (.ref f), some (.int (nI (i))), some (.int (mk))]) (by decide +kernel) (Nat.le_of_ble_eq_true rfl) rfl ?_
  refine ev_aload_n 1 dX4_flip_0 rfl rfl ?_
  refine ev_iload_n 2 dX4_flip_1 rfl rfl ?_
  refine ev_invV 5 (Mc := mX4_has) ⟨lk939, lk89, hdX4_has, (Nat.le_of_ble_eq_true rfl), (Nat.le_of_ble_eq_true rfl)⟩ lk945 lk937 lk938 mm_cl4 rfl dX4_flip_2 (ct_has_t tf (Or.inr (Or.inr ⟨a, h1, h2, ta, na⟩)) (by omega) hi) rfl tf (Nat.le_of_ble_eq_true rfl) rfl rfl ?_
  refine ev_if_neN 8 9 dX4_flip_5 (by decide) (by omega) rfl (fun hbr => ?_) (fun hx => absurd hx ((by omega)))
  refine ev_aload_n 10 dX4_flip_9 rfl rfl ?_
  refine ev_getN 13 mm_cl4 (j := 1) (Nat.le_of_ble_eq_true rfl) dX4_flip_10 lk863 (fun _ _ _ => rfl) tf (h1) rfl ?_
  refine ev_ifnull_n 34 dX4_flip_13 (by decide) ?_
  refine ev_aload_n 35 dX4_flip_34 rfl rfl ?_
  refine ev_getP 38 mm_cl4 (j := 2) (Nat.le_of_ble_eq_true rfl) dX4_flip_35 lk865 (fun _ _ _ => rfl) tf (a := a) (h2) rfl ?_
  refine ev_iload_n 39 dX4_flip_38 rfl rfl ?_
  refine ev_aload_n 40 dX4_flip_39 rfl rfl ?_
  refine ev_getP 43 mm_cl4 (j := 2) (Nat.le_of_ble_eq_true rfl) dX4_flip_40 lk865 (fun _ _ _ => rfl) tf (a := a) (h2) rfl ?_
  refine ev_iload_n 44 dX4_flip_43 rfl rfl ?_
  refine ev_sald 45 _ dX4_flip_44 ta rfl (by omega) rfl ?_
  refine ev_iload_n 46 dX4_flip_45 rfl rfl ?_
  refine ev_ixor 47 dX4_flip_46 rfl ?_
  refine ev_i2s 48 dX4_flip_47 rfl ?_
  refine ev_sast 49 _ dX4_flip_48 ta rfl (by omega) rfl ?_
  exact ev_vret dX4_flip_49 rfl (rfl)
theorem lx_widen {b : Nat} (tf : mm_T B f = 104) (hba : b ≠ a) (h1 : P f 1 = some a) (ta : mm_T B a = 201) (na : mm_N B a = s) (h2 : P f 2 = some b) (tb : mm_T B b = 202) (nb : mm_N B b = s) (hs : s ≤ 64) (hb : ∀ k, k < s → b8 (I a k) = I a k) : ∀ (d i : Nat), i + d = s →
    Ev g mX4_widen 21 [some (.ref f), some (.int (nI i))] [] B (va_up I b (sgp (fun _ => 0) 0 i (I a))) J P (none, B, va_up I b (sgp (fun _ => 0) 0 s (I a)), J, va_up P f (va_up (P f) 1 none)) := by
  intro d
  induction d with
  | zero =>
    intro i hi
    obtain rfl : i = s := by omega
    refine ev_iload_n 22 dX4_widen_21 rfl rfl ?_
    refine ev_aload_n 23 dX4_widen_22 rfl rfl ?_
    refine ev_getP 26 mm_cl4 (j := 1) (Nat.le_of_ble_eq_true rfl) dX4_widen_23 lk863 (fun _ _ _ => rfl) tf (a := a) (h1) rfl ?_
    refine ev_alen 27 1 dX4_widen_26 ta rfl ?_
    rw [na]
    refine ev_icmp_geN 30 49 dX4_widen_27 (by decide) (by omega) (by omega) rfl (fun hbr => ?_) (fun hx => absurd ((by omega)) hx)
    refine ev_aload_n 50 dX4_widen_49 rfl rfl ?_
    refine ev_null 51 dX4_widen_50 rfl ?_
    refine ev_putN 54 mm_cl4 (j := 1) (Nat.le_of_ble_eq_true rfl) dX4_widen_51 lk863 rfl (fun _ _ _ => rfl) rfl rfl tf rfl ?_
    exact ev_vret dX4_widen_54 rfl (rfl)
  | succ d ih =>
    intro i hi
    have e := ih (i + 1) (by omega)
    have ea : va_up I b (sgp (fun _ => 0) 0 i (I a)) a = I a := va_up_n _ _ (fun z => hba z.symm)
    have ev : (I a i).toInt16.toInt32 = I a i := s16_id (b8_16 (hb i (by omega))).1 (b8_16 (hb i (by omega))).2
    refine ev_iload_n 22 dX4_widen_21 rfl rfl ?_
    refine ev_aload_n 23 dX4_widen_22 rfl rfl ?_
    refine ev_getP 26 mm_cl4 (j := 1) (Nat.le_of_ble_eq_true rfl) dX4_widen_23 lk863 (fun _ _ _ => rfl) tf (a := a) (h1) rfl ?_
    refine ev_alen 27 1 dX4_widen_26 ta rfl ?_
    rw [na]
    refine ev_icmp_geN 30 49 dX4_widen_27 (by decide) (by omega) (by omega) rfl (fun hx => absurd hx ((by omega))) (fun hbr => ?_)
    refine ev_aload_n 31 dX4_widen_30 rfl rfl ?_
    refine ev_getP 34 mm_cl4 (j := 2) (Nat.le_of_ble_eq_true rfl) dX4_widen_31 lk865 (fun _ _ _ => rfl) tf (a := b) (h2) rfl ?_
    refine ev_iload_n 35 dX4_widen_34 rfl rfl ?_
    refine ev_aload_n 36 dX4_widen_35 rfl rfl ?_
    refine ev_getP 39 mm_cl4 (j := 1) (Nat.le_of_ble_eq_true rfl) dX4_widen_36 lk863 (fun _ _ _ => rfl) tf (a := a) (h1) rfl ?_
    refine ev_iload_n 40 dX4_widen_39 rfl rfl ?_
    refine ev_bald 41 _ dX4_widen_40 ta rfl (by omega) rfl ?_
    refine ev_eqI (y := ((I a i))) ((by rw [ea])) ?_
    refine ev_i2s 42 dX4_widen_41 rfl ?_
    refine ev_eqI (y := ((I a i))) (ev) ?_
    refine ev_sast 43 _ dX4_widen_42 tb rfl (by omega) rfl ?_
    rw [ev, va_up_s, bx_uu, show va_up (sgp (fun _ => 0) 0 i (I a)) i (I a i) = sgp (fun _ => 0) 0 (i + 1) (I a) by have := sgp_grow (f := fun _ => 0) (off := 0) (n := i) (v := I a) rfl; rw [Nat.zero_add] at this; exact this]
    refine ev_iincN 46 (lv' := [some (.ref _), _]) 1 dX4_widen_43 rfl (Nat.le_of_ble_eq_true rfl) rfl rfl ?_
    refine ev_goto 21 dX4_widen_46 (by decide) ?_
    exact e
theorem ct_widen (tf : mm_T B f = 104) (hfn : f < mm_nx B) (h1 : P f 1 = some a) (ta : mm_T B a = 201) (han : a < mm_nx B) (na : mm_N B a = s) (hs : s ≤ 64) (hb : ∀ k, k < s → b8 (I a k) = I a k) : Ct g mX4_widen [.ref f] B I J P (none, mm_al B 202 s s, va_up I (mm_nx B) (sgp (fun _ => 0) 0 s (I a)), va_up J (mm_nx B) (fun _ => 0), va_up (va_up P (mm_nx B) (fun _ => none)) f (va_up (va_up (P f) 2 (some (mm_nx B))) 1 none)) := by
  have tf' : mm_T (mm_al B 202 s s) f = 104 := (al_T (by omega)).trans tf
  have ta' : mm_T (mm_al B 202 s s) a = 201 := (al_T (by omega)).trans ta
  have na' : mm_N (mm_al B 202 s s) a = s := (al_N (by omega)).trans na
  have tb : mm_T (mm_al B 202 s s) (mm_nx B) = 202 := al_Ts
  have e0 : va_up P (mm_nx B) (fun _ => none) f = P f := va_up_n _ _ (by omega)
  have e1 : va_up I (mm_nx B) (fun _ => 0) a = I a := va_up_n _ _ (by omega)
  have e := lx_widen (g := g) (B := mm_al B 202 s s) (I := va_up I (mm_nx B) (fun _ => 0)) (J := va_up J (mm_nx B) (fun _ => 0)) (P := va_up (va_up P (mm_nx B) (fun _ => none)) f (va_up (P f) 2 (some (mm_nx B)))) (b := mm_nx B) tf' (by omega) (by rw [va_up_s, va_up_n _ _ (by omega)]; exact h1) ta' na' (by rw [va_up_s, va_up_s]) tb al_Ns hs (by rw [e1]; exact hb) s 0 (by omega)
  rw [sgp_0, bx_uu, bx_uu, e1, va_up_s, bx_uu] at e
  refine ct_of (lv := [some (.ref f), none]) (by decide +kernel) (Nat.le_of_ble_eq_true rfl) rfl ?_
  refine ev_aload_n 1 dX4_widen_0 rfl rfl ?_
  refine ev_getP 4 mm_cl4 (j := 1) (Nat.le_of_ble_eq_true rfl) dX4_widen_1 lk863 (fun _ _ _ => rfl) tf (a := a) (h1) rfl ?_
  refine ev_ifnonnull_r 8 dX4_widen_4 (by decide) ?_
  refine ev_aload_n 9 dX4_widen_8 rfl rfl ?_
  refine ev_aload_n 10 dX4_widen_9 rfl rfl ?_
  refine ev_getP 13 mm_cl4 (j := 1) (Nat.le_of_ble_eq_true rfl) dX4_widen_10 lk863 (fun _ _ _ => rfl) tf (a := a) (h1) rfl ?_
  refine ev_alen 14 1 dX4_widen_13 ta rfl ?_
  rw [na]
  refine ev_newa 16 (s) 2 dX4_widen_14 rfl (by decide) lk982 rfl (by omega) rfl ?_
  show Ev g _ 16 _ _ (mm_al B 202 s s) _ _ _ _
  refine ev_putP 19 mm_cl4 (j := 2) (Nat.le_of_ble_eq_true rfl) dX4_widen_16 lk865 rfl (fun _ _ _ => rfl) rfl rfl tf' rfl ?_
  rw [e0]
  refine ev_iconstN 20 0 dX4_widen_19 rfl ?_
  refine ev_istore_n 21 (lv' := [some (.ref _), _]) dX4_widen_20 (Nat.le_of_ble_eq_true rfl) rfl rfl ?_
  exact e
/-! the class's calls -/
theorem cl_lose_f {c i : Int32} (hV : lyV B P x) (hf : Ct g mX11_frameAt [.ref x, .int c, .int i] B (vz I x) J P (some .null, B, vz I x, J, P)) : Ct g mX11_lose [.ref x, .int c, .int i] B I J P (some (.int (-1)), B, vst I x (-1), J, P) := by
  refine ct_of (lv := [some (.ref x), some (.int (c)), some (.int (i)), none]) (by decide +kernel) (Nat.le_of_ble_eq_true rfl) rfl ?_
  refine ev_aload_n 1 dX11_lose_0 rfl rfl ?_
  refine ev_iconstN 2 0 dX11_lose_1 rfl ?_
  refine ev_putI 5 mm_cl11 (j := 9) (Nat.le_of_ble_eq_true rfl) dX11_lose_2 lk270 rfl (fun _ _ _ => rfl) rfl rfl (hV.1 0 _ rfl) rfl ?_
  refine ev_aload_n 6 dX11_lose_5 rfl rfl ?_
  refine ev_iload_n 7 dX11_lose_6 rfl rfl ?_
  refine ev_iload_n 8 dX11_lose_7 rfl rfl ?_
  refine ev_invV 11 (Mc := mX11_frameAt) ⟨lk923, lk75, hdX11_frameAt, (Nat.le_of_ble_eq_true rfl), (Nat.le_of_ble_eq_true rfl)⟩ lk920 lk922 lk23 mm_cl11 rfl dX11_lose_8 (hf) rfl (hV.1 0 _ rfl) (Nat.le_of_ble_eq_true rfl) rfl rfl ?_
  refine ev_astore_nN 12 (lv' := [_, _, some (.int _), _]) dX11_lose_11 (Nat.le_of_ble_eq_true rfl) rfl rfl ?_
  refine ev_aload_nN 13 dX11_lose_12 rfl rfl ?_
  refine ev_ifnonnull_n 16 dX11_lose_13 rfl ?_
  refine ev_aload_n 17 dX11_lose_16 rfl rfl ?_
  refine ev_iconst 18 (v := -1) dX11_lose_17 (by decide +kernel) rfl ?_
  refine ev_invV 21 (Mc := mX11_refuse) ⟨lk303, lk75, hdX11_refuse, (Nat.le_of_ble_eq_true rfl), (Nat.le_of_ble_eq_true rfl)⟩ lk300 lk302 lk0 mm_cl11 rfl dX11_lose_18 (ct_refuse hV) rfl (hV.1 0 _ rfl) (Nat.le_of_ble_eq_true rfl) rfl rfl ?_
  exact ev_iret dX11_lose_21 rfl (rfl)
theorem cl_lose_t {c i : Int32} (hV : lyV B P x) (tf : mm_T B f = 104) (hf : Ct g mX11_frameAt [.ref x, .int c, .int i] B (vz I x) J P (some (.ref f), B, vz I x, J, P)) : Ct g mX11_lose [.ref x, .int c, .int i] B I J P (some (.int (nI 1)), B, vz I x, J, va_up P f (va_up (va_up (P f) 1 none) 2 none)) := by
  refine ct_of (lv := [some (.ref x), some (.int (c)), some (.int (i)), none]) (by decide +kernel) (Nat.le_of_ble_eq_true rfl) rfl ?_
  refine ev_aload_n 1 dX11_lose_0 rfl rfl ?_
  refine ev_iconstN 2 0 dX11_lose_1 rfl ?_
  refine ev_putI 5 mm_cl11 (j := 9) (Nat.le_of_ble_eq_true rfl) dX11_lose_2 lk270 rfl (fun _ _ _ => rfl) rfl rfl (hV.1 0 _ rfl) rfl ?_
  refine ev_aload_n 6 dX11_lose_5 rfl rfl ?_
  refine ev_iload_n 7 dX11_lose_6 rfl rfl ?_
  refine ev_iload_n 8 dX11_lose_7 rfl rfl ?_
  refine ev_invV 11 (Mc := mX11_frameAt) ⟨lk923, lk75, hdX11_frameAt, (Nat.le_of_ble_eq_true rfl), (Nat.le_of_ble_eq_true rfl)⟩ lk920 lk922 lk23 mm_cl11 rfl dX11_lose_8 (hf) rfl (hV.1 0 _ rfl) (Nat.le_of_ble_eq_true rfl) rfl rfl ?_
  refine ev_astore_n 12 (lv' := [_, _, some (.int _), _]) dX11_lose_11 (Nat.le_of_ble_eq_true rfl) rfl rfl ?_
  refine ev_aload_n 13 dX11_lose_12 rfl rfl ?_
  refine ev_ifnonnull_r 22 dX11_lose_13 (by decide) ?_
  refine ev_aload_n 23 dX11_lose_22 rfl rfl ?_
  refine ev_null 24 dX11_lose_23 rfl ?_
  refine ev_putN 27 mm_cl4 (j := 1) (Nat.le_of_ble_eq_true rfl) dX11_lose_24 lk864 rfl (fun _ _ _ => rfl) rfl rfl tf rfl ?_
  refine ev_aload_n 28 dX11_lose_27 rfl rfl ?_
  refine ev_null 29 dX11_lose_28 rfl ?_
  refine ev_putN 32 mm_cl4 (j := 2) (Nat.le_of_ble_eq_true rfl) dX11_lose_29 lk866 rfl (fun _ _ _ => rfl) rfl rfl tf rfl ?_
  rw [va_up_s, bx_uu]
  refine ev_iconstN 33 1 dX11_lose_32 rfl ?_
  exact ev_iret dX11_lose_33 rfl (rfl)
theorem cl_cut_f {c i j : Int32} (hV : lyV B P x) (hf : Ct g mX11_frameAt [.ref x, .int c, .int i] B (vz I x) J P (some .null, B, vz I x, J, P)) : Ct g mX11_cut [.ref x, .int c, .int i, .int j] B I J P (some (.int (-1)), B, vst I x (-1), J, P) := by
  refine ct_of (lv := [some (.ref x), some (.int (c)), some (.int (i)), some (.int (j)), none, none]) (by decide +kernel) (Nat.le_of_ble_eq_true rfl) rfl ?_
  refine ev_aload_n 1 dX11_cut_0 rfl rfl ?_
  refine ev_iconstN 2 0 dX11_cut_1 rfl ?_
  refine ev_putI 5 mm_cl11 (j := 9) (Nat.le_of_ble_eq_true rfl) dX11_cut_2 lk270 rfl (fun _ _ _ => rfl) rfl rfl (hV.1 0 _ rfl) rfl ?_
  refine ev_aload_n 6 dX11_cut_5 rfl rfl ?_
  refine ev_iload_n 7 dX11_cut_6 rfl rfl ?_
  refine ev_iload_n 8 dX11_cut_7 rfl rfl ?_
  refine ev_invV 11 (Mc := mX11_frameAt) ⟨lk923, lk75, hdX11_frameAt, (Nat.le_of_ble_eq_true rfl), (Nat.le_of_ble_eq_true rfl)⟩ lk920 lk922 lk23 mm_cl11 rfl dX11_cut_8 (hf) rfl (hV.1 0 _ rfl) (Nat.le_of_ble_eq_true rfl) rfl rfl ?_
  refine ev_astoreN 13 (lv' := [_, _, _, some (.int _), _, _]) dX11_cut_11 (Nat.le_of_ble_eq_true rfl) rfl rfl ?_
  refine ev_aloadN 15 dX11_cut_13 rfl rfl ?_
  refine ev_ifnonnull_n 18 dX11_cut_15 rfl ?_
  refine ev_aload_n 19 dX11_cut_18 rfl rfl ?_
  refine ev_iconst 20 (v := -1) dX11_cut_19 (by decide +kernel) rfl ?_
  refine ev_invV 23 (Mc := mX11_refuse) ⟨lk303, lk75, hdX11_refuse, (Nat.le_of_ble_eq_true rfl), (Nat.le_of_ble_eq_true rfl)⟩ lk300 lk302 lk0 mm_cl11 rfl dX11_cut_20 (ct_refuse hV) rfl (hV.1 0 _ rfl) (Nat.le_of_ble_eq_true rfl) rfl rfl ?_
  exact ev_iret dX11_cut_23 rfl (rfl)
theorem cl_cut_0 {c i j : Int32} (hV : lyV B P x) (tf : mm_T B f = 104) (h1 : P f 1 = none) (h2 : P f 2 = none) (hf : Ct g mX11_frameAt [.ref x, .int c, .int i] B (vz I x) J P (some (.ref f), B, vz I x, J, P)) : Ct g mX11_cut [.ref x, .int c, .int i, .int j] B I J P (some (.int (-2)), B, vst I x (-2), J, P) := by
  refine ct_of (lv := [some (.ref x), some (.int (c)), some (.int (i)), some (.int (j)), none, none]) (by decide +kernel) (Nat.le_of_ble_eq_true rfl) rfl ?_
  refine ev_aload_n 1 dX11_cut_0 rfl rfl ?_
  refine ev_iconstN 2 0 dX11_cut_1 rfl ?_
  refine ev_putI 5 mm_cl11 (j := 9) (Nat.le_of_ble_eq_true rfl) dX11_cut_2 lk270 rfl (fun _ _ _ => rfl) rfl rfl (hV.1 0 _ rfl) rfl ?_
  refine ev_aload_n 6 dX11_cut_5 rfl rfl ?_
  refine ev_iload_n 7 dX11_cut_6 rfl rfl ?_
  refine ev_iload_n 8 dX11_cut_7 rfl rfl ?_
  refine ev_invV 11 (Mc := mX11_frameAt) ⟨lk923, lk75, hdX11_frameAt, (Nat.le_of_ble_eq_true rfl), (Nat.le_of_ble_eq_true rfl)⟩ lk920 lk922 lk23 mm_cl11 rfl dX11_cut_8 (hf) rfl (hV.1 0 _ rfl) (Nat.le_of_ble_eq_true rfl) rfl rfl ?_
  refine ev_astore 13 (lv' := [_, _, _, some (.int _), _, _]) dX11_cut_11 (Nat.le_of_ble_eq_true rfl) rfl rfl ?_
  refine ev_aload 15 dX11_cut_13 rfl rfl ?_
  refine ev_ifnonnull_r 24 dX11_cut_15 (by decide) ?_
  refine ev_aload 26 dX11_cut_24 rfl rfl ?_
  refine ev_invV 29 (Mc := mX4_hasRow) ⟨lk927, lk89, hdX4_hasRow, (Nat.le_of_ble_eq_true rfl), (Nat.le_of_ble_eq_true rfl)⟩ lk924 lk925 lk926 mm_cl4 rfl dX11_cut_26 (ct_hasRow_0 tf h1 h2) rfl tf (Nat.le_of_ble_eq_true rfl) rfl rfl ?_
  refine ev_if_neN 32 39 dX11_cut_29 (by decide) (by omega) rfl (fun hx => absurd ((by omega)) hx) (fun hbr => ?_)
  refine ev_aload_n 33 dX11_cut_32 rfl rfl ?_
  refine ev_bipush 35 (v := -2) dX11_cut_33 (by decide +kernel) rfl ?_
  refine ev_invV 38 (Mc := mX11_refuse) ⟨lk303, lk75, hdX11_refuse, (Nat.le_of_ble_eq_true rfl), (Nat.le_of_ble_eq_true rfl)⟩ lk300 lk302 lk0 mm_cl11 rfl dX11_cut_35 (ct_refuse hV) rfl (hV.1 0 _ rfl) (Nat.le_of_ble_eq_true rfl) rfl rfl ?_
  exact ev_iret dX11_cut_38 rfl (rfl)
theorem cl_cut_b {c i j : Int32} (hV : lyV B P x) (tf : mm_T B f = 104) (hh : ∀ I : mm_TI, Ct g mX4_hasRow [.ref f] B I J P (some (.int (nI 1)), B, I, J, P)) (h : FV B P f s) (hj : ¬ (nI 0 ≤ j ∧ j ≤ nI s)) (hf : Ct g mX11_frameAt [.ref x, .int c, .int i] B (vz I x) J P (some (.ref f), B, vz I x, J, P)) : Ct g mX11_cut [.ref x, .int c, .int i, .int j] B I J P (some (.int (-1)), B, vst I x (-1), J, P) := by
  refine ct_of (lv := [some (.ref x), some (.int (c)), some (.int (i)), some (.int (j)), none, none]) (by decide +kernel) (Nat.le_of_ble_eq_true rfl) rfl ?_
  refine ev_aload_n 1 dX11_cut_0 rfl rfl ?_
  refine ev_iconstN 2 0 dX11_cut_1 rfl ?_
  refine ev_putI 5 mm_cl11 (j := 9) (Nat.le_of_ble_eq_true rfl) dX11_cut_2 lk270 rfl (fun _ _ _ => rfl) rfl rfl (hV.1 0 _ rfl) rfl ?_
  refine ev_aload_n 6 dX11_cut_5 rfl rfl ?_
  refine ev_iload_n 7 dX11_cut_6 rfl rfl ?_
  refine ev_iload_n 8 dX11_cut_7 rfl rfl ?_
  refine ev_invV 11 (Mc := mX11_frameAt) ⟨lk923, lk75, hdX11_frameAt, (Nat.le_of_ble_eq_true rfl), (Nat.le_of_ble_eq_true rfl)⟩ lk920 lk922 lk23 mm_cl11 rfl dX11_cut_8 (hf) rfl (hV.1 0 _ rfl) (Nat.le_of_ble_eq_true rfl) rfl rfl ?_
  refine ev_astore 13 (lv' := [_, _, _, some (.int _), _, _]) dX11_cut_11 (Nat.le_of_ble_eq_true rfl) rfl rfl ?_
  refine ev_aload 15 dX11_cut_13 rfl rfl ?_
  refine ev_ifnonnull_r 24 dX11_cut_15 (by decide) ?_
  refine ev_aload 26 dX11_cut_24 rfl rfl ?_
  refine ev_invV 29 (Mc := mX4_hasRow) ⟨lk927, lk89, hdX4_hasRow, (Nat.le_of_ble_eq_true rfl), (Nat.le_of_ble_eq_true rfl)⟩ lk924 lk925 lk926 mm_cl4 rfl dX11_cut_26 (hh _) rfl tf (Nat.le_of_ble_eq_true rfl) rfl rfl ?_
  refine ev_if_neN 32 39 dX11_cut_29 (by decide) (by omega) rfl (fun hbr => ?_) (fun hx => absurd hx ((by omega)))
  refine ev_aload 41 dX11_cut_39 rfl rfl ?_
  refine ev_invV 44 (Mc := mX4_size) ⟨lk931, lk89, hdX4_size, (Nat.le_of_ble_eq_true rfl), (Nat.le_of_ble_eq_true rfl)⟩ lk928 lk929 lk930 mm_cl4 rfl dX11_cut_41 (ct_size tf h) rfl tf (Nat.le_of_ble_eq_true rfl) rfl rfl ?_
  refine ev_istore 46 (lv' := [_, _, _, _, some (.ref _), _]) dX11_cut_44 (Nat.le_of_ble_eq_true rfl) rfl rfl ?_
  refine ev_iload_n 47 dX11_cut_46 rfl rfl ?_
  refine ev_if_lt 50 56 dX11_cut_47 (by decide) rfl (fun h1 => ?_) (fun h1 => ?_)
  · refine ev_aload_n 57 dX11_cut_56 rfl rfl ?_
    refine ev_iconst 58 (v := -1) dX11_cut_57 (by decide +kernel) rfl ?_
    refine ev_invV 61 (Mc := mX11_refuse) ⟨lk303, lk75, hdX11_refuse, (Nat.le_of_ble_eq_true rfl), (Nat.le_of_ble_eq_true rfl)⟩ lk300 lk302 lk0 mm_cl11 rfl dX11_cut_58 (ct_refuse hV) rfl (hV.1 0 _ rfl) (Nat.le_of_ble_eq_true rfl) rfl rfl ?_
    exact ev_iret dX11_cut_61 rfl (rfl)
  · refine ev_iload_n 51 dX11_cut_50 rfl rfl ?_
    refine ev_iload 53 dX11_cut_51 rfl rfl ?_
    refine ev_icmp_le 56 62 dX11_cut_53 (by decide) rfl (fun hx => absurd hx ((fun h2 => hj ⟨Int32.not_lt.mp h1, h2⟩))) (fun hbr => ?_)
    refine ev_aload_n 57 dX11_cut_56 rfl rfl ?_
    refine ev_iconst 58 (v := -1) dX11_cut_57 (by decide +kernel) rfl ?_
    refine ev_invV 61 (Mc := mX11_refuse) ⟨lk303, lk75, hdX11_refuse, (Nat.le_of_ble_eq_true rfl), (Nat.le_of_ble_eq_true rfl)⟩ lk300 lk302 lk0 mm_cl11 rfl dX11_cut_58 (ct_refuse hV) rfl (hV.1 0 _ rfl) (Nat.le_of_ble_eq_true rfl) rfl rfl ?_
    exact ev_iret dX11_cut_61 rfl (rfl)
theorem cx_cut1 {c i : Int32} {w : Nat} (hV : lyV B P x) (tf : mm_T B f = 104) (hfn : f < mm_nx B) (hxa : a ≠ x) (h1 : P f 1 = some a) (ta : mm_T B a = 201) (han : a < mm_nx B) (na : mm_N B a = s) (hs : s ≤ 64) (hw : w ≤ s) (hb : ∀ k, k < s → b8 (I a k) = I a k) (hf : Ct g mX11_frameAt [.ref x, .int c, .int i] B (vz I x) J P (some (.ref f), B, vz I x, J, P)) :
    ∃ F : Nat → Int32, (∀ k, k < w → F k = I a k) ∧ Ct g mX11_cut [.ref x, .int c, .int i, .int (nI w)] B I J P (some (.int (nI s)), mm_al B 201 w w, va_up (vz I x) (mm_nx B) F, va_up J (mm_nx B) (fun _ => 0), va_up (va_up P (mm_nx B) (fun _ => none)) f (va_up (P f) 1 (some (mm_nx B)))) := by
  have ea : vz I x a = I a := va_up_n _ _ hxa
  obtain ⟨F, hF, hc⟩ := cx_shorten1 (g := g) (I := vz I x) (J := J) (P := P) tf hfn h1 ta han na hs hw (by rw [ea]; exact hb)
  rw [ea] at hF
  refine ⟨F, hF, ?_⟩
  refine ct_of (lv := [some (.ref x), some (.int (c)), some (.int (i)), some (.int (nI (w))), none, none]) (by decide +kernel) (Nat.le_of_ble_eq_true rfl) rfl ?_
  refine ev_aload_n 1 dX11_cut_0 rfl rfl ?_
  refine ev_iconstN 2 0 dX11_cut_1 rfl ?_
  refine ev_putI 5 mm_cl11 (j := 9) (Nat.le_of_ble_eq_true rfl) dX11_cut_2 lk270 rfl (fun _ _ _ => rfl) rfl rfl (hV.1 0 _ rfl) rfl ?_
  refine ev_aload_n 6 dX11_cut_5 rfl rfl ?_
  refine ev_iload_n 7 dX11_cut_6 rfl rfl ?_
  refine ev_iload_n 8 dX11_cut_7 rfl rfl ?_
  refine ev_invV 11 (Mc := mX11_frameAt) ⟨lk923, lk75, hdX11_frameAt, (Nat.le_of_ble_eq_true rfl), (Nat.le_of_ble_eq_true rfl)⟩ lk920 lk922 lk23 mm_cl11 rfl dX11_cut_8 (hf) rfl (hV.1 0 _ rfl) (Nat.le_of_ble_eq_true rfl) rfl rfl ?_
  refine ev_astore 13 (lv' := [_, _, _, some (.int _), _, _]) dX11_cut_11 (Nat.le_of_ble_eq_true rfl) rfl rfl ?_
  refine ev_aload 15 dX11_cut_13 rfl rfl ?_
  refine ev_ifnonnull_r 24 dX11_cut_15 (by decide) ?_
  refine ev_aload 26 dX11_cut_24 rfl rfl ?_
  refine ev_invV 29 (Mc := mX4_hasRow) ⟨lk927, lk89, hdX4_hasRow, (Nat.le_of_ble_eq_true rfl), (Nat.le_of_ble_eq_true rfl)⟩ lk924 lk925 lk926 mm_cl4 rfl dX11_cut_26 (ct_hasRow_1 tf h1 ta) rfl tf (Nat.le_of_ble_eq_true rfl) rfl rfl ?_
  refine ev_if_neN 32 39 dX11_cut_29 (by decide) (by omega) rfl (fun hbr => ?_) (fun hx => absurd hx ((by omega)))
  refine ev_aload 41 dX11_cut_39 rfl rfl ?_
  refine ev_invV 44 (Mc := mX4_size) ⟨lk931, lk89, hdX4_size, (Nat.le_of_ble_eq_true rfl), (Nat.le_of_ble_eq_true rfl)⟩ lk928 lk929 lk930 mm_cl4 rfl dX11_cut_41 (ct_size tf (Or.inr (Or.inl ⟨a, h1, ta, na⟩))) rfl tf (Nat.le_of_ble_eq_true rfl) rfl rfl ?_
  refine ev_istore 46 (lv' := [_, _, _, _, some (.ref _), _]) dX11_cut_44 (Nat.le_of_ble_eq_true rfl) rfl rfl ?_
  refine ev_iload_n 47 dX11_cut_46 rfl rfl ?_
  refine ev_if_ltN 50 56 dX11_cut_47 (by decide) (by omega) rfl (fun hx => absurd hx (not_false)) (fun hbr => ?_)
  refine ev_iload_n 51 dX11_cut_50 rfl rfl ?_
  refine ev_iload 53 dX11_cut_51 rfl rfl ?_
  refine ev_icmp_leN 56 62 dX11_cut_53 (by decide) (by omega) (by omega) rfl (fun hbr => ?_) (fun hx => absurd ((by omega)) hx)
  refine ev_aload 64 dX11_cut_62 rfl rfl ?_
  refine ev_iload_n 65 dX11_cut_64 rfl rfl ?_
  refine ev_invVv 68 (Mc := mX4_shorten) ⟨lk961, lk89, hdX4_shorten, (Nat.le_of_ble_eq_true rfl), (Nat.le_of_ble_eq_true rfl)⟩ lk958 lk959 lk960 mm_cl4 rfl dX11_cut_65 (hc) rfl tf (Nat.le_of_ble_eq_true rfl) rfl rfl ?_
  refine ev_iload 70 dX11_cut_68 rfl rfl ?_
  exact ev_iret dX11_cut_70 rfl (rfl)
theorem cx_cut2 {c i : Int32} {w : Nat} (hV : lyV B P x) (tf : mm_T B f = 104) (hfn : f < mm_nx B) (hxa : a ≠ x) (h1 : P f 1 = none) (h2 : P f 2 = some a) (ta : mm_T B a = 202) (han : a < mm_nx B) (na : mm_N B a = s) (hs : s ≤ 64) (hw : w ≤ s) (hb : ∀ k, k < s → -256 ≤ (I a k).toInt ∧ (I a k).toInt ≤ 255) (hf : Ct g mX11_frameAt [.ref x, .int c, .int i] B (vz I x) J P (some (.ref f), B, vz I x, J, P)) :
    ∃ F : Nat → Int32, (∀ k, k < w → F k = I a k) ∧ Ct g mX11_cut [.ref x, .int c, .int i, .int (nI w)] B I J P (some (.int (nI s)), mm_al B 202 w w, va_up (vz I x) (mm_nx B) F, va_up J (mm_nx B) (fun _ => 0), va_up (va_up P (mm_nx B) (fun _ => none)) f (va_up (P f) 2 (some (mm_nx B)))) := by
  have ea : vz I x a = I a := va_up_n _ _ hxa
  obtain ⟨F, hF, hc⟩ := cx_shorten2 (g := g) (I := vz I x) (J := J) (P := P) tf hfn h1 h2 ta han na hs hw (by rw [ea]; exact hb)
  rw [ea] at hF
  refine ⟨F, hF, ?_⟩
  refine ct_of (lv := [some (.ref x), some (.int (c)), some (.int (i)), some (.int (nI (w))), none, none]) (by decide +kernel) (Nat.le_of_ble_eq_true rfl) rfl ?_
  refine ev_aload_n 1 dX11_cut_0 rfl rfl ?_
  refine ev_iconstN 2 0 dX11_cut_1 rfl ?_
  refine ev_putI 5 mm_cl11 (j := 9) (Nat.le_of_ble_eq_true rfl) dX11_cut_2 lk270 rfl (fun _ _ _ => rfl) rfl rfl (hV.1 0 _ rfl) rfl ?_
  refine ev_aload_n 6 dX11_cut_5 rfl rfl ?_
  refine ev_iload_n 7 dX11_cut_6 rfl rfl ?_
  refine ev_iload_n 8 dX11_cut_7 rfl rfl ?_
  refine ev_invV 11 (Mc := mX11_frameAt) ⟨lk923, lk75, hdX11_frameAt, (Nat.le_of_ble_eq_true rfl), (Nat.le_of_ble_eq_true rfl)⟩ lk920 lk922 lk23 mm_cl11 rfl dX11_cut_8 (hf) rfl (hV.1 0 _ rfl) (Nat.le_of_ble_eq_true rfl) rfl rfl ?_
  refine ev_astore 13 (lv' := [_, _, _, some (.int _), _, _]) dX11_cut_11 (Nat.le_of_ble_eq_true rfl) rfl rfl ?_
  refine ev_aload 15 dX11_cut_13 rfl rfl ?_
  refine ev_ifnonnull_r 24 dX11_cut_15 (by decide) ?_
  refine ev_aload 26 dX11_cut_24 rfl rfl ?_
  refine ev_invV 29 (Mc := mX4_hasRow) ⟨lk927, lk89, hdX4_hasRow, (Nat.le_of_ble_eq_true rfl), (Nat.le_of_ble_eq_true rfl)⟩ lk924 lk925 lk926 mm_cl4 rfl dX11_cut_26 (ct_hasRow_2 tf h1 h2 ta) rfl tf (Nat.le_of_ble_eq_true rfl) rfl rfl ?_
  refine ev_if_neN 32 39 dX11_cut_29 (by decide) (by omega) rfl (fun hbr => ?_) (fun hx => absurd hx ((by omega)))
  refine ev_aload 41 dX11_cut_39 rfl rfl ?_
  refine ev_invV 44 (Mc := mX4_size) ⟨lk931, lk89, hdX4_size, (Nat.le_of_ble_eq_true rfl), (Nat.le_of_ble_eq_true rfl)⟩ lk928 lk929 lk930 mm_cl4 rfl dX11_cut_41 (ct_size tf (Or.inr (Or.inr ⟨a, h1, h2, ta, na⟩))) rfl tf (Nat.le_of_ble_eq_true rfl) rfl rfl ?_
  refine ev_istore 46 (lv' := [_, _, _, _, some (.ref _), _]) dX11_cut_44 (Nat.le_of_ble_eq_true rfl) rfl rfl ?_
  refine ev_iload_n 47 dX11_cut_46 rfl rfl ?_
  refine ev_if_ltN 50 56 dX11_cut_47 (by decide) (by omega) rfl (fun hx => absurd hx (not_false)) (fun hbr => ?_)
  refine ev_iload_n 51 dX11_cut_50 rfl rfl ?_
  refine ev_iload 53 dX11_cut_51 rfl rfl ?_
  refine ev_icmp_leN 56 62 dX11_cut_53 (by decide) (by omega) (by omega) rfl (fun hbr => ?_) (fun hx => absurd ((by omega)) hx)
  refine ev_aload 64 dX11_cut_62 rfl rfl ?_
  refine ev_iload_n 65 dX11_cut_64 rfl rfl ?_
  refine ev_invVv 68 (Mc := mX4_shorten) ⟨lk961, lk89, hdX4_shorten, (Nat.le_of_ble_eq_true rfl), (Nat.le_of_ble_eq_true rfl)⟩ lk958 lk959 lk960 mm_cl4 rfl dX11_cut_65 (hc) rfl tf (Nat.le_of_ble_eq_true rfl) rfl rfl ?_
  refine ev_iload 70 dX11_cut_68 rfl rfl ?_
  exact ev_iret dX11_cut_70 rfl (rfl)
theorem cl_damage_f {c i j w : Int32} (hV : lyV B P x) (hf : Ct g mX11_frameAt [.ref x, .int c, .int i] B (vz I x) J P (some .null, B, vz I x, J, P)) : Ct g mX11_damage [.ref x, .int c, .int i, .int j, .int w] B I J P (some (.int (-1)), B, vst I x (-1), J, P) := by
  refine ct_of (lv := [some (.ref x), some (.int (c)), some (.int (i)), some (.int (j)), some (.int (w)), none]) (by decide +kernel) (Nat.le_of_ble_eq_true rfl) rfl ?_
  refine ev_aload_n 1 dX11_damage_0 rfl rfl ?_
  refine ev_iconstN 2 0 dX11_damage_1 rfl ?_
  refine ev_putI 5 mm_cl11 (j := 9) (Nat.le_of_ble_eq_true rfl) dX11_damage_2 lk270 rfl (fun _ _ _ => rfl) rfl rfl (hV.1 0 _ rfl) rfl ?_
  refine ev_aload_n 6 dX11_damage_5 rfl rfl ?_
  refine ev_iload_n 7 dX11_damage_6 rfl rfl ?_
  refine ev_iload_n 8 dX11_damage_7 rfl rfl ?_
  refine ev_invV 11 (Mc := mX11_frameAt) ⟨lk923, lk75, hdX11_frameAt, (Nat.le_of_ble_eq_true rfl), (Nat.le_of_ble_eq_true rfl)⟩ lk920 lk922 lk23 mm_cl11 rfl dX11_damage_8 (hf) rfl (hV.1 0 _ rfl) (Nat.le_of_ble_eq_true rfl) rfl rfl ?_
  refine ev_astoreN 13 (lv' := [_, _, _, _, some (.int _), _]) dX11_damage_11 (Nat.le_of_ble_eq_true rfl) rfl rfl ?_
  refine ev_aloadN 15 dX11_damage_13 rfl rfl ?_
  refine ev_ifnull_n 32 dX11_damage_15 (by decide) ?_
  refine ev_aload_n 33 dX11_damage_32 rfl rfl ?_
  refine ev_iconst 34 (v := -1) dX11_damage_33 (by decide +kernel) rfl ?_
  refine ev_invV 37 (Mc := mX11_refuse) ⟨lk303, lk75, hdX11_refuse, (Nat.le_of_ble_eq_true rfl), (Nat.le_of_ble_eq_true rfl)⟩ lk300 lk302 lk0 mm_cl11 rfl dX11_damage_34 (ct_refuse hV) rfl (hV.1 0 _ rfl) (Nat.le_of_ble_eq_true rfl) rfl rfl ?_
  exact ev_iret dX11_damage_37 rfl (rfl)
theorem cl_damage_b {c i j w : Int32} (hV : lyV B P x) (tf : mm_T B f = 104) (hw : ¬ (nI 1 ≤ w ∧ w ≤ nI 255)) (hf : Ct g mX11_frameAt [.ref x, .int c, .int i] B (vz I x) J P (some (.ref f), B, vz I x, J, P)) : Ct g mX11_damage [.ref x, .int c, .int i, .int j, .int w] B I J P (some (.int (-1)), B, vst I x (-1), J, P) := by
  refine ct_of (lv := [some (.ref x), some (.int (c)), some (.int (i)), some (.int (j)), some (.int (w)), none]) (by decide +kernel) (Nat.le_of_ble_eq_true rfl) rfl ?_
  refine ev_aload_n 1 dX11_damage_0 rfl rfl ?_
  refine ev_iconstN 2 0 dX11_damage_1 rfl ?_
  refine ev_putI 5 mm_cl11 (j := 9) (Nat.le_of_ble_eq_true rfl) dX11_damage_2 lk270 rfl (fun _ _ _ => rfl) rfl rfl (hV.1 0 _ rfl) rfl ?_
  refine ev_aload_n 6 dX11_damage_5 rfl rfl ?_
  refine ev_iload_n 7 dX11_damage_6 rfl rfl ?_
  refine ev_iload_n 8 dX11_damage_7 rfl rfl ?_
  refine ev_invV 11 (Mc := mX11_frameAt) ⟨lk923, lk75, hdX11_frameAt, (Nat.le_of_ble_eq_true rfl), (Nat.le_of_ble_eq_true rfl)⟩ lk920 lk922 lk23 mm_cl11 rfl dX11_damage_8 (hf) rfl (hV.1 0 _ rfl) (Nat.le_of_ble_eq_true rfl) rfl rfl ?_
  refine ev_astore 13 (lv' := [_, _, _, _, some (.int _), _]) dX11_damage_11 (Nat.le_of_ble_eq_true rfl) rfl rfl ?_
  refine ev_aload 15 dX11_damage_13 rfl rfl ?_
  refine ev_ifnull_r 18 dX11_damage_15 rfl ?_
  refine ev_iload 20 dX11_damage_18 rfl rfl ?_
  refine ev_iconstN 21 1 dX11_damage_20 rfl ?_
  refine ev_icmp_lt 24 32 dX11_damage_21 (by decide) rfl (fun h1 => ?_) (fun h1 => ?_)
  · refine ev_aload_n 33 dX11_damage_32 rfl rfl ?_
    refine ev_iconst 34 (v := -1) dX11_damage_33 (by decide +kernel) rfl ?_
    refine ev_invV 37 (Mc := mX11_refuse) ⟨lk303, lk75, hdX11_refuse, (Nat.le_of_ble_eq_true rfl), (Nat.le_of_ble_eq_true rfl)⟩ lk300 lk302 lk0 mm_cl11 rfl dX11_damage_34 (ct_refuse hV) rfl (hV.1 0 _ rfl) (Nat.le_of_ble_eq_true rfl) rfl rfl ?_
    exact ev_iret dX11_damage_37 rfl (rfl)
  · refine ev_iload 26 dX11_damage_24 rfl rfl ?_
    refine ev_sipushN 29 255 dX11_damage_26 (by decide +kernel) rfl ?_
    refine ev_icmp_le 32 38 dX11_damage_29 (by decide) rfl (fun hx => absurd hx ((fun h2 => hw ⟨Int32.not_lt.mp h1, h2⟩))) (fun hbr => ?_)
    refine ev_aload_n 33 dX11_damage_32 rfl rfl ?_
    refine ev_iconst 34 (v := -1) dX11_damage_33 (by decide +kernel) rfl ?_
    refine ev_invV 37 (Mc := mX11_refuse) ⟨lk303, lk75, hdX11_refuse, (Nat.le_of_ble_eq_true rfl), (Nat.le_of_ble_eq_true rfl)⟩ lk300 lk302 lk0 mm_cl11 rfl dX11_damage_34 (ct_refuse hV) rfl (hV.1 0 _ rfl) (Nat.le_of_ble_eq_true rfl) rfl rfl ?_
    exact ev_iret dX11_damage_37 rfl (rfl)
theorem cl_damage_0 {c i j : Int32} {w : Nat} (hV : lyV B P x) (tf : mm_T B f = 104) (h1 : P f 1 = none) (h2 : P f 2 = none) (w1 : 1 ≤ w) (w2 : w ≤ 255) (hf : Ct g mX11_frameAt [.ref x, .int c, .int i] B (vz I x) J P (some (.ref f), B, vz I x, J, P)) : Ct g mX11_damage [.ref x, .int c, .int i, .int j, .int (nI w)] B I J P (some (.int (-2)), B, vst I x (-2), J, P) := by
  refine ct_of (lv := [some (.ref x), some (.int (c)), some (.int (i)), some (.int (j)), some (.int (nI (w))), none]) (by decide +kernel) (Nat.le_of_ble_eq_true rfl) rfl ?_
  refine ev_aload_n 1 dX11_damage_0 rfl rfl ?_
  refine ev_iconstN 2 0 dX11_damage_1 rfl ?_
  refine ev_putI 5 mm_cl11 (j := 9) (Nat.le_of_ble_eq_true rfl) dX11_damage_2 lk270 rfl (fun _ _ _ => rfl) rfl rfl (hV.1 0 _ rfl) rfl ?_
  refine ev_aload_n 6 dX11_damage_5 rfl rfl ?_
  refine ev_iload_n 7 dX11_damage_6 rfl rfl ?_
  refine ev_iload_n 8 dX11_damage_7 rfl rfl ?_
  refine ev_invV 11 (Mc := mX11_frameAt) ⟨lk923, lk75, hdX11_frameAt, (Nat.le_of_ble_eq_true rfl), (Nat.le_of_ble_eq_true rfl)⟩ lk920 lk922 lk23 mm_cl11 rfl dX11_damage_8 (hf) rfl (hV.1 0 _ rfl) (Nat.le_of_ble_eq_true rfl) rfl rfl ?_
  refine ev_astore 13 (lv' := [_, _, _, _, some (.int _), _]) dX11_damage_11 (Nat.le_of_ble_eq_true rfl) rfl rfl ?_
  refine ev_aload 15 dX11_damage_13 rfl rfl ?_
  refine ev_ifnull_r 18 dX11_damage_15 rfl ?_
  refine ev_iload 20 dX11_damage_18 rfl rfl ?_
  refine ev_iconstN 21 1 dX11_damage_20 rfl ?_
  refine ev_icmp_ltN 24 32 dX11_damage_21 (by decide) (by omega) (by omega) rfl (fun hx => absurd hx ((by omega))) (fun hbr => ?_)
  refine ev_iload 26 dX11_damage_24 rfl rfl ?_
  refine ev_sipushN 29 255 dX11_damage_26 (by decide +kernel) rfl ?_
  refine ev_icmp_leN 32 38 dX11_damage_29 (by decide) (by omega) (by omega) rfl (fun hbr => ?_) (fun hx => absurd ((by omega)) hx)
  refine ev_aload 40 dX11_damage_38 rfl rfl ?_
  refine ev_invV 43 (Mc := mX4_hasRow) ⟨lk927, lk89, hdX4_hasRow, (Nat.le_of_ble_eq_true rfl), (Nat.le_of_ble_eq_true rfl)⟩ lk924 lk925 lk926 mm_cl4 rfl dX11_damage_40 (ct_hasRow_0 tf h1 h2) rfl tf (Nat.le_of_ble_eq_true rfl) rfl rfl ?_
  refine ev_if_neN 46 53 dX11_damage_43 (by decide) (by omega) rfl (fun hx => absurd ((by omega)) hx) (fun hbr => ?_)
  refine ev_aload_n 47 dX11_damage_46 rfl rfl ?_
  refine ev_bipush 49 (v := -2) dX11_damage_47 (by decide +kernel) rfl ?_
  refine ev_invV 52 (Mc := mX11_refuse) ⟨lk303, lk75, hdX11_refuse, (Nat.le_of_ble_eq_true rfl), (Nat.le_of_ble_eq_true rfl)⟩ lk300 lk302 lk0 mm_cl11 rfl dX11_damage_49 (ct_refuse hV) rfl (hV.1 0 _ rfl) (Nat.le_of_ble_eq_true rfl) rfl rfl ?_
  exact ev_iret dX11_damage_52 rfl (rfl)
theorem cl_damage_n {c i j : Int32} {w : Nat} (hV : lyV B P x) (tf : mm_T B f = 104) (hh : ∀ I : mm_TI, Ct g mX4_hasRow [.ref f] B I J P (some (.int (nI 1)), B, I, J, P)) (h : FV B P f s) (hj : ¬ (0 ≤ j ∧ j < nI s)) (w1 : 1 ≤ w) (w2 : w ≤ 255) (hf : Ct g mX11_frameAt [.ref x, .int c, .int i] B (vz I x) J P (some (.ref f), B, vz I x, J, P)) : Ct g mX11_damage [.ref x, .int c, .int i, .int j, .int (nI w)] B I J P (some (.int (-4)), B, vst I x (-4), J, P) := by
  refine ct_of (lv := [some (.ref x), some (.int (c)), some (.int (i)), some (.int (j)), some (.int (nI (w))), none]) (by decide +kernel) (Nat.le_of_ble_eq_true rfl) rfl ?_
  refine ev_aload_n 1 dX11_damage_0 rfl rfl ?_
  refine ev_iconstN 2 0 dX11_damage_1 rfl ?_
  refine ev_putI 5 mm_cl11 (j := 9) (Nat.le_of_ble_eq_true rfl) dX11_damage_2 lk270 rfl (fun _ _ _ => rfl) rfl rfl (hV.1 0 _ rfl) rfl ?_
  refine ev_aload_n 6 dX11_damage_5 rfl rfl ?_
  refine ev_iload_n 7 dX11_damage_6 rfl rfl ?_
  refine ev_iload_n 8 dX11_damage_7 rfl rfl ?_
  refine ev_invV 11 (Mc := mX11_frameAt) ⟨lk923, lk75, hdX11_frameAt, (Nat.le_of_ble_eq_true rfl), (Nat.le_of_ble_eq_true rfl)⟩ lk920 lk922 lk23 mm_cl11 rfl dX11_damage_8 (hf) rfl (hV.1 0 _ rfl) (Nat.le_of_ble_eq_true rfl) rfl rfl ?_
  refine ev_astore 13 (lv' := [_, _, _, _, some (.int _), _]) dX11_damage_11 (Nat.le_of_ble_eq_true rfl) rfl rfl ?_
  refine ev_aload 15 dX11_damage_13 rfl rfl ?_
  refine ev_ifnull_r 18 dX11_damage_15 rfl ?_
  refine ev_iload 20 dX11_damage_18 rfl rfl ?_
  refine ev_iconstN 21 1 dX11_damage_20 rfl ?_
  refine ev_icmp_ltN 24 32 dX11_damage_21 (by decide) (by omega) (by omega) rfl (fun hx => absurd hx ((by omega))) (fun hbr => ?_)
  refine ev_iload 26 dX11_damage_24 rfl rfl ?_
  refine ev_sipushN 29 255 dX11_damage_26 (by decide +kernel) rfl ?_
  refine ev_icmp_leN 32 38 dX11_damage_29 (by decide) (by omega) (by omega) rfl (fun hbr => ?_) (fun hx => absurd ((by omega)) hx)
  refine ev_aload 40 dX11_damage_38 rfl rfl ?_
  refine ev_invV 43 (Mc := mX4_hasRow) ⟨lk927, lk89, hdX4_hasRow, (Nat.le_of_ble_eq_true rfl), (Nat.le_of_ble_eq_true rfl)⟩ lk924 lk925 lk926 mm_cl4 rfl dX11_damage_40 (hh _) rfl tf (Nat.le_of_ble_eq_true rfl) rfl rfl ?_
  refine ev_if_neN 46 53 dX11_damage_43 (by decide) (by omega) rfl (fun hbr => ?_) (fun hx => absurd hx ((by omega)))
  refine ev_aload 55 dX11_damage_53 rfl rfl ?_
  refine ev_iload_n 56 dX11_damage_55 rfl rfl ?_
  refine ev_invV 59 (Mc := mX4_has) ⟨lk939, lk89, hdX4_has, (Nat.le_of_ble_eq_true rfl), (Nat.le_of_ble_eq_true rfl)⟩ lk936 lk937 lk938 mm_cl4 rfl dX11_damage_56 (ct_has_f tf h hj) rfl tf (Nat.le_of_ble_eq_true rfl) rfl rfl ?_
  refine ev_if_neN 62 69 dX11_damage_59 (by decide) (by omega) rfl (fun hx => absurd ((by omega)) hx) (fun hbr => ?_)
  refine ev_aload_n 63 dX11_damage_62 rfl rfl ?_
  refine ev_bipush 65 (v := -4) dX11_damage_63 (by decide +kernel) rfl ?_
  refine ev_invV 68 (Mc := mX11_refuse) ⟨lk303, lk75, hdX11_refuse, (Nat.le_of_ble_eq_true rfl), (Nat.le_of_ble_eq_true rfl)⟩ lk300 lk302 lk0 mm_cl11 rfl dX11_damage_65 (ct_refuse hV) rfl (hV.1 0 _ rfl) (Nat.le_of_ble_eq_true rfl) rfl rfl ?_
  exact ev_iret dX11_damage_68 rfl (rfl)
theorem cl_damage_1 {c i : Int32} {j w : Nat} (hV : lyV B P x) (tf : mm_T B f = 104) (hxa : a ≠ x) (h1 : P f 1 = some a) (ta : mm_T B a = 201) (na : mm_N B a = s) (hs : s ≤ 64) (hj : j < s) (w1 : 1 ≤ w) (w2 : w ≤ 255) (hf : Ct g mX11_frameAt [.ref x, .int c, .int i] B (vz I x) J P (some (.ref f), B, vz I x, J, P)) :
    Ct g mX11_damage [.ref x, .int c, .int i, .int (nI j), .int (nI w)] B I J P (some (.int (b8 (I a j ^^^ nI w) &&& nI 255)), B, va_up (vz I x) a (va_up (I a) j (b8 (I a j ^^^ nI w))), J, P) := by
  have ea : vz I x a = I a := va_up_n _ _ hxa
  have fv : FV B P f s := Or.inr (Or.inl ⟨a, h1, ta, na⟩)
  have fp := ct_flip1 (g := g) (I := vz I x) (J := J) (mk := nI w) tf h1 ta na hs hj
  rw [ea, b8_b8] at fp
  have rd := ct_read_1 (g := g) (J := J) (I := va_up (vz I x) a (va_up (I a) j (b8 (I a j ^^^ nI w)))) (i := j) tf h1 ta na (by omega) hj (v := b8 (I a j ^^^ nI w)) (by rw [va_up_s, va_up_s]) (b8_16 (b8_b8 _)).1 (b8_16 (b8_b8 _)).2
  refine ct_of (lv := [some (.ref x), some (.int (c)), some (.int (i)), some (.int (nI (j))), some (.int (nI (w))), none]) (by decide +kernel) (Nat.le_of_ble_eq_true rfl) rfl ?_
  refine ev_aload_n 1 dX11_damage_0 rfl rfl ?_
  refine ev_iconstN 2 0 dX11_damage_1 rfl ?_
  refine ev_putI 5 mm_cl11 (j := 9) (Nat.le_of_ble_eq_true rfl) dX11_damage_2 lk270 rfl (fun _ _ _ => rfl) rfl rfl (hV.1 0 _ rfl) rfl ?_
  refine ev_aload_n 6 dX11_damage_5 rfl rfl ?_
  refine ev_iload_n 7 dX11_damage_6 rfl rfl ?_
  refine ev_iload_n 8 dX11_damage_7 rfl rfl ?_
  refine ev_invV 11 (Mc := mX11_frameAt) ⟨lk923, lk75, hdX11_frameAt, (Nat.le_of_ble_eq_true rfl), (Nat.le_of_ble_eq_true rfl)⟩ lk920 lk922 lk23 mm_cl11 rfl dX11_damage_8 (hf) rfl (hV.1 0 _ rfl) (Nat.le_of_ble_eq_true rfl) rfl rfl ?_
  refine ev_astore 13 (lv' := [_, _, _, _, some (.int _), _]) dX11_damage_11 (Nat.le_of_ble_eq_true rfl) rfl rfl ?_
  refine ev_aload 15 dX11_damage_13 rfl rfl ?_
  refine ev_ifnull_r 18 dX11_damage_15 rfl ?_
  refine ev_iload 20 dX11_damage_18 rfl rfl ?_
  refine ev_iconstN 21 1 dX11_damage_20 rfl ?_
  refine ev_icmp_ltN 24 32 dX11_damage_21 (by decide) (by omega) (by omega) rfl (fun hx => absurd hx ((by omega))) (fun hbr => ?_)
  refine ev_iload 26 dX11_damage_24 rfl rfl ?_
  refine ev_sipushN 29 255 dX11_damage_26 (by decide +kernel) rfl ?_
  refine ev_icmp_leN 32 38 dX11_damage_29 (by decide) (by omega) (by omega) rfl (fun hbr => ?_) (fun hx => absurd ((by omega)) hx)
  refine ev_aload 40 dX11_damage_38 rfl rfl ?_
  refine ev_invV 43 (Mc := mX4_hasRow) ⟨lk927, lk89, hdX4_hasRow, (Nat.le_of_ble_eq_true rfl), (Nat.le_of_ble_eq_true rfl)⟩ lk924 lk925 lk926 mm_cl4 rfl dX11_damage_40 (ct_hasRow_1 tf h1 ta) rfl tf (Nat.le_of_ble_eq_true rfl) rfl rfl ?_
  refine ev_if_neN 46 53 dX11_damage_43 (by decide) (by omega) rfl (fun hbr => ?_) (fun hx => absurd hx ((by omega)))
  refine ev_aload 55 dX11_damage_53 rfl rfl ?_
  refine ev_iload_n 56 dX11_damage_55 rfl rfl ?_
  refine ev_invV 59 (Mc := mX4_has) ⟨lk939, lk89, hdX4_has, (Nat.le_of_ble_eq_true rfl), (Nat.le_of_ble_eq_true rfl)⟩ lk936 lk937 lk938 mm_cl4 rfl dX11_damage_56 (ct_has_t tf fv (by omega) hj) rfl tf (Nat.le_of_ble_eq_true rfl) rfl rfl ?_
  refine ev_if_neN 62 69 dX11_damage_59 (by decide) (by omega) rfl (fun hbr => ?_) (fun hx => absurd hx ((by omega)))
  refine ev_aload 71 dX11_damage_69 rfl rfl ?_
  refine ev_iload_n 72 dX11_damage_71 rfl rfl ?_
  refine ev_iload 74 dX11_damage_72 rfl rfl ?_
  refine ev_invVv 77 (Mc := mX4_flip) ⟨lk990, lk89, hdX4_flip, (Nat.le_of_ble_eq_true rfl), (Nat.le_of_ble_eq_true rfl)⟩ lk987 lk988 lk989 mm_cl4 rfl dX11_damage_74 (fp) rfl tf (Nat.le_of_ble_eq_true rfl) rfl rfl ?_
  refine ev_aload 79 dX11_damage_77 rfl rfl ?_
  refine ev_iload_n 80 dX11_damage_79 rfl rfl ?_
  refine ev_invV 83 (Mc := mX4_read) ⟨lk944, lk89, hdX4_read, (Nat.le_of_ble_eq_true rfl), (Nat.le_of_ble_eq_true rfl)⟩ lk941 lk942 lk943 mm_cl4 rfl dX11_damage_80 (rd) rfl tf (Nat.le_of_ble_eq_true rfl) rfl rfl ?_
  exact ev_iret dX11_damage_83 rfl (rfl)
theorem cl_damage_2 {c i : Int32} {j w : Nat} (hV : lyV B P x) (tf : mm_T B f = 104) (hxa : a ≠ x) (h1 : P f 1 = none) (h2 : P f 2 = some a) (ta : mm_T B a = 202) (na : mm_N B a = s) (hs : s ≤ 64) (hj : j < s) (hb : -256 ≤ (I a j).toInt ∧ (I a j).toInt ≤ 255) (w1 : 1 ≤ w) (w2 : w ≤ 255) (hf : Ct g mX11_frameAt [.ref x, .int c, .int i] B (vz I x) J P (some (.ref f), B, vz I x, J, P)) :
    Ct g mX11_damage [.ref x, .int c, .int i, .int (nI j), .int (nI w)] B I J P (some (.int ((I a j ^^^ nI w) &&& nI 255)), B, va_up (vz I x) a (va_up (I a) j (I a j ^^^ nI w)), J, P) := by
  have ea : vz I x a = I a := va_up_n _ _ hxa
  have fv : FV B P f s := Or.inr (Or.inr ⟨a, h1, h2, ta, na⟩)
  have fp := ct_flip2 (g := g) (I := vz I x) (J := J) (mk := nI w) tf h1 h2 ta na hs hj
  have r9 := xr_9 (k := w) hb.1 hb.2 w2
  rw [ea, s16_id (v := I a j ^^^ nI w) (by omega) (by omega), s16_id (v := I a j ^^^ nI w) (by omega) (by omega)] at fp
  have rd := ct_read_2 (g := g) (J := J) (I := va_up (vz I x) a (va_up (I a) j (I a j ^^^ nI w))) (i := j) tf h1 h2 ta na (by omega) hj (v := I a j ^^^ nI w) (by rw [va_up_s, va_up_s])
  refine ct_of (lv := [some (.ref x), some (.int (c)), some (.int (i)), some (.int (nI (j))), some (.int (nI (w))), none]) (by decide +kernel) (Nat.le_of_ble_eq_true rfl) rfl ?_
  refine ev_aload_n 1 dX11_damage_0 rfl rfl ?_
  refine ev_iconstN 2 0 dX11_damage_1 rfl ?_
  refine ev_putI 5 mm_cl11 (j := 9) (Nat.le_of_ble_eq_true rfl) dX11_damage_2 lk270 rfl (fun _ _ _ => rfl) rfl rfl (hV.1 0 _ rfl) rfl ?_
  refine ev_aload_n 6 dX11_damage_5 rfl rfl ?_
  refine ev_iload_n 7 dX11_damage_6 rfl rfl ?_
  refine ev_iload_n 8 dX11_damage_7 rfl rfl ?_
  refine ev_invV 11 (Mc := mX11_frameAt) ⟨lk923, lk75, hdX11_frameAt, (Nat.le_of_ble_eq_true rfl), (Nat.le_of_ble_eq_true rfl)⟩ lk920 lk922 lk23 mm_cl11 rfl dX11_damage_8 (hf) rfl (hV.1 0 _ rfl) (Nat.le_of_ble_eq_true rfl) rfl rfl ?_
  refine ev_astore 13 (lv' := [_, _, _, _, some (.int _), _]) dX11_damage_11 (Nat.le_of_ble_eq_true rfl) rfl rfl ?_
  refine ev_aload 15 dX11_damage_13 rfl rfl ?_
  refine ev_ifnull_r 18 dX11_damage_15 rfl ?_
  refine ev_iload 20 dX11_damage_18 rfl rfl ?_
  refine ev_iconstN 21 1 dX11_damage_20 rfl ?_
  refine ev_icmp_ltN 24 32 dX11_damage_21 (by decide) (by omega) (by omega) rfl (fun hx => absurd hx ((by omega))) (fun hbr => ?_)
  refine ev_iload 26 dX11_damage_24 rfl rfl ?_
  refine ev_sipushN 29 255 dX11_damage_26 (by decide +kernel) rfl ?_
  refine ev_icmp_leN 32 38 dX11_damage_29 (by decide) (by omega) (by omega) rfl (fun hbr => ?_) (fun hx => absurd ((by omega)) hx)
  refine ev_aload 40 dX11_damage_38 rfl rfl ?_
  refine ev_invV 43 (Mc := mX4_hasRow) ⟨lk927, lk89, hdX4_hasRow, (Nat.le_of_ble_eq_true rfl), (Nat.le_of_ble_eq_true rfl)⟩ lk924 lk925 lk926 mm_cl4 rfl dX11_damage_40 (ct_hasRow_2 tf h1 h2 ta) rfl tf (Nat.le_of_ble_eq_true rfl) rfl rfl ?_
  refine ev_if_neN 46 53 dX11_damage_43 (by decide) (by omega) rfl (fun hbr => ?_) (fun hx => absurd hx ((by omega)))
  refine ev_aload 55 dX11_damage_53 rfl rfl ?_
  refine ev_iload_n 56 dX11_damage_55 rfl rfl ?_
  refine ev_invV 59 (Mc := mX4_has) ⟨lk939, lk89, hdX4_has, (Nat.le_of_ble_eq_true rfl), (Nat.le_of_ble_eq_true rfl)⟩ lk936 lk937 lk938 mm_cl4 rfl dX11_damage_56 (ct_has_t tf fv (by omega) hj) rfl tf (Nat.le_of_ble_eq_true rfl) rfl rfl ?_
  refine ev_if_neN 62 69 dX11_damage_59 (by decide) (by omega) rfl (fun hbr => ?_) (fun hx => absurd hx ((by omega)))
  refine ev_aload 71 dX11_damage_69 rfl rfl ?_
  refine ev_iload_n 72 dX11_damage_71 rfl rfl ?_
  refine ev_iload 74 dX11_damage_72 rfl rfl ?_
  refine ev_invVv 77 (Mc := mX4_flip) ⟨lk990, lk89, hdX4_flip, (Nat.le_of_ble_eq_true rfl), (Nat.le_of_ble_eq_true rfl)⟩ lk987 lk988 lk989 mm_cl4 rfl dX11_damage_74 (fp) rfl tf (Nat.le_of_ble_eq_true rfl) rfl rfl ?_
  refine ev_aload 79 dX11_damage_77 rfl rfl ?_
  refine ev_iload_n 80 dX11_damage_79 rfl rfl ?_
  refine ev_invV 83 (Mc := mX4_read) ⟨lk944, lk89, hdX4_read, (Nat.le_of_ble_eq_true rfl), (Nat.le_of_ble_eq_true rfl)⟩ lk941 lk942 lk943 mm_cl4 rfl dX11_damage_80 (rd) rfl tf (Nat.le_of_ble_eq_true rfl) rfl rfl ?_
  exact ev_iret dX11_damage_83 rfl (rfl)
theorem cl_resum_f {c i : Int32} (hV : lyV B P x) (hf : Ct g mX11_frameAt [.ref x, .int c, .int i] B (vz I x) J P (some .null, B, vz I x, J, P)) : Ct g mX11_resum [.ref x, .int c, .int i] B I J P (some (.int (-1)), B, vst I x (-1), J, P) := by
  refine ct_of (lv := [some (.ref x), some (.int (c)), some (.int (i)), none, none]) (by decide +kernel) (Nat.le_of_ble_eq_true rfl) rfl ?_
  refine ev_aload_n 1 dX11_resum_0 rfl rfl ?_
  refine ev_iconstN 2 0 dX11_resum_1 rfl ?_
  refine ev_putI 5 mm_cl11 (j := 9) (Nat.le_of_ble_eq_true rfl) dX11_resum_2 lk270 rfl (fun _ _ _ => rfl) rfl rfl (hV.1 0 _ rfl) rfl ?_
  refine ev_aload_n 6 dX11_resum_5 rfl rfl ?_
  refine ev_iload_n 7 dX11_resum_6 rfl rfl ?_
  refine ev_iload_n 8 dX11_resum_7 rfl rfl ?_
  refine ev_invV 11 (Mc := mX11_frameAt) ⟨lk923, lk75, hdX11_frameAt, (Nat.le_of_ble_eq_true rfl), (Nat.le_of_ble_eq_true rfl)⟩ lk920 lk922 lk23 mm_cl11 rfl dX11_resum_8 (hf) rfl (hV.1 0 _ rfl) (Nat.le_of_ble_eq_true rfl) rfl rfl ?_
  refine ev_astore_nN 12 (lv' := [_, _, some (.int _), _, _]) dX11_resum_11 (Nat.le_of_ble_eq_true rfl) rfl rfl ?_
  refine ev_aload_nN 13 dX11_resum_12 rfl rfl ?_
  refine ev_ifnonnull_n 16 dX11_resum_13 rfl ?_
  refine ev_aload_n 17 dX11_resum_16 rfl rfl ?_
  refine ev_iconst 18 (v := -1) dX11_resum_17 (by decide +kernel) rfl ?_
  refine ev_invV 21 (Mc := mX11_refuse) ⟨lk303, lk75, hdX11_refuse, (Nat.le_of_ble_eq_true rfl), (Nat.le_of_ble_eq_true rfl)⟩ lk300 lk302 lk0 mm_cl11 rfl dX11_resum_18 (ct_refuse hV) rfl (hV.1 0 _ rfl) (Nat.le_of_ble_eq_true rfl) rfl rfl ?_
  exact ev_iret dX11_resum_21 rfl (rfl)
theorem cl_resum_0 {c i : Int32} (hV : lyV B P x) (tf : mm_T B f = 104) (h1 : P f 1 = none) (hf : Ct g mX11_frameAt [.ref x, .int c, .int i] B (vz I x) J P (some (.ref f), B, vz I x, J, P)) : Ct g mX11_resum [.ref x, .int c, .int i] B I J P (some (.int (-2)), B, vst I x (-2), J, P) := by
  refine ct_of (lv := [some (.ref x), some (.int (c)), some (.int (i)), none, none]) (by decide +kernel) (Nat.le_of_ble_eq_true rfl) rfl ?_
  refine ev_aload_n 1 dX11_resum_0 rfl rfl ?_
  refine ev_iconstN 2 0 dX11_resum_1 rfl ?_
  refine ev_putI 5 mm_cl11 (j := 9) (Nat.le_of_ble_eq_true rfl) dX11_resum_2 lk270 rfl (fun _ _ _ => rfl) rfl rfl (hV.1 0 _ rfl) rfl ?_
  refine ev_aload_n 6 dX11_resum_5 rfl rfl ?_
  refine ev_iload_n 7 dX11_resum_6 rfl rfl ?_
  refine ev_iload_n 8 dX11_resum_7 rfl rfl ?_
  refine ev_invV 11 (Mc := mX11_frameAt) ⟨lk923, lk75, hdX11_frameAt, (Nat.le_of_ble_eq_true rfl), (Nat.le_of_ble_eq_true rfl)⟩ lk920 lk922 lk23 mm_cl11 rfl dX11_resum_8 (hf) rfl (hV.1 0 _ rfl) (Nat.le_of_ble_eq_true rfl) rfl rfl ?_
  refine ev_astore_n 12 (lv' := [_, _, some (.int _), _, _]) dX11_resum_11 (Nat.le_of_ble_eq_true rfl) rfl rfl ?_
  refine ev_aload_n 13 dX11_resum_12 rfl rfl ?_
  refine ev_ifnonnull_r 22 dX11_resum_13 (by decide) ?_
  refine ev_aload_n 23 dX11_resum_22 rfl rfl ?_
  refine ev_getN 26 mm_cl4 (j := 1) (Nat.le_of_ble_eq_true rfl) dX11_resum_23 lk864 (fun _ _ _ => rfl) tf (h1) rfl ?_
  refine ev_astoreN 28 (lv' := [_, _, _, some (.ref _), _]) dX11_resum_26 (Nat.le_of_ble_eq_true rfl) rfl rfl ?_
  refine ev_aloadN 30 dX11_resum_28 rfl rfl ?_
  refine ev_ifnull_n 39 dX11_resum_30 (by decide) ?_
  refine ev_aload_n 40 dX11_resum_39 rfl rfl ?_
  refine ev_bipush 42 (v := -2) dX11_resum_40 (by decide +kernel) rfl ?_
  refine ev_invV 45 (Mc := mX11_refuse) ⟨lk303, lk75, hdX11_refuse, (Nat.le_of_ble_eq_true rfl), (Nat.le_of_ble_eq_true rfl)⟩ lk300 lk302 lk0 mm_cl11 rfl dX11_resum_42 (ct_refuse hV) rfl (hV.1 0 _ rfl) (Nat.le_of_ble_eq_true rfl) rfl rfl ?_
  exact ev_iret dX11_resum_45 rfl (rfl)
theorem cl_resum_e {c i : Int32} (hV : lyV B P x) (tf : mm_T B f = 104) (h1 : P f 1 = some a) (ta : mm_T B a = 201) (na : mm_N B a = 0) (hf : Ct g mX11_frameAt [.ref x, .int c, .int i] B (vz I x) J P (some (.ref f), B, vz I x, J, P)) : Ct g mX11_resum [.ref x, .int c, .int i] B I J P (some (.int (-2)), B, vst I x (-2), J, P) := by
  refine ct_of (lv := [some (.ref x), some (.int (c)), some (.int (i)), none, none]) (by decide +kernel) (Nat.le_of_ble_eq_true rfl) rfl ?_
  refine ev_aload_n 1 dX11_resum_0 rfl rfl ?_
  refine ev_iconstN 2 0 dX11_resum_1 rfl ?_
  refine ev_putI 5 mm_cl11 (j := 9) (Nat.le_of_ble_eq_true rfl) dX11_resum_2 lk270 rfl (fun _ _ _ => rfl) rfl rfl (hV.1 0 _ rfl) rfl ?_
  refine ev_aload_n 6 dX11_resum_5 rfl rfl ?_
  refine ev_iload_n 7 dX11_resum_6 rfl rfl ?_
  refine ev_iload_n 8 dX11_resum_7 rfl rfl ?_
  refine ev_invV 11 (Mc := mX11_frameAt) ⟨lk923, lk75, hdX11_frameAt, (Nat.le_of_ble_eq_true rfl), (Nat.le_of_ble_eq_true rfl)⟩ lk920 lk922 lk23 mm_cl11 rfl dX11_resum_8 (hf) rfl (hV.1 0 _ rfl) (Nat.le_of_ble_eq_true rfl) rfl rfl ?_
  refine ev_astore_n 12 (lv' := [_, _, some (.int _), _, _]) dX11_resum_11 (Nat.le_of_ble_eq_true rfl) rfl rfl ?_
  refine ev_aload_n 13 dX11_resum_12 rfl rfl ?_
  refine ev_ifnonnull_r 22 dX11_resum_13 (by decide) ?_
  refine ev_aload_n 23 dX11_resum_22 rfl rfl ?_
  refine ev_getP 26 mm_cl4 (j := 1) (Nat.le_of_ble_eq_true rfl) dX11_resum_23 lk864 (fun _ _ _ => rfl) tf (a := a) (h1) rfl ?_
  refine ev_astore 28 (lv' := [_, _, _, some (.ref _), _]) dX11_resum_26 (Nat.le_of_ble_eq_true rfl) rfl rfl ?_
  refine ev_aload 30 dX11_resum_28 rfl rfl ?_
  refine ev_ifnull_r 33 dX11_resum_30 rfl ?_
  refine ev_aload 35 dX11_resum_33 rfl rfl ?_
  refine ev_alen 36 1 dX11_resum_35 ta rfl ?_
  refine ev_if_neN 39 46 dX11_resum_36 (by decide) (by omega) rfl (fun hx => absurd ((by omega)) hx) (fun hbr => ?_)
  refine ev_aload_n 40 dX11_resum_39 rfl rfl ?_
  refine ev_bipush 42 (v := -2) dX11_resum_40 (by decide +kernel) rfl ?_
  refine ev_invV 45 (Mc := mX11_refuse) ⟨lk303, lk75, hdX11_refuse, (Nat.le_of_ble_eq_true rfl), (Nat.le_of_ble_eq_true rfl)⟩ lk300 lk302 lk0 mm_cl11 rfl dX11_resum_42 (ct_refuse hV) rfl (hV.1 0 _ rfl) (Nat.le_of_ble_eq_true rfl) rfl rfl ?_
  exact ev_iret dX11_resum_45 rfl (rfl)
theorem cl_resum_t {c i : Int32} {w : Nat} (hV : lyV B P x) (tf : mm_T B f = 104) (hxa : a ≠ x) (h1 : P f 1 = some a) (ta : mm_T B a = 201) (na : mm_N B a = w + 1) (hw : w < 64) (hf : Ct g mX11_frameAt [.ref x, .int c, .int i] B (vz I x) J P (some (.ref f), B, vz I x, J, P)) :
    Ct g mX11_resum [.ref x, .int c, .int i] B I J P (some (.int (b8 (sp_xs (I a) w) &&& nI 255)), B, va_up (vz I x) a (va_up (I a) w (b8 (sp_xs (I a) w))), J, P) := by
  have ea : vz I x a = I a := va_up_n _ _ hxa
  have sm := ct_X11_sumOf (g := g) (I := vz I x) (J := J) (P := P) (F := I a) ta na (by omega) (fun k _ => by rw [ea])
  have rd := ct_read_1 (g := g) (J := J) (I := va_up (vz I x) a (va_up (I a) w (b8 (sp_xs (I a) w)))) (i := w) tf h1 ta na (by omega) (by omega) (v := b8 (sp_xs (I a) w)) (by rw [va_up_s, va_up_s]) (b8_16 (b8_b8 _)).1 (b8_16 (b8_b8 _)).2
  have e8 : (b8 (sp_xs (I a) w)).toInt8.toInt32 = b8 (sp_xs (I a) w) := b8_b8 _
  have nn : mm_N B a - 1 = w := by omega
  refine ct_of (lv := [some (.ref x), some (.int (c)), some (.int (i)), none, none]) (by decide +kernel) (Nat.le_of_ble_eq_true rfl) rfl ?_
  refine ev_aload_n 1 dX11_resum_0 rfl rfl ?_
  refine ev_iconstN 2 0 dX11_resum_1 rfl ?_
  refine ev_putI 5 mm_cl11 (j := 9) (Nat.le_of_ble_eq_true rfl) dX11_resum_2 lk270 rfl (fun _ _ _ => rfl) rfl rfl (hV.1 0 _ rfl) rfl ?_
  refine ev_aload_n 6 dX11_resum_5 rfl rfl ?_
  refine ev_iload_n 7 dX11_resum_6 rfl rfl ?_
  refine ev_iload_n 8 dX11_resum_7 rfl rfl ?_
  refine ev_invV 11 (Mc := mX11_frameAt) ⟨lk923, lk75, hdX11_frameAt, (Nat.le_of_ble_eq_true rfl), (Nat.le_of_ble_eq_true rfl)⟩ lk920 lk922 lk23 mm_cl11 rfl dX11_resum_8 (hf) rfl (hV.1 0 _ rfl) (Nat.le_of_ble_eq_true rfl) rfl rfl ?_
  refine ev_astore_n 12 (lv' := [_, _, some (.int _), _, _]) dX11_resum_11 (Nat.le_of_ble_eq_true rfl) rfl rfl ?_
  refine ev_aload_n 13 dX11_resum_12 rfl rfl ?_
  refine ev_ifnonnull_r 22 dX11_resum_13 (by decide) ?_
  refine ev_aload_n 23 dX11_resum_22 rfl rfl ?_
  refine ev_getP 26 mm_cl4 (j := 1) (Nat.le_of_ble_eq_true rfl) dX11_resum_23 lk864 (fun _ _ _ => rfl) tf (a := a) (h1) rfl ?_
  refine ev_astore 28 (lv' := [_, _, _, some (.ref _), _]) dX11_resum_26 (Nat.le_of_ble_eq_true rfl) rfl rfl ?_
  refine ev_aload 30 dX11_resum_28 rfl rfl ?_
  refine ev_ifnull_r 33 dX11_resum_30 rfl ?_
  refine ev_aload 35 dX11_resum_33 rfl rfl ?_
  refine ev_alen 36 1 dX11_resum_35 ta rfl ?_
  refine ev_if_neN 39 46 dX11_resum_36 (by decide) (by omega) rfl (fun hbr => ?_) (fun hx => absurd hx ((by omega)))
  refine ev_aload 48 dX11_resum_46 rfl rfl ?_
  refine ev_aload 50 dX11_resum_48 rfl rfl ?_
  refine ev_alen 51 1 dX11_resum_50 ta rfl ?_
  refine ev_iconstN 52 1 dX11_resum_51 rfl ?_
  refine ev_isubN 53 dX11_resum_52 (by omega) rfl ?_
  refine ev_eqI (y := nI (w)) ((by rw [nn])) ?_
  refine ev_aload 55 dX11_resum_53 rfl rfl ?_
  refine ev_invS 58 (Mc := mX11_sumOf) ⟨lk846, lk75, hdX11_sumOf, (Nat.le_of_ble_eq_true rfl), (Nat.le_of_ble_eq_true rfl)⟩ lk995 lk845 dX11_resum_55 (sm) rfl (Nat.le_of_ble_eq_true rfl) rfl rfl ?_
  refine ev_bast 59 _ dX11_resum_58 ta rfl (by omega) rfl ?_
  rw [e8, ea]
  refine ev_aload_n 60 dX11_resum_59 rfl rfl ?_
  refine ev_aload 62 dX11_resum_60 rfl rfl ?_
  refine ev_alen 63 1 dX11_resum_62 ta rfl ?_
  refine ev_iconstN 64 1 dX11_resum_63 rfl ?_
  refine ev_isubN 65 dX11_resum_64 (by omega) rfl ?_
  refine ev_eqI (y := nI (w)) ((by rw [nn])) ?_
  refine ev_invV 68 (Mc := mX4_read) ⟨lk944, lk89, hdX4_read, (Nat.le_of_ble_eq_true rfl), (Nat.le_of_ble_eq_true rfl)⟩ lk941 lk942 lk943 mm_cl4 rfl dX11_resum_65 (rd) rfl tf (Nat.le_of_ble_eq_true rfl) rfl rfl ?_
  exact ev_iret dX11_resum_68 rfl (rfl)
theorem cl_shorts_f {c i : Int32} (hV : lyV B P x) (hf : Ct g mX11_frameAt [.ref x, .int c, .int i] B (vz I x) J P (some .null, B, vz I x, J, P)) : Ct g mX11_shorts [.ref x, .int c, .int i] B I J P (some (.int (-1)), B, vst I x (-1), J, P) := by
  refine ct_of (lv := [some (.ref x), some (.int (c)), some (.int (i)), none]) (by decide +kernel) (Nat.le_of_ble_eq_true rfl) rfl ?_
  refine ev_aload_n 1 dX11_shorts_0 rfl rfl ?_
  refine ev_iconstN 2 0 dX11_shorts_1 rfl ?_
  refine ev_putI 5 mm_cl11 (j := 9) (Nat.le_of_ble_eq_true rfl) dX11_shorts_2 lk270 rfl (fun _ _ _ => rfl) rfl rfl (hV.1 0 _ rfl) rfl ?_
  refine ev_aload_n 6 dX11_shorts_5 rfl rfl ?_
  refine ev_iload_n 7 dX11_shorts_6 rfl rfl ?_
  refine ev_iload_n 8 dX11_shorts_7 rfl rfl ?_
  refine ev_invV 11 (Mc := mX11_frameAt) ⟨lk923, lk75, hdX11_frameAt, (Nat.le_of_ble_eq_true rfl), (Nat.le_of_ble_eq_true rfl)⟩ lk920 lk922 lk23 mm_cl11 rfl dX11_shorts_8 (hf) rfl (hV.1 0 _ rfl) (Nat.le_of_ble_eq_true rfl) rfl rfl ?_
  refine ev_astore_nN 12 (lv' := [_, _, some (.int _), _]) dX11_shorts_11 (Nat.le_of_ble_eq_true rfl) rfl rfl ?_
  refine ev_aload_nN 13 dX11_shorts_12 rfl rfl ?_
  refine ev_ifnonnull_n 16 dX11_shorts_13 rfl ?_
  refine ev_aload_n 17 dX11_shorts_16 rfl rfl ?_
  refine ev_iconst 18 (v := -1) dX11_shorts_17 (by decide +kernel) rfl ?_
  refine ev_invV 21 (Mc := mX11_refuse) ⟨lk303, lk75, hdX11_refuse, (Nat.le_of_ble_eq_true rfl), (Nat.le_of_ble_eq_true rfl)⟩ lk300 lk302 lk0 mm_cl11 rfl dX11_shorts_18 (ct_refuse hV) rfl (hV.1 0 _ rfl) (Nat.le_of_ble_eq_true rfl) rfl rfl ?_
  exact ev_iret dX11_shorts_21 rfl (rfl)
theorem cl_shorts_0 {c i : Int32} (hV : lyV B P x) (tf : mm_T B f = 104) (h1 : P f 1 = none) (hf : Ct g mX11_frameAt [.ref x, .int c, .int i] B (vz I x) J P (some (.ref f), B, vz I x, J, P)) : Ct g mX11_shorts [.ref x, .int c, .int i] B I J P (some (.int (-2)), B, vst I x (-2), J, P) := by
  refine ct_of (lv := [some (.ref x), some (.int (c)), some (.int (i)), none]) (by decide +kernel) (Nat.le_of_ble_eq_true rfl) rfl ?_
  refine ev_aload_n 1 dX11_shorts_0 rfl rfl ?_
  refine ev_iconstN 2 0 dX11_shorts_1 rfl ?_
  refine ev_putI 5 mm_cl11 (j := 9) (Nat.le_of_ble_eq_true rfl) dX11_shorts_2 lk270 rfl (fun _ _ _ => rfl) rfl rfl (hV.1 0 _ rfl) rfl ?_
  refine ev_aload_n 6 dX11_shorts_5 rfl rfl ?_
  refine ev_iload_n 7 dX11_shorts_6 rfl rfl ?_
  refine ev_iload_n 8 dX11_shorts_7 rfl rfl ?_
  refine ev_invV 11 (Mc := mX11_frameAt) ⟨lk923, lk75, hdX11_frameAt, (Nat.le_of_ble_eq_true rfl), (Nat.le_of_ble_eq_true rfl)⟩ lk920 lk922 lk23 mm_cl11 rfl dX11_shorts_8 (hf) rfl (hV.1 0 _ rfl) (Nat.le_of_ble_eq_true rfl) rfl rfl ?_
  refine ev_astore_n 12 (lv' := [_, _, some (.int _), _]) dX11_shorts_11 (Nat.le_of_ble_eq_true rfl) rfl rfl ?_
  refine ev_aload_n 13 dX11_shorts_12 rfl rfl ?_
  refine ev_ifnonnull_r 22 dX11_shorts_13 (by decide) ?_
  refine ev_aload_n 23 dX11_shorts_22 rfl rfl ?_
  refine ev_getN 26 mm_cl4 (j := 1) (Nat.le_of_ble_eq_true rfl) dX11_shorts_23 lk864 (fun _ _ _ => rfl) tf (h1) rfl ?_
  refine ev_ifnonnull_n 29 dX11_shorts_26 rfl ?_
  refine ev_aload_n 30 dX11_shorts_29 rfl rfl ?_
  refine ev_bipush 32 (v := -2) dX11_shorts_30 (by decide +kernel) rfl ?_
  refine ev_invV 35 (Mc := mX11_refuse) ⟨lk303, lk75, hdX11_refuse, (Nat.le_of_ble_eq_true rfl), (Nat.le_of_ble_eq_true rfl)⟩ lk300 lk302 lk0 mm_cl11 rfl dX11_shorts_32 (ct_refuse hV) rfl (hV.1 0 _ rfl) (Nat.le_of_ble_eq_true rfl) rfl rfl ?_
  exact ev_iret dX11_shorts_35 rfl (rfl)
theorem cl_shorts_t {c i : Int32} (hV : lyV B P x) (tf : mm_T B f = 104) (hfn : f < mm_nx B) (hxa : a ≠ x) (h1 : P f 1 = some a) (ta : mm_T B a = 201) (han : a < mm_nx B) (na : mm_N B a = s) (hs : s ≤ 64) (hb : ∀ k, k < s → b8 (I a k) = I a k) (hf : Ct g mX11_frameAt [.ref x, .int c, .int i] B (vz I x) J P (some (.ref f), B, vz I x, J, P)) :
    Ct g mX11_shorts [.ref x, .int c, .int i] B I J P (some (.int (nI 1)), mm_al B 202 s s, va_up (vz I x) (mm_nx B) (sgp (fun _ => 0) 0 s (I a)), va_up J (mm_nx B) (fun _ => 0), va_up (va_up P (mm_nx B) (fun _ => none)) f (va_up (va_up (P f) 2 (some (mm_nx B))) 1 none)) := by
  have ea : vz I x a = I a := va_up_n _ _ hxa
  have wd := ct_widen (g := g) (I := vz I x) (J := J) (P := P) tf hfn h1 ta han na hs (by rw [ea]; exact hb)
  rw [ea] at wd
  refine ct_of (lv := [some (.ref x), some (.int (c)), some (.int (i)), none]) (by decide +kernel) (Nat.le_of_ble_eq_true rfl) rfl ?_
  refine ev_aload_n 1 dX11_shorts_0 rfl rfl ?_
  refine ev_iconstN 2 0 dX11_shorts_1 rfl ?_
  refine ev_putI 5 mm_cl11 (j := 9) (Nat.le_of_ble_eq_true rfl) dX11_shorts_2 lk270 rfl (fun _ _ _ => rfl) rfl rfl (hV.1 0 _ rfl) rfl ?_
  refine ev_aload_n 6 dX11_shorts_5 rfl rfl ?_
  refine ev_iload_n 7 dX11_shorts_6 rfl rfl ?_
  refine ev_iload_n 8 dX11_shorts_7 rfl rfl ?_
  refine ev_invV 11 (Mc := mX11_frameAt) ⟨lk923, lk75, hdX11_frameAt, (Nat.le_of_ble_eq_true rfl), (Nat.le_of_ble_eq_true rfl)⟩ lk920 lk922 lk23 mm_cl11 rfl dX11_shorts_8 (hf) rfl (hV.1 0 _ rfl) (Nat.le_of_ble_eq_true rfl) rfl rfl ?_
  refine ev_astore_n 12 (lv' := [_, _, some (.int _), _]) dX11_shorts_11 (Nat.le_of_ble_eq_true rfl) rfl rfl ?_
  refine ev_aload_n 13 dX11_shorts_12 rfl rfl ?_
  refine ev_ifnonnull_r 22 dX11_shorts_13 (by decide) ?_
  refine ev_aload_n 23 dX11_shorts_22 rfl rfl ?_
  refine ev_getP 26 mm_cl4 (j := 1) (Nat.le_of_ble_eq_true rfl) dX11_shorts_23 lk864 (fun _ _ _ => rfl) tf (a := a) (h1) rfl ?_
  refine ev_ifnonnull_r 36 dX11_shorts_26 (by decide) ?_
  refine ev_aload_n 37 dX11_shorts_36 rfl rfl ?_
  refine ev_invVv 40 (Mc := mX4_widen) ⟨lk1003, lk89, hdX4_widen, (Nat.le_of_ble_eq_true rfl), (Nat.le_of_ble_eq_true rfl)⟩ lk1000 lk1001 lk1002 mm_cl4 rfl dX11_shorts_37 (wd) rfl tf (Nat.le_of_ble_eq_true rfl) rfl rfl ?_
  refine ev_iconstN 41 1 dX11_shorts_40 rfl ?_
  exact ev_iret dX11_shorts_41 rfl (rfl)
end FO0
