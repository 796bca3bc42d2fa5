/-! DECODE: ranges of what comes out -/
theorem sp_sh1 (a : Int32) : (a >>> (nI 1 &&& 31)).toInt = a.toInt / 2 := by
  rw [show (nI 1 &&& 31) = 1 from rfl]
  rw [← Int32.toInt_toBitVec, Int32.toBitVec_shiftRight, BitVec.toInt_sshiftRight', Int32.toInt_toBitVec]
  rw [show ((1 : Int32).toBitVec.smod 32).toNat = 1 by decide, Int.shiftRight_eq_div_pow]
  rfl
theorem joS_r {bd : Int32} {Y O : Nat → Int32} {N ot : Nat} (hN : 1 ≤ N) (hY : ∀ n, n < N → r16 (Y n)) (hO : ∀ n, n < ot → r16 (O n)) (h0 : 0 ≤ bd.toInt) (h1 : bd.toInt ≤ 32767) : 0 ≤ (joS bd Y O N ot).toInt ∧ (joS bd Y O N ot).toInt ≤ 65535 := by
  unfold joS
  have a := sp_gs_r (Y := Y) (N - 1) (fun n hn => hY n (by omega))
  have b : 0 ≤ (sp_gs O (ot - 1)).toInt ∧ (sp_gs O (ot - 1)).toInt ≤ 65535 := by
    by_cases c : ot = 0
    · rw [c]; show 0 ≤ (0 : Int32).toInt ∧ (0 : Int32).toInt ≤ 65535; decide
    · exact sp_gs_r (ot - 1) (fun n hn => hO n (by omega))
  rw [i_max_t, i_max_t]
  omega
theorem joB_r {O : Nat → Int32} {ot : Nat} (hO : ∀ n, n < ot → r16 (O n)) : r16 (joB O ot) := by
  unfold joB
  by_cases c : ot = 0
  · rw [if_pos c]; unfold r16; decide
  · rw [if_neg c]; exact hO _ (by omega)
theorem joY_r {jo N ot : Nat} {bd : Int32} {Y O : Nat → Int32} (hN : 1 ≤ N) (hY : ∀ n, n < N → r16 (Y n)) (hO : ∀ n, n < ot → r16 (O n)) (h0 : 0 ≤ bd.toInt) (h1 : bd.toInt ≤ 32767) : ∀ n, n < N → r16 (joY jo bd Y O N ot n) := fun n hn => by
  unfold joY
  by_cases c : jo = 1
  · rw [if_pos c]
    obtain ⟨s0, s1⟩ := joS_r (bd := bd) hN hY hO h0 h1
    exact jv_r (joB_r hO) hY s0 s1 (n + 1) (by omega)
  · rw [if_neg c]; exact hY n hn
theorem oY_r {dr N : Nat} {Y : Nat → Int32} (hN : 2 ≤ N) (h2 : N / 2 * 2 = N) (hY : ∀ n, n < N → r16 (Y n)) : ∀ k, k < oN dr N → r16 (oY dr Y N k) := fun k hk => by
  unfold oN at hk
  unfold oY
  by_cases c : k < N / 2
  · rw [if_pos c]; exact hY k (by omega)
  · rw [if_neg c]
    by_cases d1 : dr = 1
    · rw [if_pos d1] at hk ⊢
      by_cases e : k = N / 2
      · rw [if_pos e]
        have a := hY (N / 2 - 1) (by omega)
        have b := hY (N / 2) (by omega)
        unfold r16 at a b ⊢
        rw [sp_sh1, i_add_t (by omega) (by omega) (by omega) (by omega)]
        omega
      · rw [if_neg e]; exact hY _ (by omega)
    · rw [if_neg d1] at hk ⊢
      by_cases d2 : dr = 2
      · rw [if_pos d2] at hk ⊢
        exact hY _ (by omega)
      · rw [if_neg d2] at hk ⊢
        exact hY _ (by omega)
theorem chM_cg {ks : Nat → Nat} {t : Nat} {F F' : Nat → Int32} (h : ∀ i, i < t → F i = F' i) : ∀ k i, i < t + chN ks k → chM ks t F k i = chM ks t F' k i := by
  intro k
  induction k with
  | zero => intro i hi; exact h i hi
  | succ k ih =>
    intro i hi
    have hi' : i < t + (chN ks k + fiN (ks k)) := hi
    show fiM (ks k) (t + chN ks k) (chM ks t F k) i = fiM (ks k) (t + chN ks k) (chM ks t F' k) i
    unfold fiM
    unfold fiN at hi'
    by_cases c0 : ks k = 0
    · rw [if_pos c0] at hi' ⊢
      rw [if_pos c0]; exact ih i (by omega)
    · rw [if_neg c0] at hi' ⊢
      rw [if_neg c0]
      by_cases c3 : ks k = 3
      · rw [if_pos c3] at hi' ⊢
        rw [if_pos c3]
        by_cases e1 : i = t + chN ks k + 1
        · rw [e1, va_up_s, va_up_s]
        · rw [va_up_n _ _ e1, va_up_n _ _ e1]
          by_cases e2 : i = t + chN ks k
          · rw [e2, va_up_s, va_up_s]
          · rw [va_up_n _ _ e2, va_up_n _ _ e2]; exact ih i (by omega)
      · rw [if_neg c3] at hi' ⊢
        rw [if_neg c3]
        by_cases e2 : i = t + chN ks k
        · rw [e2, va_up_s, va_up_s]
        · rw [va_up_n _ _ e2, va_up_n _ _ e2]; exact ih i (by omega)
theorem joM_cg {jo t : Nat} {F F' : Nat → Int32} (hjo : jo ≤ 1) (h : ∀ i, i < t → F i = F' i) : ∀ i, i < t + jo → joM jo t F i = joM jo t F' i := fun i hi => by
  unfold joM
  by_cases c : jo = 1
  · rw [if_pos c, if_pos c]
    by_cases e : i = t
    · rw [e, va_up_s, va_up_s]
    · rw [va_up_n _ _ e, va_up_n _ _ e]; exact h i (by omega)
  · rw [if_neg c, if_neg c]; exact h i (by omega)
theorem lyC_p3 {B : mm_B} {P P' : mm_TP} {x o : Nat} (h : lyC B P x o) (hp : ∀ q, q ≠ o + 3 → P' q = P q) : lyC B P' x o := by
  have e : P' = va_up P (o + 3) (P' (o + 3)) := by
    funext q
    by_cases c : q = o + 3
    · rw [c, va_up_s]
    · rw [va_up_n _ _ c]; exact hp q c
  rw [e]; exact lyC_P3 h
section DR0
variable {g : mm_G} {B : mm_B} {I I' : mm_TI} {J J' : mm_TJ} {P P' : mm_TP} {x m o n k : Nat}
theorem cl_decode_f {c : Int32} (hV : lyV B P x) (hx : I x 4 = nI n) (hc : ¬ (0 ≤ c ∧ c < nI n)) : Ct g mX11_decode [.ref x, .int c] B I J P (some (.int (-1)), B, vst I x (-1), J, P) := by
  refine ct_of (lv := [some (.ref x), some (.int (c)), none]) (by decide +kernel) (Nat.le_of_ble_eq_true rfl) rfl ?_
  refine ev_aload_n 1 dX11_decode_0 rfl rfl ?_
  refine ev_iconstN 2 0 dX11_decode_1 rfl ?_
  refine ev_putI 5 mm_cl11 (j := 9) (Nat.le_of_ble_eq_true rfl) dX11_decode_2 lk270 rfl (fun _ _ _ => rfl) rfl rfl (hV.1 0 _ rfl) rfl ?_
  refine ev_aload_n 6 dX11_decode_5 rfl rfl ?_
  refine ev_iload_n 7 dX11_decode_6 rfl rfl ?_
  refine ev_invV 10 (Mc := mX11_coderAt) ⟨lk570, lk75, hdX11_coderAt, (Nat.le_of_ble_eq_true rfl), (Nat.le_of_ble_eq_true rfl)⟩ lk567 lk569 lk1 mm_cl11 rfl dX11_decode_7 (ca_f hV hx hc) rfl (hV.1 0 _ rfl) (Nat.le_of_ble_eq_true rfl) rfl rfl ?_
  refine ev_astore_nN 11 (lv' := [_, some (.int _), _]) dX11_decode_10 (Nat.le_of_ble_eq_true rfl) rfl rfl ?_
  refine ev_aload_nN 12 dX11_decode_11 rfl rfl ?_
  refine ev_ifnonnull_n 15 dX11_decode_12 rfl ?_
  refine ev_aload_n 16 dX11_decode_15 rfl rfl ?_
  refine ev_iconst 17 (v := -1) dX11_decode_16 (by decide +kernel) rfl ?_
  refine ev_invV 20 (Mc := mX11_refuse) ⟨lk303, lk75, hdX11_refuse, (Nat.le_of_ble_eq_true rfl), (Nat.le_of_ble_eq_true rfl)⟩ lk300 lk302 lk0 mm_cl11 rfl dX11_decode_17 (ct_refuse hV) rfl (hV.1 0 _ rfl) (Nat.le_of_ble_eq_true rfl) rfl rfl ?_
  exact ev_iret dX11_decode_20 rfl (rfl)
theorem cl_decode_s {nx : Nat} (h : CA B I P x o n k) (hn : nx < 65536) (hL : I (o + 2) 1 = nI 0) (h9 : I (o + 17) 9 = nI nx) (h16 : I (o + 4) 16 = nI nx) : Ct g mX11_decode [.ref x, .int (nI k)] B I J P (some (.int (-2)), B, vst I x (-2), J, P) := by
  have ca := ca_t (g := g) (J := J) h
  obtain ⟨hV, hC, hxo, hx, h8, hk, hP⟩ := h
  refine ct_of (lv := [some (.ref x), some (.int (nI (k))), none]) (by decide +kernel) (Nat.le_of_ble_eq_true rfl) rfl ?_
  refine ev_aload_n 1 dX11_decode_0 rfl rfl ?_
  refine ev_iconstN 2 0 dX11_decode_1 rfl ?_
  refine ev_putI 5 mm_cl11 (j := 9) (Nat.le_of_ble_eq_true rfl) dX11_decode_2 lk270 rfl (fun _ _ _ => rfl) rfl rfl (hV.1 0 _ rfl) rfl ?_
  refine ev_aload_n 6 dX11_decode_5 rfl rfl ?_
  refine ev_iload_n 7 dX11_decode_6 rfl rfl ?_
  refine ev_invV 10 (Mc := mX11_coderAt) ⟨lk570, lk75, hdX11_coderAt, (Nat.le_of_ble_eq_true rfl), (Nat.le_of_ble_eq_true rfl)⟩ lk567 lk569 lk1 mm_cl11 rfl dX11_decode_7 (ca) rfl (hV.1 0 _ rfl) (Nat.le_of_ble_eq_true rfl) rfl rfl ?_
  refine ev_astore_n 11 (lv' := [_, some (.int _), _]) dX11_decode_10 (Nat.le_of_ble_eq_true rfl) rfl rfl ?_
  refine ev_aload_n 12 dX11_decode_11 rfl rfl ?_
  refine ev_ifnonnull_r 21 dX11_decode_12 (by decide) ?_
  refine ev_aload_n 22 dX11_decode_21 rfl rfl ?_
  refine ev_getP 25 mm_cl0 (j := 2) (Nat.le_of_ble_eq_true rfl) dX11_decode_22 lk547 (fun _ _ _ => rfl) (hC.1 0 _ rfl) (a := (o + 2)) (hC.2.2.1 1 _ _ _ rfl) rfl ?_
  refine ev_getI 28 mm_cl5 (j := 1) (Nat.le_of_ble_eq_true rfl) dX11_decode_25 lk320 (fun _ _ _ => rfl) (hC.1 2 _ rfl) rfl ?_
  refine ev_eqI (y := nI (0)) ((vzk hL (by omega))) ?_
  refine ev_if_neN 31 55 dX11_decode_28 (by decide) (by omega) rfl (fun hx => absurd ((by omega)) hx) (fun hbr => ?_)
  refine ev_aload_n 32 dX11_decode_31 rfl rfl ?_
  refine ev_getP 35 mm_cl0 (j := 4) (Nat.le_of_ble_eq_true rfl) dX11_decode_32 lk551 (fun _ _ _ => rfl) (hC.1 0 _ rfl) (a := (o + 17)) (hC.2.2.1 3 _ _ _ rfl) rfl ?_
  refine ev_getI 38 mm_cl1 (j := 9) (Nat.le_of_ble_eq_true rfl) dX11_decode_35 lk486 (fun _ _ _ => rfl) (hC.1 17 _ rfl) rfl ?_
  refine ev_eqI (y := nI (nx)) ((vzk h9 (by omega))) ?_
  refine ev_aload_n 39 dX11_decode_38 rfl rfl ?_
  refine ev_getP 42 mm_cl0 (j := 3) (Nat.le_of_ble_eq_true rfl) dX11_decode_39 lk549 (fun _ _ _ => rfl) (hC.1 0 _ rfl) (a := (o + 4)) (hC.2.2.1 2 _ _ _ rfl) rfl ?_
  refine ev_getI 45 mm_cl2 (j := 16) (Nat.le_of_ble_eq_true rfl) dX11_decode_42 lk395 (fun _ _ _ => rfl) (hC.1 4 _ rfl) rfl ?_
  refine ev_eqI (y := nI (nx)) ((vzk h16 (by omega))) ?_
  refine ev_icmp_neN 48 55 dX11_decode_45 (by decide) (by omega) (by omega) rfl (fun hx => absurd ((by omega)) hx) (fun hbr => ?_)
  refine ev_aload_n 49 dX11_decode_48 rfl rfl ?_
  refine ev_bipush 51 (v := -2) dX11_decode_49 (by decide +kernel) rfl ?_
  refine ev_invV 54 (Mc := mX11_refuse) ⟨lk303, lk75, hdX11_refuse, (Nat.le_of_ble_eq_true rfl), (Nat.le_of_ble_eq_true rfl)⟩ lk300 lk302 lk0 mm_cl11 rfl dX11_decode_51 (ct_refuse hV) rfl (hV.1 0 _ rfl) (Nat.le_of_ble_eq_true rfl) rfl rfl ?_
  exact ev_iret dX11_decode_54 rfl (rfl)
theorem cl_decode_t {L nx nu : Nat} {v : Int32} (h : CA B I P x o n k) (l1 : L ≤ 250) (hL : I (o + 2) 1 = nI L) (n1 : nx < 65536) (n2 : nu < 65536) (h9 : I (o + 17) 9 = nI nx) (h16 : I (o + 4) 16 = nI nu) (hgo : ¬ (L = 0 ∧ nx = nu)) (hp : ∀ q, q ≠ o + 3 → P' q = P q) (hd : Ct g mX1_decodeNext [.ref (o + 17), .ref (o + 2)] B (vz I x) J P (none, B, I', J', P')) (hv : I' (o + 17) 6 = v) :
    Ct g mX11_decode [.ref x, .int (nI k)] B I J P (some (.int v), B, I', J', P') := by
  have ca := ca_t (g := g) (J := J) h
  obtain ⟨hV, hC, hxo, hx, h8, hk, hP⟩ := h
  have k55 : Ev g mX11_decode 55 [some (.ref x), some (.int (nI k)), some (.ref o)] [] B (vz I x) J P (some (.int v), B, I', J', P') := by
    refine ev_aload_n 56 dX11_decode_55 rfl rfl ?_
    refine ev_getP 59 mm_cl0 (j := 4) (Nat.le_of_ble_eq_true rfl) dX11_decode_56 lk551 (fun _ _ _ => rfl) (hC.1 0 _ rfl) (a := (o + 17)) (hC.2.2.1 3 _ _ _ rfl) rfl ?_
    refine ev_aload_n 60 dX11_decode_59 rfl rfl ?_
    refine ev_getP 63 mm_cl0 (j := 2) (Nat.le_of_ble_eq_true rfl) dX11_decode_60 lk547 (fun _ _ _ => rfl) (hC.1 0 _ rfl) (a := (o + 2)) (hC.2.2.1 1 _ _ _ rfl) rfl ?_
    refine ev_invVv 66 (Mc := mX1_decodeNext) ⟨lk1036, lk85, hdX1_decodeNext, (Nat.le_of_ble_eq_true rfl), (Nat.le_of_ble_eq_true rfl)⟩ lk1033 lk1034 lk1035 mm_cl1 rfl dX11_decode_63 (hd) rfl (hC.1 17 _ rfl) (Nat.le_of_ble_eq_true rfl) rfl rfl ?_
    have hC := lyC_p3 hC hp
    refine ev_aload_n 67 dX11_decode_66 rfl rfl ?_
    refine ev_getP 70 mm_cl0 (j := 4) (Nat.le_of_ble_eq_true rfl) dX11_decode_67 lk551 (fun _ _ _ => rfl) (hC.1 0 _ rfl) (a := (o + 17)) (hC.2.2.1 3 _ _ _ rfl) rfl ?_
    refine ev_getI 73 mm_cl1 (j := 6) (Nat.le_of_ble_eq_true rfl) dX11_decode_70 lk482 (fun _ _ _ => rfl) (hC.1 17 _ rfl) rfl ?_
    refine ev_eqI (y := (v)) (hv) ?_
    exact ev_iret dX11_decode_73 rfl (rfl)
  by_cases e : L = 0
  · refine ct_of (lv := [some (.ref x), some (.int (nI k)), none]) (by decide +kernel) (Nat.le_of_ble_eq_true rfl) rfl ?_
    refine ev_aload_n 1 dX11_decode_0 rfl rfl ?_
    refine ev_iconstN 2 0 dX11_decode_1 rfl ?_
    refine ev_putI 5 mm_cl11 (j := 9) (Nat.le_of_ble_eq_true rfl) dX11_decode_2 lk270 rfl (fun _ _ _ => rfl) rfl rfl (hV.1 0 _ rfl) rfl ?_
    refine ev_aload_n 6 dX11_decode_5 rfl rfl ?_
    refine ev_iload_n 7 dX11_decode_6 rfl rfl ?_
    refine ev_invV 10 (Mc := mX11_coderAt) ⟨lk570, lk75, hdX11_coderAt, (Nat.le_of_ble_eq_true rfl), (Nat.le_of_ble_eq_true rfl)⟩ lk567 lk569 lk1 mm_cl11 rfl dX11_decode_7 (ca) rfl (hV.1 0 _ rfl) (Nat.le_of_ble_eq_true rfl) rfl rfl ?_
    refine ev_astore_n 11 (lv' := [_, some (.int _), _]) dX11_decode_10 (Nat.le_of_ble_eq_true rfl) rfl rfl ?_
    refine ev_aload_n 12 dX11_decode_11 rfl rfl ?_
    refine ev_ifnonnull_r 21 dX11_decode_12 (by decide) ?_
    refine ev_aload_n 22 dX11_decode_21 rfl rfl ?_
    refine ev_getP 25 mm_cl0 (j := 2) (Nat.le_of_ble_eq_true rfl) dX11_decode_22 lk547 (fun _ _ _ => rfl) (hC.1 0 _ rfl) (a := (o + 2)) (hC.2.2.1 1 _ _ _ rfl) rfl ?_
    refine ev_getI 28 mm_cl5 (j := 1) (Nat.le_of_ble_eq_true rfl) dX11_decode_25 lk320 (fun _ _ _ => rfl) (hC.1 2 _ rfl) rfl ?_
    refine ev_eqI (y := nI (L)) ((vzk hL (by omega))) ?_
    refine ev_if_neN 31 55 dX11_decode_28 (by decide) (by omega) rfl (fun hx => absurd ((by omega)) hx) (fun hbr => ?_)
    refine ev_aload_n 32 dX11_decode_31 rfl rfl ?_
    refine ev_getP 35 mm_cl0 (j := 4) (Nat.le_of_ble_eq_true rfl) dX11_decode_32 lk551 (fun _ _ _ => rfl) (hC.1 0 _ rfl) (a := (o + 17)) (hC.2.2.1 3 _ _ _ rfl) rfl ?_
    refine ev_getI 38 mm_cl1 (j := 9) (Nat.le_of_ble_eq_true rfl) dX11_decode_35 lk486 (fun _ _ _ => rfl) (hC.1 17 _ rfl) rfl ?_
    refine ev_eqI (y := nI (nx)) ((vzk h9 (by omega))) ?_
    refine ev_aload_n 39 dX11_decode_38 rfl rfl ?_
    refine ev_getP 42 mm_cl0 (j := 3) (Nat.le_of_ble_eq_true rfl) dX11_decode_39 lk549 (fun _ _ _ => rfl) (hC.1 0 _ rfl) (a := (o + 4)) (hC.2.2.1 2 _ _ _ rfl) rfl ?_
    refine ev_getI 45 mm_cl2 (j := 16) (Nat.le_of_ble_eq_true rfl) dX11_decode_42 lk395 (fun _ _ _ => rfl) (hC.1 4 _ rfl) rfl ?_
    refine ev_eqI (y := nI (nu)) ((vzk h16 (by omega))) ?_
    refine ev_icmp_neN 48 55 dX11_decode_45 (by decide) (by omega) (by omega) rfl (fun hbr => ?_) (fun hx => absurd hx ((by omega)))
    exact k55
  · refine ct_of (lv := [some (.ref x), some (.int (nI k)), none]) (by decide +kernel) (Nat.le_of_ble_eq_true rfl) rfl ?_
    refine ev_aload_n 1 dX11_decode_0 rfl rfl ?_
    refine ev_iconstN 2 0 dX11_decode_1 rfl ?_
    refine ev_putI 5 mm_cl11 (j := 9) (Nat.le_of_ble_eq_true rfl) dX11_decode_2 lk270 rfl (fun _ _ _ => rfl) rfl rfl (hV.1 0 _ rfl) rfl ?_
    refine ev_aload_n 6 dX11_decode_5 rfl rfl ?_
    refine ev_iload_n 7 dX11_decode_6 rfl rfl ?_
    refine ev_invV 10 (Mc := mX11_coderAt) ⟨lk570, lk75, hdX11_coderAt, (Nat.le_of_ble_eq_true rfl), (Nat.le_of_ble_eq_true rfl)⟩ lk567 lk569 lk1 mm_cl11 rfl dX11_decode_7 (ca) rfl (hV.1 0 _ rfl) (Nat.le_of_ble_eq_true rfl) rfl rfl ?_
    refine ev_astore_n 11 (lv' := [_, some (.int _), _]) dX11_decode_10 (Nat.le_of_ble_eq_true rfl) rfl rfl ?_
    refine ev_aload_n 12 dX11_decode_11 rfl rfl ?_
    refine ev_ifnonnull_r 21 dX11_decode_12 (by decide) ?_
    refine ev_aload_n 22 dX11_decode_21 rfl rfl ?_
    refine ev_getP 25 mm_cl0 (j := 2) (Nat.le_of_ble_eq_true rfl) dX11_decode_22 lk547 (fun _ _ _ => rfl) (hC.1 0 _ rfl) (a := (o + 2)) (hC.2.2.1 1 _ _ _ rfl) rfl ?_
    refine ev_getI 28 mm_cl5 (j := 1) (Nat.le_of_ble_eq_true rfl) dX11_decode_25 lk320 (fun _ _ _ => rfl) (hC.1 2 _ rfl) rfl ?_
    refine ev_eqI (y := nI (L)) ((vzk hL (by omega))) ?_
    refine ev_if_neN 31 55 dX11_decode_28 (by decide) (by omega) rfl (fun hbr => ?_) (fun hx => absurd hx ((by omega)))
    exact k55
theorem ml_decode_f {c : Int32} (hM : lyM B P m) (hn : I m 0 = nI n) (hc : ¬ (0 ≤ c ∧ c < nI n)) : Ct g mX12_decode [.ref m, .int c] B I J P (some (.int (-1)), B, mo_st I m (-1), J, P) := by
  refine ct_of (lv := [some (.ref m), some (.int (c)), none, none, none, none, none, none]) (by decide +kernel) (Nat.le_of_ble_eq_true rfl) rfl ?_
  refine ev_aload_n 1 dX12_decode_0 rfl rfl ?_
  refine ev_iload_n 2 dX12_decode_1 rfl rfl ?_
  refine ev_invV 5 (Mc := mX12_isCoder) ⟨lk1552, lk80, hdX12_isCoder, (Nat.le_of_ble_eq_true rfl), (Nat.le_of_ble_eq_true rfl)⟩ lk1549 lk1551 lk40 mm_cl12 rfl dX12_decode_2 (ct_X12_isCoder_f hM (by rw [hn]; exact hc)) rfl (hM.1 0 _ rfl) (Nat.le_of_ble_eq_true rfl) rfl rfl ?_
  refine ev_if_neN 8 14 dX12_decode_5 (by decide) (by omega) rfl (fun hx => absurd ((by omega)) hx) (fun hbr => ?_)
  refine ev_aload_n 9 dX12_decode_8 rfl rfl ?_
  refine ev_iconst 10 (v := -1) dX12_decode_9 (by decide +kernel) rfl ?_
  refine ev_invV 13 (Mc := mX12_refused) ⟨lk1540, lk80, hdX12_refused, (Nat.le_of_ble_eq_true rfl), (Nat.le_of_ble_eq_true rfl)⟩ lk1537 lk1539 lk38 mm_cl12 rfl dX12_decode_10 (ct_X12_refused hM) rfl (hM.1 0 _ rfl) (Nat.le_of_ble_eq_true rfl) rfl rfl ?_
  exact ev_iret dX12_decode_13 rfl (rfl)
theorem ml_decode_s {nx : Nat} (h : MA B I P m n k) (hnx : nx < 65536) (hL : I (m + 28) k = nI 0) (h9 : I (m + 36) k = nI nx) (h16 : I (m + 10) k = nI nx) : Ct g mX12_decode [.ref m, .int (nI k)] B I J P (some (.int (-2)), B, mo_st I m (-2), J, P) := by
  obtain ⟨hM, hn, h8, hk⟩ := h
  refine ct_of (lv := [some (.ref m), some (.int (nI (k))), none, none, none, none, none, none]) (by decide +kernel) (Nat.le_of_ble_eq_true rfl) rfl ?_
  refine ev_aload_n 1 dX12_decode_0 rfl rfl ?_
  refine ev_iload_n 2 dX12_decode_1 rfl rfl ?_
  refine ev_invV 5 (Mc := mX12_isCoder) ⟨lk1552, lk80, hdX12_isCoder, (Nat.le_of_ble_eq_true rfl), (Nat.le_of_ble_eq_true rfl)⟩ lk1549 lk1551 lk40 mm_cl12 rfl dX12_decode_2 (ct_X12_isCoder_t hM hn h8 hk) rfl (hM.1 0 _ rfl) (Nat.le_of_ble_eq_true rfl) rfl rfl ?_
  refine ev_if_neN 8 14 dX12_decode_5 (by decide) (by omega) rfl (fun hbr => ?_) (fun hx => absurd hx ((by omega)))
  refine ev_aload_n 15 dX12_decode_14 rfl rfl ?_
  refine ev_getP 18 mm_cl12 (j := 33) (Nat.le_of_ble_eq_true rfl) dX12_decode_15 lk1318 (fun _ _ _ => rfl) (hM.1 0 _ rfl) (a := (m + 28)) (hM.2.2 27 _ _ _ rfl) rfl ?_
  refine ev_iload_n 19 dX12_decode_18 rfl rfl ?_
  refine ev_iald 20 _ dX12_decode_19 (hM.1 28 _ rfl) rfl (by have hNN := hM.2.1 28 _ rfl; omega) rfl ?_
  refine ev_eqI (y := nI (0)) (hL) ?_
  refine ev_if_neN 23 45 dX12_decode_20 (by decide) (by omega) rfl (fun hx => absurd ((by omega)) hx) (fun hbr => ?_)
  refine ev_aload_n 24 dX12_decode_23 rfl rfl ?_
  refine ev_getP 27 mm_cl12 (j := 42) (Nat.le_of_ble_eq_true rfl) dX12_decode_24 lk1327 (fun _ _ _ => rfl) (hM.1 0 _ rfl) (a := (m + 36)) (hM.2.2 35 _ _ _ rfl) rfl ?_
  refine ev_iload_n 28 dX12_decode_27 rfl rfl ?_
  refine ev_iald 29 _ dX12_decode_28 (hM.1 36 _ rfl) rfl (by have hNN := hM.2.1 36 _ rfl; omega) rfl ?_
  refine ev_eqI (y := nI (nx)) (h9) ?_
  refine ev_aload_n 30 dX12_decode_29 rfl rfl ?_
  refine ev_getP 33 mm_cl12 (j := 15) (Nat.le_of_ble_eq_true rfl) dX12_decode_30 lk1300 (fun _ _ _ => rfl) (hM.1 0 _ rfl) (a := (m + 10)) (hM.2.2 9 _ _ _ rfl) rfl ?_
  refine ev_iload_n 34 dX12_decode_33 rfl rfl ?_
  refine ev_iald 35 _ dX12_decode_34 (hM.1 10 _ rfl) rfl (by have hNN := hM.2.1 10 _ rfl; omega) rfl ?_
  refine ev_eqI (y := nI (nx)) (h16) ?_
  refine ev_icmp_neN 38 45 dX12_decode_35 (by decide) (by omega) (by omega) rfl (fun hx => absurd ((by omega)) hx) (fun hbr => ?_)
  refine ev_aload_n 39 dX12_decode_38 rfl rfl ?_
  refine ev_bipush 41 (v := -2) dX12_decode_39 (by decide +kernel) rfl ?_
  refine ev_invV 44 (Mc := mX12_refused) ⟨lk1540, lk80, hdX12_refused, (Nat.le_of_ble_eq_true rfl), (Nat.le_of_ble_eq_true rfl)⟩ lk1537 lk1539 lk38 mm_cl12 rfl dX12_decode_41 (ct_X12_refused hM) rfl (hM.1 0 _ rfl) (Nat.le_of_ble_eq_true rfl) rfl rfl ?_
  exact ev_iret dX12_decode_44 rfl (rfl)
end DR0
