/-! the model's decode: its heads -/
section MHD
variable {g : mm_G} {B : mm_B} {I I1 : mm_TI} {J J1 : mm_TJ} {P : mm_TP} {m : Nat}
/-- what the late loop leaves -/
def LTm (m c n : Nat) (s : Nat → Nat) (lt : Int32) (I I' : mm_TI) : Prop :=
  (∀ k, k < n → I' (m + 29) (250 * c + k) = I (m + 29) (250 * c + s k)) ∧ (∀ j, j < 250 * c ∨ 250 * c + 250 ≤ j → I' (m + 29) j = I (m + 29) j) ∧ (∀ k, k < n → I' (m + 30) (250 * c + k) = I (m + 30) (250 * c + s k)) ∧ (∀ j, j < 250 * c ∨ 250 * c + 250 ≤ j → I' (m + 30) j = I (m + 30) j) ∧ I' (m + 28) = va_up (I (m + 28)) c (nI n) ∧ I' (m + 39) = va_up (I (m + 39)) c lt ∧ (∀ q, q ≠ m + 28 → q ≠ m + 29 → q ≠ m + 30 → q ≠ m + 39 → I' q = I q)
theorem lx_X12_late {c L nx : Nat} {I0 : mm_TI} {lt : Int32} (hM : lyM B P m) (hc8 : c < 8) (hL : L ≤ 250) : ∀ (d : Nat) (q : Nat × (Nat → Nat)), d ≤ q.1 → sl_ok L q → ∀ I : mm_TI, LTm m c q.1 q.2 (lt + nI (L - q.1)) I0 I →
    ∃ I' : mm_TI, LTm m c (sp_rl (fun k => I0 (m + 29) (250 * c + k)) (nI nx) d q).1 (sp_rl (fun k => I0 (m + 29) (250 * c + k)) (nI nx) d q).2 (lt + nI (L - (sp_rl (fun k => I0 (m + 29) (250 * c + k)) (nI nx) d q).1)) I0 I' ∧
      ∀ Z : mm_Z, Ev g mX12_decode 115 [some (.ref m), some (.int (nI c)), some (.int (nI nx)), none, none, none, none, none] [] B I' J P Z → Ev g mX12_decode 66 [some (.ref m), some (.int (nI c)), some (.int (nI nx)), some (.int ((nI d - nI 1))), none, none, none, none] [] B I J P Z := by
  intro d
  induction d with
  | zero =>
    intro q hd hq I hI
    refine ⟨I, hI, fun Z e => ?_⟩
    refine ev_iload_n 67 dX12_decode_66 rfl rfl ?_
    refine ev_if_lt 70 115 dX12_decode_67 (by decide) rfl (fun hbr => ?_) (fun hx => absurd (nI_01) hx)
    refine ev_le (mle_s (mle_s (mle_s (mle_n (mle_n (mle_n (mle_n (mle_n (mle_0))))))))) ?_
    exact e
  | succ d ih =>
    intro q hd hq I hI
    obtain ⟨h1, h1', h2, h2', h3, h4, h5⟩ := hI
    have hq' := hq
    obtain ⟨hq1, hq2, hq3⟩ := hq'
    have hlab : I (m + 29) (250 * c + d) = I0 (m + 29) (250 * c + q.2 d) := h1 d (by omega)
    have e28 : I (m + 28) c = nI q.1 := by rw [h3, va_up_s]
    by_cases cc : ((I0 (m + 29) (250 * c + q.2 d) - nI nx) &&& nI 65535) < nI 32768
    · obtain ⟨I', r1, r2⟩ := ih q (by omega) hq I ⟨h1, h1', h2, h2', h3, h4, h5⟩
      have hr : sp_rl (fun k => I0 (m + 29) (250 * c + k)) (nI nx) (d + 1) q = sp_rl (fun k => I0 (m + 29) (250 * c + k)) (nI nx) d q := by show sp_rl _ _ d (if _ then _ else _) = _; rw [if_pos cc]
      rw [hr]
      refine ⟨I', r1, fun Z e => ?_⟩
      have e2 := r2 Z e
      rw [nI_s1]
      refine ev_iload_n 67 dX12_decode_66 rfl rfl ?_
      refine ev_if_ltN 70 115 dX12_decode_67 (by decide) (by omega) rfl (fun hx => absurd hx (not_false)) (fun hbr => ?_)
      refine ev_aload_n 71 dX12_decode_70 rfl rfl ?_
      refine ev_getP 74 mm_cl12 (j := 34) (Nat.le_of_ble_eq_true rfl) dX12_decode_71 lk1319 (fun _ _ _ => rfl) (hM.1 0 _ rfl) (a := (m + 29)) (hM.2.2 28 _ _ _ rfl) rfl ?_
      refine ev_sipushN 77 250 dX12_decode_74 (by decide +kernel) rfl ?_
      refine ev_iload_n 78 dX12_decode_77 rfl rfl ?_
      refine ev_imulN 79 dX12_decode_78 rfl ?_
      refine ev_iload_n 80 dX12_decode_79 rfl rfl ?_
      refine ev_iaddN 81 dX12_decode_80 rfl ?_
      refine ev_iald 82 _ dX12_decode_81 (hM.1 29 _ rfl) rfl (by have hNN := hM.2.1 29 _ rfl; omega) rfl ?_
      refine ev_eqI (y := (I0 (m + 29) (250 * c + q.2 d))) (hlab) ?_
      refine ev_iload_n 83 dX12_decode_82 rfl rfl ?_
      refine ev_isub 84 dX12_decode_83 rfl ?_
      refine ev_ldc 86 dX12_decode_84 lk1574 rfl ?_
      refine ev_eqI (y := nI 65535) (by decide +kernel) ?_
      refine ev_iand 87 dX12_decode_86 rfl ?_
      refine ev_ldc_w 90 dX12_decode_87 lk1785 rfl ?_
      refine ev_eqI (y := nI 32768) (by decide +kernel) ?_
      refine ev_icmp_lt 93 109 dX12_decode_90 (by decide) rfl (fun hbr => ?_) (fun hx => absurd (cc) hx)
      refine ev_iinc 112 (lv' := [_, _, some (.int _), _, _, _, _, _]) dX12_decode_109 rfl rfl (Nat.le_of_ble_eq_true rfl) rfl rfl ?_
      refine ev_goto 66 dX12_decode_112 (by decide) ?_
      rw [nI_m1]
      exact e2
    · obtain ⟨F', G', ⟨f1, f2⟩, ⟨g1, g2⟩, ct⟩ := cx_X12_take (g := g) (B := B) (I := I) (J := J) (P := P) (m := m) (c := c) (n := q.1) (i := d) hM hc8 (by omega) (by omega) e28
      generalize hI2 : va_up (va_up (va_up I (m + 29) F') (m + 30) G') (m + 28) (va_up (I (m + 28)) c (nI (q.1 - 1))) = I2 at ct
      have e39 : I2 (m + 39) = va_up (I0 (m + 39)) c (lt + nI (L - q.1)) := by rw [← hI2, va_up_n _ _ (by omega), va_up_n _ _ (by omega), va_up_n _ _ (by omega), h4]
      generalize hI3 : va_up I2 (m + 39) (va_up (I0 (m + 39)) c (lt + nI (L - (q.1 - 1)))) = I3
      have a3 : ∀ k, k ≠ m + 39 → I3 k = I2 k := fun k h => by rw [← hI3, va_up_n _ _ h]
      have hsk : ∀ k, k < q.1 - 1 → sk d k < q.1 := fun k hk => by unfold sk; split <;> omega
      obtain ⟨I', r1, r2⟩ := ih (q.1 - 1, fun k => q.2 (sk d k)) (by show d ≤ q.1 - 1; omega) (sl_sk hq (by omega)) I3 ⟨fun k hk => by
          have hk' : k < q.1 - 1 := hk
          rw [a3 _ (by omega), ← hI2, va_up_n _ _ (by omega), va_up_n _ _ (by omega), va_up_s, f1 k (by omega)]; exact h1 _ (hsk k hk'),
        fun j hj => by rw [a3 _ (by omega), ← hI2, va_up_n _ _ (by omega), va_up_n _ _ (by omega), va_up_s, f2 j hj]; exact h1' j hj,
        fun k hk => by
          have hk' : k < q.1 - 1 := hk
          rw [a3 _ (by omega), ← hI2, va_up_n _ _ (by omega), va_up_s, g1 k (by omega)]; exact h2 _ (hsk k hk'),
        fun j hj => by rw [a3 _ (by omega), ← hI2, va_up_n _ _ (by omega), va_up_s, g2 j hj]; exact h2' j hj,
        by rw [a3 _ (by omega), ← hI2, va_up_s, h3, bx_uu], by rw [← hI3, va_up_s],
        fun k k1 k2 k3 k4 => by rw [a3 k k4, ← hI2, va_up_n _ _ k1, va_up_n _ _ k3, va_up_n _ _ k2]; exact h5 k k1 k2 k3 k4⟩
      have hr : sp_rl (fun k => I0 (m + 29) (250 * c + k)) (nI nx) (d + 1) q = sp_rl (fun k => I0 (m + 29) (250 * c + k)) (nI nx) d (q.1 - 1, fun k => q.2 (sk d k)) := by show sp_rl _ _ d (if _ then _ else _) = _; rw [if_neg cc]
      rw [hr]
      refine ⟨I', r1, fun Z e => ?_⟩
      have e2 := r2 Z e
      rw [nI_s1]
      refine ev_iload_n 67 dX12_decode_66 rfl rfl ?_
      refine ev_if_ltN 70 115 dX12_decode_67 (by decide) (by omega) rfl (fun hx => absurd hx (not_false)) (fun hbr => ?_)
      refine ev_aload_n 71 dX12_decode_70 rfl rfl ?_
      refine ev_getP 74 mm_cl12 (j := 34) (Nat.le_of_ble_eq_true rfl) dX12_decode_71 lk1319 (fun _ _ _ => rfl) (hM.1 0 _ rfl) (a := (m + 29)) (hM.2.2 28 _ _ _ rfl) rfl ?_
      refine ev_sipushN 77 250 dX12_decode_74 (by decide +kernel) rfl ?_
      refine ev_iload_n 78 dX12_decode_77 rfl rfl ?_
      refine ev_imulN 79 dX12_decode_78 rfl ?_
      refine ev_iload_n 80 dX12_decode_79 rfl rfl ?_
      refine ev_iaddN 81 dX12_decode_80 rfl ?_
      refine ev_iald 82 _ dX12_decode_81 (hM.1 29 _ rfl) rfl (by have hNN := hM.2.1 29 _ rfl; omega) rfl ?_
      refine ev_eqI (y := (I0 (m + 29) (250 * c + q.2 d))) (hlab) ?_
      refine ev_iload_n 83 dX12_decode_82 rfl rfl ?_
      refine ev_isub 84 dX12_decode_83 rfl ?_
      refine ev_ldc 86 dX12_decode_84 lk1574 rfl ?_
      refine ev_eqI (y := nI 65535) (by decide +kernel) ?_
      refine ev_iand 87 dX12_decode_86 rfl ?_
      refine ev_ldc_w 90 dX12_decode_87 lk1785 rfl ?_
      refine ev_eqI (y := nI 32768) (by decide +kernel) ?_
      refine ev_icmp_lt 93 109 dX12_decode_90 (by decide) rfl (fun hx => absurd hx (cc)) (fun hbr => ?_)
      refine ev_aload_n 94 dX12_decode_93 rfl rfl ?_
      refine ev_iload_n 95 dX12_decode_94 rfl rfl ?_
      refine ev_iload_n 96 dX12_decode_95 rfl rfl ?_
      refine ev_invVv 99 (Mc := mX12_take) ⟨lk1764, lk80, hdX12_take, (Nat.le_of_ble_eq_true rfl), (Nat.le_of_ble_eq_true rfl)⟩ lk1761 lk1763 lk63 mm_cl12 rfl dX12_decode_96 (ct) rfl (hM.1 0 _ rfl) (Nat.le_of_ble_eq_true rfl) rfl rfl ?_
      refine ev_aload_n 100 dX12_decode_99 rfl rfl ?_
      refine ev_getP 103 mm_cl12 (j := 45) (Nat.le_of_ble_eq_true rfl) dX12_decode_100 lk1330 (fun _ _ _ => rfl) (hM.1 0 _ rfl) (a := (m + 39)) (hM.2.2 38 _ _ _ rfl) rfl ?_
      refine ev_iload_n 104 dX12_decode_103 rfl rfl ?_
      refine ev_dup2_11 105 dX12_decode_104 rfl rfl rfl ?_
      refine ev_iald 106 _ dX12_decode_105 (hM.1 39 _ rfl) rfl (by have hNN := hM.2.1 39 _ rfl; omega) rfl ?_
      refine ev_eqI (y := (lt + nI (L - q.1))) ((by rw [e39, va_up_s])) ?_
      refine ev_iconstN 107 1 dX12_decode_106 rfl ?_
      refine ev_iadd 108 dX12_decode_107 rfl ?_
      refine ev_iast 109 _ dX12_decode_108 (hM.1 39 _ rfl) rfl (by have hNN := hM.2.1 39 _ rfl; omega) rfl ?_
      rw [e39, bx_uu, Int32.add_assoc, nI_add, show L - q.1 + 1 = L - (q.1 - 1) by omega, hI3]
      refine ev_iinc 112 (lv' := [_, _, some (.int _), _, _, _, _, _]) dX12_decode_109 rfl rfl (Nat.le_of_ble_eq_true rfl) rfl rfl ?_
      refine ev_goto 66 dX12_decode_112 (by decide) ?_
      rw [nI_m1]
      exact e2
theorem lx_X12_h0 {n c L nx nu : Nat} {lt : Int32} (hM : lyM B P m) (hcn : I m 0 = nI n) (hn8 : n ≤ 8) (hc : c < n) (hL : L ≤ 250) (hs : I (m + 28) c = nI L) (r9 : I (m + 36) c = nI nx) (hnx : nx < 65536) (rn : I (m + 10) c = nI nu) (hnu : nu < 65536) (hgo : ¬ (L = 0 ∧ nx = nu)) (r16' : I (m + 39) c = lt) :
    ∃ I' : mm_TI, LTm m c (sp_rl (fun k => I (m + 29) (250 * c + k)) (nI nx) L (L, fun k => k)).1 (sp_rl (fun k => I (m + 29) (250 * c + k)) (nI nx) L (L, fun k => k)).2 (lt + nI (L - (sp_rl (fun k => I (m + 29) (250 * c + k)) (nI nx) L (L, fun k => k)).1)) (va_up I m (va_up (I m) 5 (nI 0))) I' ∧
      ∀ Z : mm_Z, Ev g mX12_decode 115 [some (.ref m), some (.int (nI c)), some (.int (nI nx)), none, none, none, none, none] [] B I' J P Z → Ct g mX12_decode [.ref m, .int (nI c)] B I J P Z := by
  have hc8 : c < 8 := by omega
  generalize hIa : va_up I m (va_up (I m) 5 (nI 0)) = Ia
  have aa : ∀ q, q ≠ m → Ia q = I q := fun q h => by rw [← hIa, va_up_n _ _ h]
  have h := lx_X12_late (g := g) (B := B) (J := J) (P := P) (m := m) (c := c) (L := L) (nx := nx) (I0 := Ia) (lt := lt) hM hc8 hL L (L, fun k => k) (Nat.le_refl _) (sl_id L) Ia ⟨fun k _ => rfl, fun _ _ => rfl, fun k _ => rfl, fun _ _ => rfl, by show Ia (m + 28) = va_up (Ia (m + 28)) c (nI L); rw [aa _ (by omega), ← hs, va_up_id], by show Ia (m + 39) = va_up (Ia (m + 39)) c (lt + nI (L - L)); rw [Nat.sub_self, nI_0, Int32.add_zero, aa _ (by omega), ← r16', va_up_id], fun _ _ _ _ _ => rfl⟩
  rw [aa (m + 29) (by omega)] at h
  obtain ⟨I', r1, r2⟩ := h
  refine ⟨I', r1, fun Z e => ?_⟩
  have e2 := r2 Z e
  have k45 : Ev g mX12_decode 45 [some (.ref m), some (.int (nI c)), none, none, none, none, none, none] [] B I J P Z := by
    refine ev_aload_n 46 dX12_decode_45 rfl rfl ?_
    refine ev_iconstN 47 0 dX12_decode_46 rfl ?_
    refine ev_putI 50 mm_cl12 (j := 5) (Nat.le_of_ble_eq_true rfl) dX12_decode_47 lk1290 rfl (fun _ _ _ => rfl) rfl rfl (hM.1 0 _ rfl) rfl ?_
    rw [hIa]
    refine ev_aload_n 51 dX12_decode_50 rfl rfl ?_
    refine ev_getP 54 mm_cl12 (j := 42) (Nat.le_of_ble_eq_true rfl) dX12_decode_51 lk1327 (fun _ _ _ => rfl) (hM.1 0 _ rfl) (a := (m + 36)) (hM.2.2 35 _ _ _ rfl) rfl ?_
    refine ev_iload_n 55 dX12_decode_54 rfl rfl ?_
    refine ev_iald 56 _ dX12_decode_55 (hM.1 36 _ rfl) rfl (by have hNN := hM.2.1 36 _ rfl; omega) rfl ?_
    refine ev_eqI (y := nI (nx)) ((by rw [aa _ (by omega)]; exact r9)) ?_
    refine ev_istore_n 57 (lv' := [_, some (.int _), _, _, _, _, _, _]) dX12_decode_56 (Nat.le_of_ble_eq_true rfl) rfl rfl ?_
    refine ev_aload_n 58 dX12_decode_57 rfl rfl ?_
    refine ev_getP 61 mm_cl12 (j := 33) (Nat.le_of_ble_eq_true rfl) dX12_decode_58 lk1318 (fun _ _ _ => rfl) (hM.1 0 _ rfl) (a := (m + 28)) (hM.2.2 27 _ _ _ rfl) rfl ?_
    refine ev_iload_n 62 dX12_decode_61 rfl rfl ?_
    refine ev_iald 63 _ dX12_decode_62 (hM.1 28 _ rfl) rfl (by have hNN := hM.2.1 28 _ rfl; omega) rfl ?_
    rw [aa (m + 28) (by omega), hs]
    refine ev_iconstN 64 1 dX12_decode_63 rfl ?_
    refine ev_isub 65 dX12_decode_64 rfl ?_
    refine ev_istore_n 66 (lv' := [_, _, some (.int _), _, _, _, _, _]) dX12_decode_65 (Nat.le_of_ble_eq_true rfl) rfl rfl ?_
    exact e2
  refine ct_of (lv := [some (.ref m), some (.int (nI c)), none, none, none, none, none, none]) (by decide +kernel) (Nat.le_of_ble_eq_true rfl) rfl ?_
  refine ev_aload_n 1 dX12_decode_0 rfl rfl ?_
  refine ev_iload_n 2 dX12_decode_1 rfl rfl ?_
  refine ev_invV 5 (Mc := mX12_isCoder) ⟨lk1552, lk80, hdX12_isCoder, (Nat.le_of_ble_eq_true rfl), (Nat.le_of_ble_eq_true rfl)⟩ lk1549 lk1551 lk40 mm_cl12 rfl dX12_decode_2 (ct_X12_isCoder_t hM hcn hn8 hc) rfl (hM.1 0 _ rfl) (Nat.le_of_ble_eq_true rfl) rfl rfl ?_
  refine ev_if_neN 8 14 dX12_decode_5 (by decide) (by omega) rfl (fun hbr => ?_) (fun hx => absurd hx ((by omega)))
  refine ev_aload_n 15 dX12_decode_14 rfl rfl ?_
  refine ev_getP 18 mm_cl12 (j := 33) (Nat.le_of_ble_eq_true rfl) dX12_decode_15 lk1318 (fun _ _ _ => rfl) (hM.1 0 _ rfl) (a := (m + 28)) (hM.2.2 27 _ _ _ rfl) rfl ?_
  refine ev_iload_n 19 dX12_decode_18 rfl rfl ?_
  refine ev_iald 20 _ dX12_decode_19 (hM.1 28 _ rfl) rfl (by have hNN := hM.2.1 28 _ rfl; omega) rfl ?_
  refine ev_eqI (y := nI (L)) (hs) ?_
  by_cases cz : L = 0
  · refine ev_if_neN 23 45 dX12_decode_20 (by decide) (by omega) rfl (fun hx => absurd ((by omega)) hx) (fun hbr => ?_)
    refine ev_aload_n 24 dX12_decode_23 rfl rfl ?_
    refine ev_getP 27 mm_cl12 (j := 42) (Nat.le_of_ble_eq_true rfl) dX12_decode_24 lk1327 (fun _ _ _ => rfl) (hM.1 0 _ rfl) (a := (m + 36)) (hM.2.2 35 _ _ _ rfl) rfl ?_
    refine ev_iload_n 28 dX12_decode_27 rfl rfl ?_
    refine ev_iald 29 _ dX12_decode_28 (hM.1 36 _ rfl) rfl (by have hNN := hM.2.1 36 _ rfl; omega) rfl ?_
    refine ev_eqI (y := nI (nx)) (r9) ?_
    refine ev_aload_n 30 dX12_decode_29 rfl rfl ?_
    refine ev_getP 33 mm_cl12 (j := 15) (Nat.le_of_ble_eq_true rfl) dX12_decode_30 lk1300 (fun _ _ _ => rfl) (hM.1 0 _ rfl) (a := (m + 10)) (hM.2.2 9 _ _ _ rfl) rfl ?_
    refine ev_iload_n 34 dX12_decode_33 rfl rfl ?_
    refine ev_iald 35 _ dX12_decode_34 (hM.1 10 _ rfl) rfl (by have hNN := hM.2.1 10 _ rfl; omega) rfl ?_
    refine ev_eqI (y := nI (nu)) (rn) ?_
    refine ev_icmp_neN 38 45 dX12_decode_35 (by decide) (by omega) (by omega) rfl (fun hbr => ?_) (fun hx => absurd hx ((by omega)))
    exact k45
  · refine ev_if_neN 23 45 dX12_decode_20 (by decide) (by omega) rfl (fun hbr => ?_) (fun hx => absurd hx ((by omega)))
    exact k45
theorem lx_X12_h1 {c n nx : Nat} {lab : Nat → Int32} {Z : mm_Z} (hM : lyM B P m) (hc8 : c < 8) (hn : n ≤ 250) (hs : I (m + 28) c = nI n) (hl : ∀ k, k < n → I (m + 29) (250 * c + k) = lab k) (hr : ∀ k, k < n → lab k ≠ nI nx)
    (K : Ev g mX12_decode 176 [some (.ref m), some (.int (nI c)), some (.int (nI nx)), some (.int (nI 7)), some (.int (-1)), none, none, none] [] B (va_up I (m + 1) (va_up (I (m + 1)) 7 (I (m + 1) 7 + nI 1))) J P Z) : Ev g mX12_decode 115 [some (.ref m), some (.int (nI c)), some (.int (nI nx)), none, none, none, none, none] [] B I J P Z := by
  have fw := ct_X12_firstWith (g := g) (B := B) (I := I) (J := J) (P := P) (m := m) (v := nI nx) (r := -1) hM hc8 hn hs hl (Or.inl ⟨rfl, hr⟩)
  refine ev_bipushN 117 7 dX12_decode_115 (by decide +kernel) rfl ?_
  refine ev_istore_n 118 (lv' := [_, _, some (.int _), _, _, _, _, _]) dX12_decode_117 (Nat.le_of_ble_eq_true rfl) rfl rfl ?_
  refine ev_aload_n 119 dX12_decode_118 rfl rfl ?_
  refine ev_iload_n 120 dX12_decode_119 rfl rfl ?_
  refine ev_iload_n 121 dX12_decode_120 rfl rfl ?_
  refine ev_invV 124 (Mc := mX12_firstWith) ⟨lk1789, lk80, hdX12_firstWith, (Nat.le_of_ble_eq_true rfl), (Nat.le_of_ble_eq_true rfl)⟩ lk1786 lk1788 lk64 mm_cl12 rfl dX12_decode_121 (fw) rfl (hM.1 0 _ rfl) (Nat.le_of_ble_eq_true rfl) rfl rfl ?_
  refine ev_istore 126 (lv' := [_, _, _, some (.int _), _, _, _, _]) dX12_decode_124 (Nat.le_of_ble_eq_true rfl) rfl rfl ?_
  refine ev_iload 128 dX12_decode_126 rfl rfl ?_
  refine ev_if_lt 131 165 dX12_decode_128 (by decide) rfl (fun hbr => ?_) (fun hx => absurd ((by decide)) hx)
  refine ev_aload_n 166 dX12_decode_165 rfl rfl ?_
  refine ev_getP 169 mm_cl12 (j := 3) (Nat.le_of_ble_eq_true rfl) dX12_decode_166 lk1288 (fun _ _ _ => rfl) (hM.1 0 _ rfl) (a := (m + 1)) (hM.2.2 0 _ _ _ rfl) rfl ?_
  refine ev_bipushN 171 7 dX12_decode_169 (by decide +kernel) rfl ?_
  refine ev_dup2_11 172 dX12_decode_171 rfl rfl rfl ?_
  refine ev_iald 173 _ dX12_decode_172 (hM.1 1 _ rfl) rfl (by have hNN := hM.2.1 1 _ rfl; omega) rfl ?_
  refine ev_iconstN 174 1 dX12_decode_173 rfl ?_
  refine ev_iadd 175 dX12_decode_174 rfl ?_
  refine ev_iast 176 _ dX12_decode_175 (hM.1 1 _ rfl) rfl (by have hNN := hM.2.1 1 _ rfl; omega) rfl ?_
  exact K
theorem lx_X12_h2 {c n nx i w : Nat} {lab : Nat → Int32} (hM : lyM B P m) (hc8 : c < 8) (hn : n ≤ 250) (hs : I (m + 28) c = nI n) (hl : ∀ k, k < n → I (m + 29) (250 * c + k) = lab k) (hi : i < n) (h1 : lab i = nI nx) (h2 : ∀ k, k < i → lab k ≠ nI nx) :
    ∃ F' G' : Nat → Int32, ((∀ k, k + 1 < n → F' (250 * c + k) = I (m + 29) (250 * c + sk i k)) ∧ (∀ k, k < 250 * c ∨ 250 * c + 250 ≤ k → F' k = I (m + 29) k)) ∧ ((∀ k, k + 1 < n → G' (250 * c + k) = I (m + 30) (250 * c + sk i k)) ∧ (∀ k, k < 250 * c ∨ 250 * c + 250 ≤ k → G' k = I (m + 30) k)) ∧
      ∀ (Z : mm_Z) (I2 : mm_TI), Ct g mX12_open [.ref m, .int (I (m + 30) (250 * c + i) - nI 1)] B (va_up (va_up (va_up I (m + 29) F') (m + 30) G') (m + 28) (va_up (I (m + 28)) c (nI (n - 1)))) J P (some (.int (nI w)), B, I2, J, P) → Ev g mX12_decode 176 [some (.ref m), some (.int (nI c)), some (.int (nI nx)), some (.int (nI w)), some (.int (nI i)), none, none, none] [] B I2 J P Z → Ev g mX12_decode 115 [some (.ref m), some (.int (nI c)), some (.int (nI nx)), none, none, none, none, none] [] B I J P Z := by
  have fw := ct_X12_firstWith (g := g) (B := B) (I := I) (J := J) (P := P) (m := m) (v := nI nx) (r := nI i) hM hc8 hn hs hl (Or.inr ⟨i, hi, rfl, h1, h2⟩)
  obtain ⟨F', G', f, g', ct⟩ := cx_X12_take (g := g) (B := B) (I := I) (J := J) (P := P) (m := m) (c := c) (n := n) (i := i) hM hc8 hn hi hs
  refine ⟨F', G', f, g', fun Z I2 ho K => ?_⟩
  refine ev_bipushN 117 7 dX12_decode_115 (by decide +kernel) rfl ?_
  refine ev_istore_n 118 (lv' := [_, _, some (.int _), _, _, _, _, _]) dX12_decode_117 (Nat.le_of_ble_eq_true rfl) rfl rfl ?_
  refine ev_aload_n 119 dX12_decode_118 rfl rfl ?_
  refine ev_iload_n 120 dX12_decode_119 rfl rfl ?_
  refine ev_iload_n 121 dX12_decode_120 rfl rfl ?_
  refine ev_invV 124 (Mc := mX12_firstWith) ⟨lk1789, lk80, hdX12_firstWith, (Nat.le_of_ble_eq_true rfl), (Nat.le_of_ble_eq_true rfl)⟩ lk1786 lk1788 lk64 mm_cl12 rfl dX12_decode_121 (fw) rfl (hM.1 0 _ rfl) (Nat.le_of_ble_eq_true rfl) rfl rfl ?_
  refine ev_istore 126 (lv' := [_, _, _, some (.int _), _, _, _, _]) dX12_decode_124 (Nat.le_of_ble_eq_true rfl) rfl rfl ?_
  refine ev_iload 128 dX12_decode_126 rfl rfl ?_
  refine ev_if_ltN 131 165 dX12_decode_128 (by decide) (by omega) rfl (fun hx => absurd hx (not_false)) (fun hbr => ?_)
  refine ev_aload_n 132 dX12_decode_131 rfl rfl ?_
  refine ev_getP 135 mm_cl12 (j := 35) (Nat.le_of_ble_eq_true rfl) dX12_decode_132 lk1320 (fun _ _ _ => rfl) (hM.1 0 _ rfl) (a := (m + 30)) (hM.2.2 29 _ _ _ rfl) rfl ?_
  refine ev_sipushN 138 250 dX12_decode_135 (by decide +kernel) rfl ?_
  refine ev_iload_n 139 dX12_decode_138 rfl rfl ?_
  refine ev_imulN 140 dX12_decode_139 rfl ?_
  refine ev_iload 142 dX12_decode_140 rfl rfl ?_
  refine ev_iaddN 143 dX12_decode_142 rfl ?_
  refine ev_iald 144 _ dX12_decode_143 (hM.1 30 _ rfl) rfl (by have hNN := hM.2.1 30 _ rfl; omega) rfl ?_
  refine ev_iconstN 145 1 dX12_decode_144 rfl ?_
  refine ev_isub 146 dX12_decode_145 rfl ?_
  refine ev_istore 148 (lv' := [_, _, _, _, some (.int _), _, _, _]) dX12_decode_146 (Nat.le_of_ble_eq_true rfl) rfl rfl ?_
  refine ev_aload_n 149 dX12_decode_148 rfl rfl ?_
  refine ev_iload_n 150 dX12_decode_149 rfl rfl ?_
  refine ev_iload 152 dX12_decode_150 rfl rfl ?_
  refine ev_invVv 155 (Mc := mX12_take) ⟨lk1764, lk80, hdX12_take, (Nat.le_of_ble_eq_true rfl), (Nat.le_of_ble_eq_true rfl)⟩ lk1761 lk1763 lk63 mm_cl12 rfl dX12_decode_152 (ct) rfl (hM.1 0 _ rfl) (Nat.le_of_ble_eq_true rfl) rfl rfl ?_
  refine ev_aload_n 156 dX12_decode_155 rfl rfl ?_
  refine ev_iload 158 dX12_decode_156 rfl rfl ?_
  refine ev_invV 161 (Mc := mX12_open) ⟨lk1793, lk80, hdX12_open, (Nat.le_of_ble_eq_true rfl), (Nat.le_of_ble_eq_true rfl)⟩ lk1790 lk1792 lk65 mm_cl12 rfl dX12_decode_158 (ho) rfl (hM.1 0 _ rfl) (Nat.le_of_ble_eq_true rfl) rfl rfl ?_
  refine ev_istore_n 162 (lv' := [_, _, some (.int _), _, _, _, _, _]) dX12_decode_161 (Nat.le_of_ble_eq_true rfl) rfl rfl ?_
  refine ev_goto 176 dX12_decode_162 (by decide) ?_
  refine ev_le (mle_s (mle_s (mle_s (mle_s (mle_s (mle_n (mle_n (mle_n (mle_0))))))))) ?_
  exact K
/-- played -/
theorem lx_X12_b1 {c nx r rn : Nat} {v : Int32} {Z : mm_Z} (hM : lyM B P m) (hc8 : c < 8) (hr : r < 2 ^ 31) (r14 : I (m + 37) c = nI r) (hrn : rn = if 0 < r then 1 else 0)
    (hd : Ct g mX12_play [.ref m, .int (nI c), .int (nI nx)] B (va_up I (m + 42) (va_up (I (m + 42)) c (nI 0))) J P (none, B, I1, J1, P))
    (K : Ev g mX12_decode 253 [some (.ref m), some (.int (nI c)), some (.int (nI nx)), some (.int (nI 0)), some (.int v), some (.int (nI rn)), none, none] [] B (va_up I1 (m + 37) (va_up (I1 (m + 37)) c (nI 0))) J1 P Z) : Ev g mX12_decode 176 [some (.ref m), some (.int (nI c)), some (.int (nI nx)), some (.int (nI 0)), some (.int v), none, none, none] [] B I J P Z := by
  have k197 : Ev g mX12_decode 197 [some (.ref m), some (.int (nI c)), some (.int (nI nx)), some (.int (nI 0)), some (.int v), none, none, none] [.int (nI rn)] B (va_up I (m + 42) (va_up (I (m + 42)) c (nI 0))) J P Z := by
    refine ev_istore 199 (lv' := [_, _, _, _, some (.int _), _, _, _]) dX12_decode_197 (Nat.le_of_ble_eq_true rfl) rfl rfl ?_
    refine ev_iload_n 200 dX12_decode_199 rfl rfl ?_
    refine ev_if_leN 203 240 dX12_decode_200 (by decide) (by omega) rfl (fun hbr => ?_) (fun hx => absurd ((by omega)) hx)
    refine ev_aload_n 241 dX12_decode_240 rfl rfl ?_
    refine ev_iload_n 242 dX12_decode_241 rfl rfl ?_
    refine ev_iload_n 243 dX12_decode_242 rfl rfl ?_
    refine ev_invVv 246 (Mc := mX12_play) ⟨lk1813, lk80, hdX12_play, (Nat.le_of_ble_eq_true rfl), (Nat.le_of_ble_eq_true rfl)⟩ lk1810 lk1812 lk70 mm_cl12 rfl dX12_decode_243 (hd) rfl (hM.1 0 _ rfl) (Nat.le_of_ble_eq_true rfl) rfl rfl ?_
    refine ev_aload_n 247 dX12_decode_246 rfl rfl ?_
    refine ev_getP 250 mm_cl12 (j := 43) (Nat.le_of_ble_eq_true rfl) dX12_decode_247 lk1328 (fun _ _ _ => rfl) (hM.1 0 _ rfl) (a := (m + 37)) (hM.2.2 36 _ _ _ rfl) rfl ?_
    refine ev_iload_n 251 dX12_decode_250 rfl rfl ?_
    refine ev_iconstN 252 0 dX12_decode_251 rfl ?_
    refine ev_iast 253 _ dX12_decode_252 (hM.1 37 _ rfl) rfl (by have hNN := hM.2.1 37 _ rfl; omega) rfl ?_
    exact K
  refine ev_aload_n 177 dX12_decode_176 rfl rfl ?_
  refine ev_getP 180 mm_cl12 (j := 48) (Nat.le_of_ble_eq_true rfl) dX12_decode_177 lk1333 (fun _ _ _ => rfl) (hM.1 0 _ rfl) (a := (m + 42)) (hM.2.2 41 _ _ _ rfl) rfl ?_
  refine ev_iload_n 181 dX12_decode_180 rfl rfl ?_
  refine ev_iload_n 182 dX12_decode_181 rfl rfl ?_
  refine ev_iast 183 _ dX12_decode_182 (hM.1 42 _ rfl) rfl (by have hNN := hM.2.1 42 _ rfl; omega) rfl ?_
  refine ev_aload_n 184 dX12_decode_183 rfl rfl ?_
  refine ev_getP 187 mm_cl12 (j := 43) (Nat.le_of_ble_eq_true rfl) dX12_decode_184 lk1328 (fun _ _ _ => rfl) (hM.1 0 _ rfl) (a := (m + 37)) (hM.2.2 36 _ _ _ rfl) rfl ?_
  refine ev_iload_n 188 dX12_decode_187 rfl rfl ?_
  refine ev_iald 189 _ dX12_decode_188 (hM.1 37 _ rfl) rfl (by have hNN := hM.2.1 37 _ rfl; omega) rfl ?_
  refine ev_eqI (y := nI (r)) ((by rw [va_up_n _ _ (by omega)]; exact r14)) ?_
  by_cases cz : r = 0
  · rw [if_neg (by omega)] at hrn
    subst hrn
    refine ev_if_leN 192 196 dX12_decode_189 (by decide) (by omega) rfl (fun hbr => ?_) (fun hx => absurd ((by omega)) hx)
    refine ev_iconstN 197 0 dX12_decode_196 rfl ?_
    exact k197
  · rw [if_pos (by omega)] at hrn
    subst hrn
    refine ev_if_leN 192 196 dX12_decode_189 (by decide) (by omega) rfl (fun hx => absurd hx ((by omega))) (fun hbr => ?_)
    refine ev_iconstN 193 1 dX12_decode_192 rfl ?_
    refine ev_goto 197 dX12_decode_193 (by decide) ?_
    exact k197
/-- repaired -/
theorem lx_X12_b2 {c nx r rn w t : Nat} {v rr rp : Int32} {Z : mm_Z} (hM : lyM B P m) (hc8 : c < 8) (hw : 1 ≤ w ∧ w ≤ 7) (hr : r < 2 ^ 31) (r14 : I (m + 37) c = nI r) (hrn : rn = if 0 < r then 1 else 0) (ht : I m 5 = nI t) (h64 : t < 64)
    (hd : Ct g mX12_repair0 [.ref m, .int (nI c), .int (nI nx)] B (va_up (va_up (va_up I (m + 42) (va_up (I (m + 42)) c (nI w))) (m + 2) (va_up (I (m + 2)) t (nI (30 + w)))) m (va_up (I m) 5 (nI (t + 1)))) J P (none, B, I1, J1, P)) (q14 : I1 (m + 37) c = rr) (q40 : I1 (m + 40) c = rp)
    (K : Ev g mX12_decode 253 [some (.ref m), some (.int (nI c)), some (.int (nI nx)), some (.int (nI w)), some (.int v), some (.int (nI rn)), none, none] [] B (va_up (va_up I1 (m + 37) (va_up (I1 (m + 37)) c (rr + nI 1))) (m + 40) (va_up (I1 (m + 40)) c (rp + nI 1))) J1 P Z) : Ev g mX12_decode 176 [some (.ref m), some (.int (nI c)), some (.int (nI nx)), some (.int (nI w)), some (.int v), none, none, none] [] B I J P Z := by
  generalize hIa : va_up I (m + 42) (va_up (I (m + 42)) c (nI w)) = Ia at hd
  have aa : ∀ q, q ≠ m + 42 → Ia q = I q := fun q h => by rw [← hIa, va_up_n _ _ h]
  have mk := ct_X12_tell (g := g) (B := B) (I := Ia) (J := J) (P := P) (m := m) (a := nI (30 + w)) (t := t) hM (by rw [aa _ (by omega)]; exact ht) h64
  rw [aa (m + 2) (by omega), aa m (by omega)] at mk
  have k197 : Ev g mX12_decode 197 [some (.ref m), some (.int (nI c)), some (.int (nI nx)), some (.int (nI w)), some (.int v), none, none, none] [.int (nI rn)] B Ia J P Z := by
    refine ev_istore 199 (lv' := [_, _, _, _, some (.int _), _, _, _]) dX12_decode_197 (Nat.le_of_ble_eq_true rfl) rfl rfl ?_
    refine ev_iload_n 200 dX12_decode_199 rfl rfl ?_
    refine ev_if_leN 203 240 dX12_decode_200 (by decide) (by omega) rfl (fun hx => absurd hx ((by omega))) (fun hbr => ?_)
    refine ev_aload_n 204 dX12_decode_203 rfl rfl ?_
    refine ev_bipushN 206 30 dX12_decode_204 (by decide +kernel) rfl ?_
    refine ev_iload_n 207 dX12_decode_206 rfl rfl ?_
    refine ev_iaddN 208 dX12_decode_207 rfl ?_
    refine ev_invVv 211 (Mc := mX12_tell) ⟨lk1599, lk80, hdX12_tell, (Nat.le_of_ble_eq_true rfl), (Nat.le_of_ble_eq_true rfl)⟩ lk1596 lk1598 lk41 mm_cl12 rfl dX12_decode_208 (mk) rfl (hM.1 0 _ rfl) (Nat.le_of_ble_eq_true rfl) rfl rfl ?_
    refine ev_aload_n 212 dX12_decode_211 rfl rfl ?_
    refine ev_iload_n 213 dX12_decode_212 rfl rfl ?_
    refine ev_iload_n 214 dX12_decode_213 rfl rfl ?_
    refine ev_invVv 217 (Mc := mX12_repair0) ⟨lk1805, lk80, hdX12_repair0, (Nat.le_of_ble_eq_true rfl), (Nat.le_of_ble_eq_true rfl)⟩ lk1802 lk1804 lk68 mm_cl12 rfl dX12_decode_214 (hd) rfl (hM.1 0 _ rfl) (Nat.le_of_ble_eq_true rfl) rfl rfl ?_
    refine ev_aload_n 218 dX12_decode_217 rfl rfl ?_
    refine ev_getP 221 mm_cl12 (j := 43) (Nat.le_of_ble_eq_true rfl) dX12_decode_218 lk1328 (fun _ _ _ => rfl) (hM.1 0 _ rfl) (a := (m + 37)) (hM.2.2 36 _ _ _ rfl) rfl ?_
    refine ev_iload_n 222 dX12_decode_221 rfl rfl ?_
    refine ev_dup2_11 223 dX12_decode_222 rfl rfl rfl ?_
    refine ev_iald 224 _ dX12_decode_223 (hM.1 37 _ rfl) rfl (by have hNN := hM.2.1 37 _ rfl; omega) rfl ?_
    refine ev_eqI (y := (rr)) (q14) ?_
    refine ev_iconstN 225 1 dX12_decode_224 rfl ?_
    refine ev_iadd 226 dX12_decode_225 rfl ?_
    refine ev_iast 227 _ dX12_decode_226 (hM.1 37 _ rfl) rfl (by have hNN := hM.2.1 37 _ rfl; omega) rfl ?_
    refine ev_aload_n 228 dX12_decode_227 rfl rfl ?_
    refine ev_getP 231 mm_cl12 (j := 46) (Nat.le_of_ble_eq_true rfl) dX12_decode_228 lk1331 (fun _ _ _ => rfl) (hM.1 0 _ rfl) (a := (m + 40)) (hM.2.2 39 _ _ _ rfl) rfl ?_
    refine ev_iload_n 232 dX12_decode_231 rfl rfl ?_
    refine ev_dup2_11 233 dX12_decode_232 rfl rfl rfl ?_
    refine ev_iald 234 _ dX12_decode_233 (hM.1 40 _ rfl) rfl (by have hNN := hM.2.1 40 _ rfl; omega) rfl ?_
    refine ev_eqI (y := (rp)) ((by rw [va_up_n _ _ (by omega)]; exact q40)) ?_
    refine ev_iconstN 235 1 dX12_decode_234 rfl ?_
    refine ev_iadd 236 dX12_decode_235 rfl ?_
    refine ev_iast 237 _ dX12_decode_236 (hM.1 40 _ rfl) rfl (by have hNN := hM.2.1 40 _ rfl; omega) rfl ?_
    refine ev_goto 253 dX12_decode_237 (by decide) ?_
    rw [va_up_n _ _ (show m + 40 ≠ m + 37 by omega)]
    exact K
  refine ev_aload_n 177 dX12_decode_176 rfl rfl ?_
  refine ev_getP 180 mm_cl12 (j := 48) (Nat.le_of_ble_eq_true rfl) dX12_decode_177 lk1333 (fun _ _ _ => rfl) (hM.1 0 _ rfl) (a := (m + 42)) (hM.2.2 41 _ _ _ rfl) rfl ?_
  refine ev_iload_n 181 dX12_decode_180 rfl rfl ?_
  refine ev_iload_n 182 dX12_decode_181 rfl rfl ?_
  refine ev_iast 183 _ dX12_decode_182 (hM.1 42 _ rfl) rfl (by have hNN := hM.2.1 42 _ rfl; omega) rfl ?_
  rw [hIa]
  refine ev_aload_n 184 dX12_decode_183 rfl rfl ?_
  refine ev_getP 187 mm_cl12 (j := 43) (Nat.le_of_ble_eq_true rfl) dX12_decode_184 lk1328 (fun _ _ _ => rfl) (hM.1 0 _ rfl) (a := (m + 37)) (hM.2.2 36 _ _ _ rfl) rfl ?_
  refine ev_iload_n 188 dX12_decode_187 rfl rfl ?_
  refine ev_iald 189 _ dX12_decode_188 (hM.1 37 _ rfl) rfl (by have hNN := hM.2.1 37 _ rfl; omega) rfl ?_
  refine ev_eqI (y := nI (r)) ((by rw [aa _ (by omega)]; exact r14)) ?_
  by_cases cz : r = 0
  · rw [if_neg (by omega)] at hrn
    subst hrn
    refine ev_if_leN 192 196 dX12_decode_189 (by decide) (by omega) rfl (fun hbr => ?_) (fun hx => absurd ((by omega)) hx)
    refine ev_iconstN 197 0 dX12_decode_196 rfl ?_
    exact k197
  · rw [if_pos (by omega)] at hrn
    subst hrn
    refine ev_if_leN 192 196 dX12_decode_189 (by decide) (by omega) rfl (fun hx => absurd hx ((by omega))) (fun hbr => ?_)
    refine ev_iconstN 193 1 dX12_decode_192 rfl ?_
    refine ev_goto 197 dX12_decode_193 (by decide) ?_
    exact k197
end MHD
