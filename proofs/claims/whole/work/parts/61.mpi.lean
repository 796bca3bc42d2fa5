/-- p = 0 at a lag -/
def sp_t0 (L : Nat) (s : Int64 × Int32 × Int32) : Int64 × Int32 × Int32 := if 0 < s.1 then (0, nI L, nI 0) else s
/-- d lags from L on, those outside left out -/
def sp_l2 (H R : Nat → Int32) (sb : Nat) : Nat → Nat → Int64 × Int32 × Int32 → Int64 × Int32 × Int32
  | 0, _, s => s
  | d + 1, L, s => sp_l2 H R sb d (L + 1) (if 20 ≤ L ∧ L ≤ 147 then sp_tp (sp_gc (sp_beh H L) R sb) L (sp_t0 L s) 7 else s)
theorem sp_T_np {H R : Nat → Int32} {sb f st L0 k : Nat} : ¬ 0 < (sp_tls H R sb f st (0, nI L0, nI 0) k).1 := by
  rcases sp_tls_2 (H := H) (R := R) (sb := sb) (f := f) (st := st) (L0 := L0) (s := (0, nI L0, nI 0)) (s' := sp_p0) (Or.inl ⟨rfl, rfl⟩) k with h | h
  · rw [h.1]; exact (by decide +kernel : ¬ (0 : Int64) < 0)
  · intro z
    have h2 := h.2
    rw [Int64.lt_iff_toInt_lt] at z h2
    omega
theorem sp_l2_T {H R : Nat → Int32} {sb lo M : Nat} (hlo : 20 ≤ lo) (hl : lo ≤ 147) (hlM : lo ≤ M + 3) : ∀ (d k : Nat), lo + k + d = M + 4 → sp_l2 H R sb d (lo + k) (sp_tls H R sb lo 1 (0, nI lo, nI 0) (min k (min 147 (M + 3) + 1 - lo))) = sp_tls H R sb lo 1 (0, nI lo, nI 0) (min 147 (M + 3) + 1 - lo) := by
  intro d
  induction d with
  | zero =>
    intro k hk
    rw [show min k (min 147 (M + 3) + 1 - lo) = min 147 (M + 3) + 1 - lo by omega]
    rfl
  | succ d ih =>
    intro k hk
    rw [sp_l2]
    by_cases c : lo + k ≤ 147
    · rw [if_pos ⟨by omega, c⟩, show min k (min 147 (M + 3) + 1 - lo) = k by omega]
      have e := ih (k + 1) (by omega)
      rw [show min (k + 1) (min 147 (M + 3) + 1 - lo) = k + 1 by omega] at e
      rw [show sp_t0 (lo + k) (sp_tls H R sb lo 1 (0, nI lo, nI 0) k) = sp_tls H R sb lo 1 (0, nI lo, nI 0) k by unfold sp_t0; rw [if_neg sp_T_np]]
      rw [show sp_tls H R sb lo 1 (0, nI lo, nI 0) (k + 1) = sp_tp (sp_gc (sp_beh H (lo + 1 * k)) R sb) (lo + 1 * k) (sp_tls H R sb lo 1 (0, nI lo, nI 0) k) 7 from rfl, Nat.one_mul] at e
      exact e
    · rw [if_neg (fun z => c z.2)]
      have e := ih (k + 1) (by omega)
      rw [show min (k + 1) (min 147 (M + 3) + 1 - lo) = min k (min 147 (M + 3) + 1 - lo) by omega] at e
      exact e
theorem sp_l2_lo {H R : Nat → Int32} {sb M d : Nat} {s : Int64 × Int32 × Int32} (hs : 0 < s.1) (hlo : 20 ≤ M) (hM : M ≤ 147) (hd : max 20 (M - 3) + 1 + d = M + 4) : sp_l2 H R sb (d + 1) (max 20 (M - 3)) s = sp_tls H R sb (max 20 (M - 3)) 1 (0, nI (max 20 (M - 3)), nI 0) (min 147 (M + 3) + 1 - max 20 (M - 3)) := by
  have e := sp_l2_T (H := H) (R := R) (sb := sb) (lo := max 20 (M - 3)) (M := M) (by omega) (by omega) (by omega) d 1 (by omega)
  generalize hl : max 20 (M - 3) = lo at e ⊢
  rw [show min 1 (min 147 (M + 3) + 1 - lo) = 1 by omega] at e
  rw [sp_l2, if_pos ⟨by omega, by omega⟩]
  rw [show sp_t0 lo s = (0, nI lo, nI 0) by unfold sp_t0; rw [if_pos hs]]
  rw [← e, show sp_tls H R sb lo 1 (0, nI lo, nI 0) 1 = sp_tp (sp_gc (sp_beh H (lo + 1 * 0)) R sb) (lo + 1 * 0) (0, nI lo, nI 0) 7 from rfl, Nat.mul_zero]
  rfl
theorem sp_l2_sk {H R : Nat → Int32} {sb d L : Nat} {s : Int64 × Int32 × Int32} (h : L < 20) : sp_l2 H R sb (d + 1) L s = sp_l2 H R sb d (L + 1) s := by
  rw [sp_l2, if_neg (by omega)]
theorem sp_l2_e {H R : Nat → Int32} {sb M : Nat} {s : Int64 × Int32 × Int32} (hs : 0 < s.1) (hlo : 20 ≤ M) (hM : M ≤ 147) : sp_l2 H R sb 7 (M - 3) s = sp_tls H R sb (max 20 (M - 3)) 1 (0, nI (max 20 (M - 3)), nI 0) (min 147 (M + 3) + 1 - max 20 (M - 3)) := by
  by_cases c : 23 ≤ M
  · have e := sp_l2_lo (H := H) (R := R) (sb := sb) (d := 6) hs hlo hM (by omega)
    rw [show max 20 (M - 3) = M - 3 by omega] at e ⊢
    exact e
  · by_cases c1 : M = 22
    · subst c1
      show sp_l2 H R sb (6 + 1) 19 s = _
      rw [sp_l2_sk (by omega)]
      exact sp_l2_lo (M := 22) (d := 5) hs (by omega) (by omega) (by omega)
    · by_cases c2 : M = 21
      · subst c2
        show sp_l2 H R sb (6 + 1) 18 s = _
        rw [sp_l2_sk (by omega), sp_l2_sk (by omega)]
        exact sp_l2_lo (M := 21) (d := 4) hs (by omega) (by omega) (by omega)
      · obtain rfl : M = 20 := by omega
        show sp_l2 H R sb (6 + 1) 17 s = _
        rw [sp_l2_sk (by omega), sp_l2_sk (by omega), sp_l2_sk (by omega)]
        exact sp_l2_lo (M := 20) (d := 3) hs (by omega) (by omega) (by omega)
section MOT
variable {g : mm_G} {B : mm_B} {I : mm_TI} {J : mm_TJ} {P : mm_TP} {m : Nat}
theorem lp_X12_tryLag1 {c pt sb L : Nat} {H R : Nat → Int32} {Z : mm_Z} (hM : lyM B P m) (hc8 : c < 8) (hp4 : pt < 4) (hb : sb ≤ 80) (hL : 20 ≤ L) (hL2 : L ≤ 147) (hsp : sb * pt + sb ≤ 320) (hH : ∀ n, n < 160 → I (m + 27) (160 * (4 * c + pt) + n) = H n) (hR : ∀ n, n < sb → I (m + 26) (320 * c + sb * pt + n) = R n)
    (e : Ev g mX12_tryLag 87 [some (.ref m), some (.int (nI c)), some (.int (nI pt)), some (.int (nI sb)), some (.int (nI L)), some (.long ((sp_gc (sp_beh H L) R sb).1)), none, some (.long ((sp_gc (sp_beh H L) R sb).2)), none, none, none, none] [] B I J P Z) : ∀ (d n : Nat), n + d = sb →
    Ev g mX12_tryLag 9 [some (.ref m), some (.int (nI c)), some (.int (nI pt)), some (.int (nI sb)), some (.int (nI L)), some (.long ((sp_gc (sp_beh H L) R n).1)), none, some (.long ((sp_gc (sp_beh H L) R n).2)), none, some (.int (nI n)), none, none] [] B I J P Z := by
  intro d
  induction d with
  | zero =>
    intro n hn
    obtain rfl : n = sb := by omega
    refine ev_iload 11 dX12_tryLag_9 rfl rfl ?_
    refine ev_iload_n 12 dX12_tryLag_11 rfl rfl ?_
    refine ev_icmp_geN 15 87 dX12_tryLag_12 (by decide) (by omega) (by omega) rfl (fun hbr => ?_) (fun hx => absurd ((by omega)) hx)
    refine ev_le (mle_s (mle_s (mle_s (mle_s (mle_s (mle_s (mle_n (mle_s (mle_n (mle_n (mle_n (mle_n (mle_0))))))))))))) ?_
    exact e
  | succ d ih =>
    intro n hn
    have e3 := ih (n + 1) (by omega)
    have hm : n % L < L := Nat.mod_lt _ (by omega)
    refine ev_iload 11 dX12_tryLag_9 rfl rfl ?_
    refine ev_iload_n 12 dX12_tryLag_11 rfl rfl ?_
    refine ev_icmp_geN 15 87 dX12_tryLag_12 (by decide) (by omega) (by omega) rfl (fun hx => absurd hx ((by omega))) (fun hbr => ?_)
    refine ev_aload_n 16 dX12_tryLag_15 rfl rfl ?_
    refine ev_getP 19 mm_cl12 (j := 32) (Nat.le_of_ble_eq_true rfl) dX12_tryLag_16 lk1317 (fun _ _ _ => rfl) (hM.1 0 _ rfl) (a := (m + 27)) (hM.2.2 26 _ _ _ rfl) rfl ?_
    refine ev_sipushN 22 160 dX12_tryLag_19 (by decide +kernel) rfl ?_
    refine ev_iconstN 23 4 dX12_tryLag_22 rfl ?_
    refine ev_iload_n 24 dX12_tryLag_23 rfl rfl ?_
    refine ev_imulN 25 dX12_tryLag_24 rfl ?_
    refine ev_iload_n 26 dX12_tryLag_25 rfl rfl ?_
    refine ev_iaddN 27 dX12_tryLag_26 rfl ?_
    refine ev_imulN 28 dX12_tryLag_27 rfl ?_
    refine ev_sipushN 31 160 dX12_tryLag_28 (by decide +kernel) rfl ?_
    refine ev_iaddN 32 dX12_tryLag_31 rfl ?_
    refine ev_iload 34 dX12_tryLag_32 rfl rfl ?_
    refine ev_isubN 35 dX12_tryLag_34 (by omega) rfl ?_
    refine ev_iload 37 dX12_tryLag_35 rfl rfl ?_
    refine ev_iload 39 dX12_tryLag_37 rfl rfl ?_
    refine ev_iremN 40 dX12_tryLag_39 (by omega) (by omega) (by omega) rfl ?_
    refine ev_iaddN 41 dX12_tryLag_40 rfl ?_
    refine ev_iald 42 _ dX12_tryLag_41 (hM.1 27 _ rfl) rfl (by have hNN := hM.2.1 27 _ rfl; omega) rfl ?_
    refine ev_eqI (y := (sp_beh H L n)) ((by rw [show 160 * (4 * c + pt) + 160 - L + n % L = 160 * (4 * c + pt) + (160 - L + n % L) by omega]; exact hH _ (by omega))) ?_
    refine ev_i2l 43 dX12_tryLag_42 rfl ?_
    refine ev_lstore 45 (lv' := [_, _, _, _, _, _, _, _, _, some (.int _), _, _]) dX12_tryLag_43 (Nat.le_of_ble_eq_true rfl) rfl rfl ?_
    refine ev_lload 47 dX12_tryLag_45 rfl rfl ?_
    refine ev_lload 49 dX12_tryLag_47 rfl rfl ?_
    refine ev_lload 51 dX12_tryLag_49 rfl rfl ?_
    refine ev_lmul 52 dX12_tryLag_51 rfl ?_
    refine ev_ladd 53 dX12_tryLag_52 rfl ?_
    refine ev_lstore 55 (lv' := [_, _, _, _, some (.int _), _, _, _, _, _, _, _]) dX12_tryLag_53 (Nat.le_of_ble_eq_true rfl) rfl rfl ?_
    refine ev_lload 57 dX12_tryLag_55 rfl rfl ?_
    refine ev_lload 59 dX12_tryLag_57 rfl rfl ?_
    refine ev_aload_n 60 dX12_tryLag_59 rfl rfl ?_
    refine ev_getP 63 mm_cl12 (j := 31) (Nat.le_of_ble_eq_true rfl) dX12_tryLag_60 lk1316 (fun _ _ _ => rfl) (hM.1 0 _ rfl) (a := (m + 26)) (hM.2.2 25 _ _ _ rfl) rfl ?_
    refine ev_sipushN 66 320 dX12_tryLag_63 (by decide +kernel) rfl ?_
    refine ev_iload_n 67 dX12_tryLag_66 rfl rfl ?_
    refine ev_imulN 68 dX12_tryLag_67 rfl ?_
    refine ev_iload_n 69 dX12_tryLag_68 rfl rfl ?_
    refine ev_iload_n 70 dX12_tryLag_69 rfl rfl ?_
    refine ev_imulN 71 dX12_tryLag_70 rfl ?_
    refine ev_iaddN 72 dX12_tryLag_71 rfl ?_
    refine ev_iload 74 dX12_tryLag_72 rfl rfl ?_
    refine ev_iaddN 75 dX12_tryLag_74 rfl ?_
    refine ev_iald 76 _ dX12_tryLag_75 (hM.1 26 _ rfl) rfl (by have hNN := hM.2.1 26 _ rfl; omega) rfl ?_
    refine ev_eqI (y := (R n)) ((hR n (by omega))) ?_
    refine ev_i2l 77 dX12_tryLag_76 rfl ?_
    refine ev_lmul 78 dX12_tryLag_77 rfl ?_
    refine ev_ladd 79 dX12_tryLag_78 rfl ?_
    refine ev_lstore 81 (lv' := [_, _, _, _, _, _, none, _, _, _, _, _]) dX12_tryLag_79 (Nat.le_of_ble_eq_true rfl) rfl rfl ?_
    refine ev_iincN 84 (lv' := [_, _, _, _, _, _, _, _, none, _, _, _]) 1 dX12_tryLag_81 rfl (Nat.le_of_ble_eq_true rfl) rfl rfl ?_
    refine ev_goto 9 dX12_tryLag_84 (by decide) ?_
    refine ev_le (mle_s (mle_s (mle_s (mle_s (mle_s (mle_s (mle_n (mle_s (mle_n (mle_s (mle_n (mle_n (mle_0))))))))))))) ?_
    exact e3
theorem lp_X12_tryLag2 {c pt sb L : Nat} {G : Int64 × Int64} {s : Int64 × Int32 × Int32} {F : Nat → Int32} {Q : Nat → Int64} (hM : lyM B P m) : ∀ (d k : Nat), k + d = 7 →
    Ev g mX12_tryLag 90 [some (.ref m), some (.int (nI c)), some (.int (nI pt)), some (.int (nI sb)), some (.int (nI L)), some (.long G.1), none, some (.long G.2), none, some (.int (nI (k + 1))), none, none] [] B (va_up I m (va_up (va_up F 71 (sp_tp G L s k).2.1) 72 (sp_tp G L s k).2.2)) (va_up J m (va_up Q 70 (sp_tp G L s k).1)) P
      (none, B, va_up I m (va_up (va_up F 71 (sp_tp G L s 7).2.1) 72 (sp_tp G L s 7).2.2), va_up J m (va_up Q 70 (sp_tp G L s 7).1), P) := by
  intro d
  induction d with
  | zero =>
    intro k hk
    obtain rfl : k = 7 := by omega
    refine ev_iload 92 dX12_tryLag_90 rfl rfl ?_
    refine ev_bipushN 94 8 dX12_tryLag_92 (by decide +kernel) rfl ?_
    refine ev_icmp_geN 97 158 dX12_tryLag_94 (by decide) (by omega) (by omega) rfl (fun hbr => ?_) (fun hx => absurd ((by omega)) hx)
    exact ev_vret dX12_tryLag_158 rfl (rfl)
  | succ d ih =>
    intro k hk
    have e := ih (k + 1) (by omega)
    generalize hz : sp_tp G L s 7 = qz at e ⊢
    rw [sp_tp] at e
    refine ev_iload 92 dX12_tryLag_90 rfl rfl ?_
    refine ev_bipushN 94 8 dX12_tryLag_92 (by decide +kernel) rfl ?_
    refine ev_icmp_geN 97 158 dX12_tryLag_94 (by decide) (by omega) (by omega) rfl (fun hx => absurd hx ((by omega))) (fun hbr => ?_)
    refine ev_ldc2 100 dX12_tryLag_97 lk1661 rfl ?_
    refine ev_iload 102 dX12_tryLag_100 rfl rfl ?_
    refine ev_i2l 103 dX12_tryLag_102 rfl ?_
    refine ev_lmul 104 dX12_tryLag_103 rfl ?_
    refine ev_iload 106 dX12_tryLag_104 rfl rfl ?_
    refine ev_i2l 107 dX12_tryLag_106 rfl ?_
    refine ev_lmul 108 dX12_tryLag_107 rfl ?_
    refine ev_lload 110 dX12_tryLag_108 rfl rfl ?_
    refine ev_lmul 111 dX12_tryLag_110 rfl ?_
    refine ev_ldc2 114 dX12_tryLag_111 lk1662 rfl ?_
    refine ev_iload 116 dX12_tryLag_114 rfl rfl ?_
    refine ev_i2l 117 dX12_tryLag_116 rfl ?_
    refine ev_lmul 118 dX12_tryLag_117 rfl ?_
    refine ev_lload 120 dX12_tryLag_118 rfl rfl ?_
    refine ev_lmul 121 dX12_tryLag_120 rfl ?_
    refine ev_lsub 122 dX12_tryLag_121 rfl ?_
    refine ev_eqJ (y := (sp_pc (k + 1) G.1 G.2)) ((sp_pc_m (by omega))) ?_
    refine ev_lstore 124 (lv' := [_, _, _, _, _, _, _, _, _, some (.int _), _, _]) dX12_tryLag_122 (Nat.le_of_ble_eq_true rfl) rfl rfl ?_
    refine ev_lload 126 dX12_tryLag_124 rfl rfl ?_
    refine ev_aload_n 127 dX12_tryLag_126 rfl rfl ?_
    refine ev_getJ 130 mm_cl12 (j := 70) (Nat.le_of_ble_eq_true rfl) dX12_tryLag_127 lk1355 (fun _ _ _ => rfl) (hM.1 0 _ rfl) rfl ?_
    refine ev_eqJ (y := ((sp_tp G L s k).1)) ((by rw [va_up_s, va_up_s])) ?_
    refine ev_lcmp 131 dX12_tryLag_130 rfl ?_
    refine ev_lc_ge 134 152 dX12_tryLag_131 (by decide) rfl (fun h => ?_) (fun h => ?_)
    · rw [if_neg h] at e
      refine ev_iincN 155 (lv' := [_, _, _, _, _, _, _, _, none, _, _, _]) 1 dX12_tryLag_152 rfl (Nat.le_of_ble_eq_true rfl) rfl rfl ?_
      refine ev_goto 90 dX12_tryLag_155 (by decide) ?_
      refine ev_le (mle_s (mle_s (mle_s (mle_s (mle_s (mle_s (mle_n (mle_s (mle_n (mle_s (mle_n (mle_n (mle_0))))))))))))) ?_
      exact e
    · rw [if_pos h] at e
      refine ev_aload_n 135 dX12_tryLag_134 rfl rfl ?_
      refine ev_lload 137 dX12_tryLag_135 rfl rfl ?_
      refine ev_putJ 140 mm_cl12 (j := 70) (Nat.le_of_ble_eq_true rfl) dX12_tryLag_137 lk1355 rfl (fun _ _ _ => rfl) rfl rfl (hM.1 0 _ rfl) rfl ?_
      refine ev_aload_n 141 dX12_tryLag_140 rfl rfl ?_
      refine ev_iload 143 dX12_tryLag_141 rfl rfl ?_
      refine ev_putI 146 mm_cl12 (j := 71) (Nat.le_of_ble_eq_true rfl) dX12_tryLag_143 lk1356 rfl (fun _ _ _ => rfl) rfl rfl (hM.1 0 _ rfl) rfl ?_
      refine ev_aload_n 147 dX12_tryLag_146 rfl rfl ?_
      refine ev_iload 149 dX12_tryLag_147 rfl rfl ?_
      refine ev_putI 152 mm_cl12 (j := 72) (Nat.le_of_ble_eq_true rfl) dX12_tryLag_149 lk1357 rfl (fun _ _ _ => rfl) rfl rfl (hM.1 0 _ rfl) rfl ?_
      refine ev_iincN 155 (lv' := [_, _, _, _, _, _, _, _, none, _, _, _]) 1 dX12_tryLag_152 rfl (Nat.le_of_ble_eq_true rfl) rfl rfl ?_
      refine ev_goto 90 dX12_tryLag_155 (by decide) ?_
      simp only [va_up_s, bx_uu]
      rw [va_3 F (a := 71) (b := 72) _ _ _ (by omega), bx_uu]
      refine ev_le (mle_s (mle_s (mle_s (mle_s (mle_s (mle_s (mle_n (mle_s (mle_n (mle_s (mle_n (mle_n (mle_0))))))))))))) ?_
      exact e
theorem ct_X12_tryLag {c pt sb L : Nat} {H R : Nat → Int32} {s : Int64 × Int32 × Int32} {F : Nat → Int32} {Q : Nat → Int64} (hM : lyM B P m) (hc8 : c < 8) (hp4 : pt < 4) (hb : sb ≤ 80) (hL : 20 ≤ L) (hL2 : L ≤ 147) (hsp : sb * pt + sb ≤ 320) (hH : ∀ n, n < 160 → I (m + 27) (160 * (4 * c + pt) + n) = H n) (hR : ∀ n, n < sb → I (m + 26) (320 * c + sb * pt + n) = R n) :
    Ct g mX12_tryLag [.ref m, .int (nI c), .int (nI pt), .int (nI sb), .int (nI L)] B (va_up I m (va_up (va_up F 71 s.2.1) 72 s.2.2)) (va_up J m (va_up Q 70 s.1)) P
      (none, B, va_up I m (va_up (va_up F 71 (sp_tp (sp_gc (sp_beh H L) R sb) L (sp_t0 L s) 7).2.1) 72 (sp_tp (sp_gc (sp_beh H L) R sb) L (sp_t0 L s) 7).2.2), va_up J m (va_up Q 70 (sp_tp (sp_gc (sp_beh H L) R sb) L (sp_t0 L s) 7).1), P) := by
  refine ct_of (lv := [some (.ref m), some (.int (nI c)), some (.int (nI pt)), some (.int (nI sb)), some (.int (nI L)), none, none, none, none, none, none, none]) (by decide +kernel) (Nat.le_of_ble_eq_true rfl) rfl ?_
  refine ev_lconst 1 (v := 0) dX12_tryLag_0 (by decide +kernel) rfl ?_
  refine ev_lstore 3 (lv' := [_, _, _, _, some (.int _), _, _, _, _, _, _, _]) dX12_tryLag_1 (Nat.le_of_ble_eq_true rfl) rfl rfl ?_
  refine ev_lconst 4 (v := 0) dX12_tryLag_3 (by decide +kernel) rfl ?_
  refine ev_lstore 6 (lv' := [_, _, _, _, _, _, none, _, _, _, _, _]) dX12_tryLag_4 (Nat.le_of_ble_eq_true rfl) rfl rfl ?_
  refine ev_iconstN 7 0 dX12_tryLag_6 rfl ?_
  refine ev_istore 9 (lv' := [_, _, _, _, _, _, _, _, none, _, _, _]) dX12_tryLag_7 (Nat.le_of_ble_eq_true rfl) rfl rfl ?_
  refine lp_X12_tryLag1 (H := H) (R := R) hM hc8 hp4 hb hL hL2 hsp (fun n hn => by rw [va_up_n _ _ (by omega)]; exact hH n hn) (fun n hn => by rw [va_up_n _ _ (by omega)]; exact hR n hn) ?_ sb 0 (by omega)
  generalize sp_gc (sp_beh H L) R sb = G
  refine ev_iconstN 88 0 dX12_tryLag_87 rfl ?_
  refine ev_istore 90 (lv' := [_, _, _, _, _, _, _, _, none, _, _, _]) dX12_tryLag_88 (Nat.le_of_ble_eq_true rfl) rfl rfl ?_
  refine ev_iload 92 dX12_tryLag_90 rfl rfl ?_
  refine ev_bipushN 94 8 dX12_tryLag_92 (by decide +kernel) rfl ?_
  refine ev_icmp_geN 97 158 dX12_tryLag_94 (by decide) (by omega) (by omega) rfl (fun hx => absurd hx ((by omega))) (fun hbr => ?_)
  refine ev_ldc2 100 dX12_tryLag_97 lk1661 rfl ?_
  refine ev_iload 102 dX12_tryLag_100 rfl rfl ?_
  refine ev_i2l 103 dX12_tryLag_102 rfl ?_
  refine ev_lmul 104 dX12_tryLag_103 rfl ?_
  refine ev_iload 106 dX12_tryLag_104 rfl rfl ?_
  refine ev_i2l 107 dX12_tryLag_106 rfl ?_
  refine ev_lmul 108 dX12_tryLag_107 rfl ?_
  refine ev_lload 110 dX12_tryLag_108 rfl rfl ?_
  refine ev_lmul 111 dX12_tryLag_110 rfl ?_
  refine ev_ldc2 114 dX12_tryLag_111 lk1662 rfl ?_
  refine ev_iload 116 dX12_tryLag_114 rfl rfl ?_
  refine ev_i2l 117 dX12_tryLag_116 rfl ?_
  refine ev_lmul 118 dX12_tryLag_117 rfl ?_
  refine ev_lload 120 dX12_tryLag_118 rfl rfl ?_
  refine ev_lmul 121 dX12_tryLag_120 rfl ?_
  refine ev_lsub 122 dX12_tryLag_121 rfl ?_
  refine ev_eqJ (y := (0)) (((sp_pc_m (by omega)).trans sp_pc_0)) ?_
  refine ev_lstore 124 (lv' := [_, _, _, _, _, _, _, _, _, some (.int _), _, _]) dX12_tryLag_122 (Nat.le_of_ble_eq_true rfl) rfl rfl ?_
  refine ev_lload 126 dX12_tryLag_124 rfl rfl ?_
  refine ev_aload_n 127 dX12_tryLag_126 rfl rfl ?_
  refine ev_getJ 130 mm_cl12 (j := 70) (Nat.le_of_ble_eq_true rfl) dX12_tryLag_127 lk1355 (fun _ _ _ => rfl) (hM.1 0 _ rfl) rfl ?_
  refine ev_eqJ (y := (s.1)) ((by rw [va_up_s, va_up_s])) ?_
  refine ev_lcmp 131 dX12_tryLag_130 rfl ?_
  have e := lp_X12_tryLag2 (g := g) (I := I) (J := J) (P := P) (c := c) (pt := pt) (sb := sb) (L := L) (G := G) (s := sp_t0 L s) (F := F) (Q := Q) hM 7 0 (by omega)
  generalize hz : sp_tp G L (sp_t0 L s) 7 = qz at e ⊢
  rw [show sp_tp G L (sp_t0 L s) 0 = sp_t0 L s from rfl] at e
  refine ev_lc_ge 134 152 dX12_tryLag_131 (by decide) rfl (fun h => ?_) (fun h => ?_)
  · rw [show sp_t0 L s = s by unfold sp_t0; rw [if_neg h]] at e
    refine ev_iincN 155 (lv' := [_, _, _, _, _, _, _, _, none, _, _, _]) 1 dX12_tryLag_152 rfl (Nat.le_of_ble_eq_true rfl) rfl rfl ?_
    refine ev_goto 90 dX12_tryLag_155 (by decide) ?_
    refine ev_le (mle_s (mle_s (mle_s (mle_s (mle_s (mle_s (mle_n (mle_s (mle_n (mle_s (mle_n (mle_n (mle_0))))))))))))) ?_
    exact e
  · rw [show sp_t0 L s = (0, nI L, nI 0) by unfold sp_t0; rw [if_pos h]] at e
    refine ev_aload_n 135 dX12_tryLag_134 rfl rfl ?_
    refine ev_lload 137 dX12_tryLag_135 rfl rfl ?_
    refine ev_putJ 140 mm_cl12 (j := 70) (Nat.le_of_ble_eq_true rfl) dX12_tryLag_137 lk1355 rfl (fun _ _ _ => rfl) rfl rfl (hM.1 0 _ rfl) rfl ?_
    refine ev_aload_n 141 dX12_tryLag_140 rfl rfl ?_
    refine ev_iload 143 dX12_tryLag_141 rfl rfl ?_
    refine ev_putI 146 mm_cl12 (j := 71) (Nat.le_of_ble_eq_true rfl) dX12_tryLag_143 lk1356 rfl (fun _ _ _ => rfl) rfl rfl (hM.1 0 _ rfl) rfl ?_
    refine ev_aload_n 147 dX12_tryLag_146 rfl rfl ?_
    refine ev_iload 149 dX12_tryLag_147 rfl rfl ?_
    refine ev_putI 152 mm_cl12 (j := 72) (Nat.le_of_ble_eq_true rfl) dX12_tryLag_149 lk1357 rfl (fun _ _ _ => rfl) rfl rfl (hM.1 0 _ rfl) rfl ?_
    refine ev_iincN 155 (lv' := [_, _, _, _, _, _, _, _, none, _, _, _]) 1 dX12_tryLag_152 rfl (Nat.le_of_ble_eq_true rfl) rfl rfl ?_
    refine ev_goto 90 dX12_tryLag_155 (by decide) ?_
    simp only [va_up_s, bx_uu]
    rw [va_3 F (a := 71) (b := 72) _ _ _ (by omega), bx_uu]
    refine ev_le (mle_s (mle_s (mle_s (mle_s (mle_s (mle_s (mle_n (mle_s (mle_n (mle_s (mle_n (mle_n (mle_0))))))))))))) ?_
    exact e
theorem lp_X12_pitch1 {c pt sb w st N : Nat} {H R : Nat → Int32} {F : Nat → Int32} {Q : Nat → Int64} {Z : mm_Z} (hM : lyM B P m) (hc8 : c < 8) (hp4 : pt < 4) (hb : sb ≤ 80) (hsp : sb * pt + sb ≤ 320) (hH : ∀ n, n < 160 → I (m + 27) (160 * (4 * c + pt) + n) = H n) (hR : ∀ n, n < sb → I (m + 26) (320 * c + sb * pt + n) = R n)
    (hw : (w = 1 ∧ st = 1 ∧ N = 128) ∨ (w = 0 ∧ st = 4 ∧ N = 32))
    (e : Ev g mX12_pitch 46 [some (.ref m), some (.int (nI c)), some (.int (nI pt)), some (.int (nI sb)), some (.int (nI w)), none, none] [] B (va_up I m (va_up (va_up F 71 (sp_tls H R sb 20 st sp_p0 N).2.1) 72 (sp_tls H R sb 20 st sp_p0 N).2.2)) (va_up J m (va_up Q 70 (sp_tls H R sb 20 st sp_p0 N).1)) P Z) : ∀ (d k : Nat), k + d = N → 1 ≤ k →
    Ev g mX12_pitch 11 [some (.ref m), some (.int (nI c)), some (.int (nI pt)), some (.int (nI sb)), some (.int (nI w)), some (.int (nI (20 + st * k))), none] [] B (va_up I m (va_up (va_up F 71 (sp_tls H R sb 20 st sp_p0 k).2.1) 72 (sp_tls H R sb 20 st sp_p0 k).2.2)) (va_up J m (va_up Q 70 (sp_tls H R sb 20 st sp_p0 k).1)) P Z := by
  intro d
  induction d with
  | zero =>
    intro k hk hk1
    obtain rfl : k = N := by omega
    have h1 : 20 + st * k = 148 := by rcases hw with ⟨_, a, b⟩ | ⟨_, a, b⟩ <;> subst a <;> subst b <;> rfl
    rw [h1]
    refine ev_iload 13 dX12_pitch_11 rfl rfl ?_
    refine ev_sipushN 16 148 dX12_pitch_13 (by decide +kernel) rfl ?_
    refine ev_icmp_geN 19 46 dX12_pitch_16 (by decide) (by omega) (by omega) rfl (fun hbr => ?_) (fun hx => absurd ((by omega)) hx)
    refine ev_le (mle_s (mle_s (mle_s (mle_s (mle_s (mle_n (mle_n (mle_0)))))))) ?_
    exact e
  | succ d ih =>
    intro k hk hk1
    have e3 := ih (k + 1) (by omega) (by omega)
    have h1 : 20 + st * k < 148 := by rcases hw with ⟨_, a, b⟩ | ⟨_, a, b⟩ <;> subst a <;> omega
    have hnp := sp_T_np (H := H) (R := R) (sb := sb) (f := 20) (st := st) (L0 := 20) (k := k)
    have ct := ct_X12_tryLag (g := g) (I := I) (J := J) (c := c) (pt := pt) (sb := sb) (L := 20 + st * k) (H := H) (R := R) (s := sp_tls H R sb 20 st sp_p0 k) (F := F) (Q := Q) hM hc8 hp4 hb (by omega) (by omega) hsp hH hR
    rw [show sp_t0 (20 + st * k) (sp_tls H R sb 20 st sp_p0 k) = sp_tls H R sb 20 st sp_p0 k by unfold sp_t0; exact if_neg hnp] at ct
    rw [show sp_tls H R sb 20 st sp_p0 (k + 1) = sp_tp (sp_gc (sp_beh H (20 + st * k)) R sb) (20 + st * k) (sp_tls H R sb 20 st sp_p0 k) 7 from rfl] at e3
    generalize hz : sp_tp (sp_gc (sp_beh H (20 + st * k)) R sb) (20 + st * k) (sp_tls H R sb 20 st sp_p0 k) 7 = qz at e3 ct
    rw [show 20 + st * (k + 1) = 20 + st * k + st by rw [Nat.mul_succ, Nat.add_assoc]] at e3
    refine ev_iload 13 dX12_pitch_11 rfl rfl ?_
    refine ev_sipushN 16 148 dX12_pitch_13 (by decide +kernel) rfl ?_
    refine ev_icmp_geN 19 46 dX12_pitch_16 (by decide) (by omega) (by omega) rfl (fun hx => absurd hx ((by omega))) (fun hbr => ?_)
    refine ev_aload_n 20 dX12_pitch_19 rfl rfl ?_
    refine ev_iload_n 21 dX12_pitch_20 rfl rfl ?_
    refine ev_iload_n 22 dX12_pitch_21 rfl rfl ?_
    refine ev_iload_n 23 dX12_pitch_22 rfl rfl ?_
    refine ev_iload 25 dX12_pitch_23 rfl rfl ?_
    refine ev_invVv 28 (Mc := mX12_tryLag) ⟨lk1660, lk80, hdX12_tryLag, (Nat.le_of_ble_eq_true rfl), (Nat.le_of_ble_eq_true rfl)⟩ lk1657 lk1659 lk53 mm_cl12 rfl dX12_pitch_25 (ct) rfl (hM.1 0 _ rfl) (Nat.le_of_ble_eq_true rfl) rfl rfl ?_
    refine ev_iload 30 dX12_pitch_28 rfl rfl ?_
    refine ev_iload 32 dX12_pitch_30 rfl rfl ?_
    rcases hw with ⟨a, b, _⟩ | ⟨a, b, _⟩
    · subst a
      subst b
      refine ev_if_eqN 35 39 dX12_pitch_32 (by decide) (by omega) rfl (fun hx => absurd hx ((by omega))) (fun hbr => ?_)
      refine ev_iconstN 36 1 dX12_pitch_35 rfl ?_
      refine ev_goto 40 dX12_pitch_36 (by decide) ?_
      refine ev_iaddN 41 dX12_pitch_40 rfl ?_
      refine ev_istore 43 (lv' := [_, _, _, _, some (.int _), _, _]) dX12_pitch_41 (Nat.le_of_ble_eq_true rfl) rfl rfl ?_
      refine ev_goto 11 dX12_pitch_43 (by decide) ?_
      exact e3
    · subst a
      subst b
      refine ev_if_eqN 35 39 dX12_pitch_32 (by decide) (by omega) rfl (fun hbr => ?_) (fun hx => absurd (rfl) hx)
      refine ev_iconstN 40 4 dX12_pitch_39 rfl ?_
      refine ev_iaddN 41 dX12_pitch_40 rfl ?_
      refine ev_istore 43 (lv' := [_, _, _, _, some (.int _), _, _]) dX12_pitch_41 (Nat.le_of_ble_eq_true rfl) rfl rfl ?_
      refine ev_goto 11 dX12_pitch_43 (by decide) ?_
      exact e3
theorem lp_X12_pitch2 {c pt sb w M : Nat} {H R : Nat → Int32} {F : Nat → Int32} {Q : Nat → Int64} {Z : mm_Z} (hM : lyM B P m) (hc8 : c < 8) (hp4 : pt < 4) (hb : sb ≤ 80) (hsp : sb * pt + sb ≤ 320) (hH : ∀ n, n < 160 → I (m + 27) (160 * (4 * c + pt) + n) = H n) (hR : ∀ n, n < sb → I (m + 26) (320 * c + sb * pt + n) = R n) (hMM : M ≤ 147) : ∀ (d L : Nat), L + d = M + 4 → ∀ (s : Int64 × Int32 × Int32),
    Ev g mX12_pitch 107 [some (.ref m), some (.int (nI c)), some (.int (nI pt)), some (.int (nI sb)), some (.int (nI w)), none, none] [] B (va_up I m (va_up (va_up F 71 (sp_l2 H R sb d L s).2.1) 72 (sp_l2 H R sb d L s).2.2)) (va_up J m (va_up Q 70 (sp_l2 H R sb d L s).1)) P Z →
    Ev g mX12_pitch 70 [some (.ref m), some (.int (nI c)), some (.int (nI pt)), some (.int (nI sb)), some (.int (nI w)), some (.int (nI M)), some (.int (nI L))] [] B (va_up I m (va_up (va_up F 71 s.2.1) 72 s.2.2)) (va_up J m (va_up Q 70 s.1)) P Z := by
  intro d
  induction d with
  | zero =>
    intro L hL s e
    obtain rfl : L = M + 4 := by omega
    refine ev_iload 72 dX12_pitch_70 rfl rfl ?_
    refine ev_iload 74 dX12_pitch_72 rfl rfl ?_
    refine ev_iconstN 75 3 dX12_pitch_74 rfl ?_
    refine ev_iaddN 76 dX12_pitch_75 rfl ?_
    refine ev_icmp_gtN 79 107 dX12_pitch_76 (by decide) (by omega) (by omega) rfl (fun hbr => ?_) (fun hx => absurd ((by omega)) hx)
    refine ev_le (mle_s (mle_s (mle_s (mle_s (mle_s (mle_n (mle_n (mle_0)))))))) ?_
    exact e
  | succ d ih =>
    intro L hL s e
    rw [sp_l2] at e
    refine ev_iload 72 dX12_pitch_70 rfl rfl ?_
    refine ev_iload 74 dX12_pitch_72 rfl rfl ?_
    refine ev_iconstN 75 3 dX12_pitch_74 rfl ?_
    refine ev_iaddN 76 dX12_pitch_75 rfl ?_
    refine ev_icmp_gtN 79 107 dX12_pitch_76 (by decide) (by omega) (by omega) rfl (fun hx => absurd hx ((by omega))) (fun hbr => ?_)
    refine ev_iload 81 dX12_pitch_79 rfl rfl ?_
    refine ev_bipushN 83 20 dX12_pitch_81 (by decide +kernel) rfl ?_
    refine ev_sipushN 86 147 dX12_pitch_83 (by decide +kernel) rfl ?_
    by_cases c1 : 20 ≤ L ∧ L ≤ 147
    · rw [if_pos c1] at e
      have e3 := ih (L + 1) (by omega) _ e
      have ct := ct_X12_tryLag (g := g) (I := I) (J := J) (c := c) (pt := pt) (sb := sb) (L := L) (H := H) (R := R) (s := s) (F := F) (Q := Q) hM hc8 hp4 hb c1.1 c1.2 hsp hH hR
      generalize hz : sp_tp (sp_gc (sp_beh H L) R sb) L (sp_t0 L s) 7 = qz at e3 ct
      refine ev_invS 89 (Mc := mX12_in) ⟨lk1536, lk80, hdX12_in, (Nat.le_of_ble_eq_true rfl), (Nat.le_of_ble_eq_true rfl)⟩ lk1534 lk1535 dX12_pitch_86 (ct_X12_in_t ⟨nI_le c1.1 (by omega), nI_le c1.2 (by omega)⟩) rfl (Nat.le_of_ble_eq_true rfl) rfl rfl ?_
      refine ev_if_eqN 92 101 dX12_pitch_89 (by decide) (by omega) rfl (fun hx => absurd hx ((by omega))) (fun hbr => ?_)
      refine ev_aload_n 93 dX12_pitch_92 rfl rfl ?_
      refine ev_iload_n 94 dX12_pitch_93 rfl rfl ?_
      refine ev_iload_n 95 dX12_pitch_94 rfl rfl ?_
      refine ev_iload_n 96 dX12_pitch_95 rfl rfl ?_
      refine ev_iload 98 dX12_pitch_96 rfl rfl ?_
      refine ev_invVv 101 (Mc := mX12_tryLag) ⟨lk1660, lk80, hdX12_tryLag, (Nat.le_of_ble_eq_true rfl), (Nat.le_of_ble_eq_true rfl)⟩ lk1657 lk1659 lk53 mm_cl12 rfl dX12_pitch_98 (ct) rfl (hM.1 0 _ rfl) (Nat.le_of_ble_eq_true rfl) rfl rfl ?_
      refine ev_iincN 104 (lv' := [_, _, _, _, _, some (.int _), _]) 1 dX12_pitch_101 rfl (Nat.le_of_ble_eq_true rfl) rfl rfl ?_
      refine ev_goto 70 dX12_pitch_104 (by decide) ?_
      exact e3
    · rw [if_neg c1] at e
      have e3 := ih (L + 1) (by omega) _ e
      refine ev_invS 89 (Mc := mX12_in) ⟨lk1536, lk80, hdX12_in, (Nat.le_of_ble_eq_true rfl), (Nat.le_of_ble_eq_true rfl)⟩ lk1534 lk1535 dX12_pitch_86 (ct_X12_in_f (fun z => c1 ⟨(nI_leI (by omega) (by omega)).mp z.1, (nI_leI (by omega) (by omega)).mp z.2⟩)) rfl (Nat.le_of_ble_eq_true rfl) rfl rfl ?_
      refine ev_if_eqN 92 101 dX12_pitch_89 (by decide) (by omega) rfl (fun hbr => ?_) (fun hx => absurd (rfl) hx)
      refine ev_iincN 104 (lv' := [_, _, _, _, _, some (.int _), _]) 1 dX12_pitch_101 rfl (Nat.le_of_ble_eq_true rfl) rfl rfl ?_
      refine ev_goto 70 dX12_pitch_104 (by decide) ?_
      exact e3
/-- the last step of the model's search -/
theorem lp_X12_pitch3 {c pt sb w : Nat} {s C : Int64 × Int32 × Int32} {L0 : Nat} {F : Nat → Int32} {Q : Nat → Int64} (hM : lyM B P m) (h : (s = (0, nI L0, nI 0) ∧ C = sp_p0) ∨ (s = C ∧ s.1 < 0)) :
    Ev g mX12_pitch 107 [some (.ref m), some (.int (nI c)), some (.int (nI pt)), some (.int (nI sb)), some (.int (nI w)), none, none] [] B (va_up I m (va_up (va_up F 71 s.2.1) 72 s.2.2)) (va_up J m (va_up Q 70 s.1)) P
    (none, B, va_up I m (va_up (va_up F 71 C.2.1) 72 C.2.2), va_up J m (va_up Q 70 C.1), P) := by
  refine ev_aload_n 108 dX12_pitch_107 rfl rfl ?_
  refine ev_getJ 111 mm_cl12 (j := 70) (Nat.le_of_ble_eq_true rfl) dX12_pitch_108 lk1355 (fun _ _ _ => rfl) (hM.1 0 _ rfl) rfl ?_
  refine ev_eqJ (y := (s.1)) ((by rw [va_up_s, va_up_s])) ?_
  refine ev_lconst 112 (v := 0) dX12_pitch_111 (by decide +kernel) rfl ?_
  refine ev_lcmp 113 dX12_pitch_112 rfl ?_
  rcases h with ⟨a, b⟩ | ⟨a, b⟩
  · subst a
    subst b
    refine ev_lc_ne 116 127 dX12_pitch_113 (by decide) rfl (fun hx => absurd (rfl) hx) (fun hbr => ?_)
    refine ev_aload_n 117 dX12_pitch_116 rfl rfl ?_
    refine ev_bipushN 119 20 dX12_pitch_117 (by decide +kernel) rfl ?_
    refine ev_putI 122 mm_cl12 (j := 71) (Nat.le_of_ble_eq_true rfl) dX12_pitch_119 lk1356 rfl (fun _ _ _ => rfl) rfl rfl (hM.1 0 _ rfl) rfl ?_
    refine ev_aload_n 123 dX12_pitch_122 rfl rfl ?_
    refine ev_iconstN 124 0 dX12_pitch_123 rfl ?_
    refine ev_putI 127 mm_cl12 (j := 72) (Nat.le_of_ble_eq_true rfl) dX12_pitch_124 lk1357 rfl (fun _ _ _ => rfl) rfl rfl (hM.1 0 _ rfl) rfl ?_
    simp only [va_up_s, bx_uu]
    rw [va_3 F (a := 71) (b := 72) _ _ _ (by omega), bx_uu]
    exact ev_vret dX12_pitch_127 rfl (rfl)
  · subst a
    refine ev_lc_ne 116 127 dX12_pitch_113 (by decide) rfl (fun hc => ?_) (fun hx => absurd b (by rw [hx]; decide +kernel))
    exact ev_vret dX12_pitch_127 rfl (rfl)
theorem ct_X12_pitch {c pt sb w : Nat} {H R : Nat → Int32} (hM : lyM B P m) (hc8 : c < 8) (hp4 : pt < 4) (hb : sb ≤ 80) (hsp : sb * pt + sb ≤ 320) (hH : ∀ n, n < 160 → I (m + 27) (160 * (4 * c + pt) + n) = H n) (hR : ∀ n, n < sb → I (m + 26) (320 * c + sb * pt + n) = R n) (hw : w ≤ 1) :
    Ct g mX12_pitch [.ref m, .int (nI c), .int (nI pt), .int (nI sb), .int (nI w)] B I J P
      (none, B, va_up I m (va_up (va_up (I m) 71 (sp_pit H R sb (w = 1)).2.1) 72 (sp_pit H R sb (w = 1)).2.2), va_up J m (va_up (J m) 70 (sp_pit H R sb (w = 1)).1), P) := by
  obtain ⟨st, N, hst⟩ : ∃ st N, (w = 1 ∧ st = 1 ∧ N = 128) ∨ (w = 0 ∧ st = 4 ∧ N = 32) := by
    by_cases c : w = 1
    · exact ⟨1, 128, Or.inl ⟨c, rfl, rfl⟩⟩
    · exact ⟨4, 32, Or.inr ⟨by omega, rfl, rfl⟩⟩
  have ct := ct_X12_tryLag (g := g) (I := I) (J := J) (c := c) (pt := pt) (sb := sb) (L := 20) (H := H) (R := R) (s := (9223372036854775807, I m 71, I m 72)) (F := I m) (Q := J m) hM hc8 hp4 hb (by omega) (by omega) hsp hH hR
  have u : va_up I m (va_up (va_up (I m) 71 (I m 71)) 72 (I m 72)) = I := by
    rw [va_up_id, va_up_id, va_up_id]
  rw [show sp_t0 20 (9223372036854775807, I m 71, I m 72) = sp_p0 by unfold sp_t0; exact if_pos (by decide +kernel : (0 : Int64) < 9223372036854775807)] at ct
  rw [u] at ct
  rw [show sp_tp (sp_gc (sp_beh H 20) R sb) 20 sp_p0 7 = sp_tls H R sb 20 st sp_p0 1 by rw [show sp_tls H R sb 20 st sp_p0 1 = sp_tp (sp_gc (sp_beh H (20 + st * 0)) R sb) (20 + st * 0) sp_p0 7 from rfl, Nat.mul_zero, Nat.add_zero]] at ct
  have e1 := lp_X12_pitch1 (g := g) (I := I) (J := J) (c := c) (pt := pt) (sb := sb) (w := w) (st := st) (N := N) (H := H) (R := R) (F := I m) (Q := J m) (Z := (none, B, va_up I m (va_up (va_up (I m) 71 (sp_pit H R sb (w = 1)).2.1) 72 (sp_pit H R sb (w = 1)).2.2), va_up J m (va_up (J m) 70 (sp_pit H R sb (w = 1)).1), P)) hM hc8 hp4 hb hsp hH hR hst ?_ (N - 1) 1 (by omega) (by omega)
  · rw [Nat.mul_one] at e1
    generalize hq : sp_tls H R sb 20 st sp_p0 1 = q at ct e1
    refine ct_of (lv := [some (.ref m), some (.int (nI c)), some (.int (nI pt)), some (.int (nI sb)), some (.int (nI w)), none, none]) (by decide +kernel) (Nat.le_of_ble_eq_true rfl) rfl ?_
    refine ev_aload_n 1 dX12_pitch_0 rfl rfl ?_
    refine ev_ldc2 4 dX12_pitch_1 lk1656 rfl ?_
    refine ev_putJ 7 mm_cl12 (j := 70) (Nat.le_of_ble_eq_true rfl) dX12_pitch_4 lk1355 rfl (fun _ _ _ => rfl) rfl rfl (hM.1 0 _ rfl) rfl ?_
    refine ev_bipushN 9 20 dX12_pitch_7 (by decide +kernel) rfl ?_
    refine ev_istore 11 (lv' := [_, _, _, _, some (.int _), _, _]) dX12_pitch_9 (Nat.le_of_ble_eq_true rfl) rfl rfl ?_
    refine ev_iload 13 dX12_pitch_11 rfl rfl ?_
    refine ev_sipushN 16 148 dX12_pitch_13 (by decide +kernel) rfl ?_
    refine ev_icmp_geN 19 46 dX12_pitch_16 (by decide) (by omega) (by omega) rfl (fun hx => absurd hx ((by omega))) (fun hbr => ?_)
    refine ev_aload_n 20 dX12_pitch_19 rfl rfl ?_
    refine ev_iload_n 21 dX12_pitch_20 rfl rfl ?_
    refine ev_iload_n 22 dX12_pitch_21 rfl rfl ?_
    refine ev_iload_n 23 dX12_pitch_22 rfl rfl ?_
    refine ev_iload 25 dX12_pitch_23 rfl rfl ?_
    refine ev_invVv 28 (Mc := mX12_tryLag) ⟨lk1660, lk80, hdX12_tryLag, (Nat.le_of_ble_eq_true rfl), (Nat.le_of_ble_eq_true rfl)⟩ lk1657 lk1659 lk53 mm_cl12 rfl dX12_pitch_25 (ct) rfl (hM.1 0 _ rfl) (Nat.le_of_ble_eq_true rfl) rfl rfl ?_
    refine ev_iload 30 dX12_pitch_28 rfl rfl ?_
    refine ev_iload 32 dX12_pitch_30 rfl rfl ?_
    rcases hst with ⟨a, b, _⟩ | ⟨a, b, _⟩
    · subst a
      subst b
      refine ev_if_eqN 35 39 dX12_pitch_32 (by decide) (by omega) rfl (fun hx => absurd hx ((by omega))) (fun hbr => ?_)
      refine ev_iconstN 36 1 dX12_pitch_35 rfl ?_
      refine ev_goto 40 dX12_pitch_36 (by decide) ?_
      refine ev_iaddN 41 dX12_pitch_40 rfl ?_
      refine ev_istore 43 (lv' := [_, _, _, _, some (.int _), _, _]) dX12_pitch_41 (Nat.le_of_ble_eq_true rfl) rfl rfl ?_
      refine ev_goto 11 dX12_pitch_43 (by decide) ?_
      exact e1
    · subst a
      subst b
      refine ev_if_eqN 35 39 dX12_pitch_32 (by decide) (by omega) rfl (fun hbr => ?_) (fun hx => absurd (rfl) hx)
      refine ev_iconstN 40 4 dX12_pitch_39 rfl ?_
      refine ev_iaddN 41 dX12_pitch_40 rfl ?_
      refine ev_istore 43 (lv' := [_, _, _, _, some (.int _), _, _]) dX12_pitch_41 (Nat.le_of_ble_eq_true rfl) rfl rfl ?_
      refine ev_goto 11 dX12_pitch_43 (by decide) ?_
      exact e1
  rcases hst with ⟨a, b, b2⟩ | ⟨a, b, b2⟩
  · subst a
    subst b
    subst b2
    rw [show sp_pit H R sb (1 = 1) = sp_tls H R sb 20 1 sp_p0 128 by unfold sp_pit; rw [if_pos rfl]]
    have h3 := sp_tls_2 (H := H) (R := R) (sb := sb) (f := 20) (st := 1) (L0 := 20) (s := sp_p0) (s' := sp_p0) (Or.inl ⟨rfl, rfl⟩) 128
    generalize hq : sp_tls H R sb 20 1 sp_p0 128 = q at h3 ⊢
    refine ev_iload 48 dX12_pitch_46 rfl rfl ?_
    refine ev_if_neN 51 107 dX12_pitch_48 (by decide) (by omega) rfl (fun hbr => ?_) (fun hx => absurd hx ((by omega)))
    refine lp_X12_pitch3 (L0 := 20) hM h3
  · subst a
    subst b
    subst b2
    obtain ⟨m1, m2, m3⟩ := sp_mid_e (H := H) (R := R) (sb := sb)
    have h3 := sp_tls_2 (H := H) (R := R) (sb := sb) (f := max 20 (sp_mid H R sb - 3)) (st := 1) (L0 := max 20 (sp_mid H R sb - 3)) (s := (0, nI (max 20 (sp_mid H R sb - 3)), nI 0)) (s' := sp_p0) (Or.inl ⟨rfl, rfl⟩) (min 147 (sp_mid H R sb + 3) + 1 - max 20 (sp_mid H R sb - 3))
    have hp : sp_pit H R sb (0 = 1) = sp_tls H R sb (max 20 (sp_mid H R sb - 3)) 1 sp_p0 (min 147 (sp_mid H R sb + 3) + 1 - max 20 (sp_mid H R sb - 3)) := by unfold sp_pit; rw [if_neg (by omega)]
    rw [← hp] at h3
    rw [m1]
    generalize hq2 : sp_pit H R sb (0 = 1) = C at h3 ⊢
    generalize hMM : sp_mid H R sb = M at h3 m2 m3 ⊢
    generalize hq1 : sp_tls H R sb 20 4 sp_p0 32 = q1
    have e2 := sp_l2_e (H := H) (R := R) (sb := sb) (M := M) (s := (9223372036854775807, nI M, q1.2.2)) (by decide +kernel : (0 : Int64) < 9223372036854775807) m2 m3
    rw [← e2] at h3
    have e3 := lp_X12_pitch2 (g := g) (I := I) (J := J) (c := c) (pt := pt) (sb := sb) (w := 0) (M := M) (H := H) (R := R) (F := I m) (Q := J m) (Z := (none, B, va_up I m (va_up (va_up (I m) 71 C.2.1) 72 C.2.2), va_up J m (va_up (J m) 70 C.1), P)) hM hc8 hp4 hb hsp hH hR m3 7 (M - 3) (by omega) (9223372036854775807, nI M, q1.2.2) (lp_X12_pitch3 hM h3)
    refine ev_iload 48 dX12_pitch_46 rfl rfl ?_
    refine ev_if_neN 51 107 dX12_pitch_48 (by decide) (by omega) rfl (fun hx => absurd (rfl) hx) (fun hbr => ?_)
    refine ev_aload_n 52 dX12_pitch_51 rfl rfl ?_
    refine ev_getI 55 mm_cl12 (j := 71) (Nat.le_of_ble_eq_true rfl) dX12_pitch_52 lk1356 (fun _ _ _ => rfl) (hM.1 0 _ rfl) rfl ?_
    refine ev_eqI (y := nI (M)) ((by rw [va_up_s, va_up_n _ _ (by omega), va_up_s])) ?_
    refine ev_istore 57 (lv' := [_, _, _, _, some (.int _), _, _]) dX12_pitch_55 (Nat.le_of_ble_eq_true rfl) rfl rfl ?_
    refine ev_aload_n 58 dX12_pitch_57 rfl rfl ?_
    refine ev_ldc2 61 dX12_pitch_58 lk1656 rfl ?_
    refine ev_putJ 64 mm_cl12 (j := 70) (Nat.le_of_ble_eq_true rfl) dX12_pitch_61 lk1355 rfl (fun _ _ _ => rfl) rfl rfl (hM.1 0 _ rfl) rfl ?_
    refine ev_iload 66 dX12_pitch_64 rfl rfl ?_
    refine ev_iconstN 67 3 dX12_pitch_66 rfl ?_
    refine ev_isubN 68 dX12_pitch_67 (by omega) rfl ?_
    refine ev_istore 70 (lv' := [_, _, _, _, _, some (.int _), _]) dX12_pitch_68 (Nat.le_of_ble_eq_true rfl) rfl rfl ?_
    simp only [va_up_s, bx_uu]
    exact e3
end MOT
