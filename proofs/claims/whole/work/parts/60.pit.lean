/-! PITCH -/
/-- a price -/
def sp_pc (p : Nat) (g c : Int64) : Int64 := (nI (25 * p * p)).toInt64 * g - (nI (320 * p)).toInt64 * c
theorem sp_pc_m {g c : Int64} {p : Nat} (hp : p < 8) : 25 * (nI p).toInt64 * (nI p).toInt64 * g - 320 * (nI p).toInt64 * c = sp_pc p g c := by
  have e1 : ∀ p, p < 8 → 25 * (nI p).toInt64 * (nI p).toInt64 = (nI (25 * p * p)).toInt64 := by decide +kernel
  have e2 : ∀ p, p < 8 → 320 * (nI p).toInt64 = (nI (320 * p)).toInt64 := by decide +kernel
  unfold sp_pc
  rw [e1 p hp, e2 p hp]
theorem sp_pc_0 {g c : Int64} : sp_pc 0 g c = 0 := by
  unfold sp_pc
  rw [show (nI (25 * 0 * 0)).toInt64 = 0 by decide +kernel, Int64.zero_mul, Int64.zero_mul]
  decide +kernel
/-- the two sums of a lag -/
def sp_gc (A R : Nat → Int32) : Nat → Int64 × Int64
  | 0 => (0, 0)
  | n + 1 => ((sp_gc A R n).1 + (A n).toInt64 * (A n).toInt64, (sp_gc A R n).2 + (A n).toInt64 * (R n).toInt64)
theorem sp_gc_cg {A R A' R' : Nat → Int32} : ∀ n, (∀ j, j < n → A j = A' j) → (∀ j, j < n → R j = R' j) → sp_gc A R n = sp_gc A' R' n := by
  intro n
  induction n with
  | zero => intros; rfl
  | succ n ih => intro h1 h2; unfold sp_gc; rw [ih (fun j hj => h1 j (by omega)) (fun j hj => h2 j (by omega)), h1 n (by omega), h2 n (by omega)]
/-- p = 1 to k at one lag: cost, lag, p -/
def sp_tp (G : Int64 × Int64) (L : Nat) (s : Int64 × Int32 × Int32) : Nat → Int64 × Int32 × Int32
  | 0 => s
  | k + 1 => if sp_pc (k + 1) G.1 G.2 < (sp_tp G L s k).1 then (sp_pc (k + 1) G.1 G.2, nI L, nI (k + 1)) else sp_tp G L s k
/-- k lags from f on, by st -/
def sp_tls (H R : Nat → Int32) (sb f st : Nat) (s : Int64 × Int32 × Int32) : Nat → Int64 × Int32 × Int32
  | 0 => s
  | k + 1 => sp_tp (sp_gc (sp_beh H (f + st * k)) R sb) (f + st * k) (sp_tls H R sb f st s k) 7
def sp_p0 : Int64 × Int32 × Int32 := (0, nI 20, nI 0)
def sp_mid (H R : Nat → Int32) (sb : Nat) : Nat := (sp_tls H R sb 20 4 sp_p0 32).2.1.toInt.toNat
/-- PITCH: cost, lag, p -/
def sp_pit (H R : Nat → Int32) (sb : Nat) (wh : Prop) [Decidable wh] : Int64 × Int32 × Int32 :=
  if wh then sp_tls H R sb 20 1 sp_p0 128
  else sp_tls H R sb (max 20 (sp_mid H R sb - 3)) 1 sp_p0 (min 147 (sp_mid H R sb + 3) + 1 - max 20 (sp_mid H R sb - 3))
/-- what a search has: a cost not above 0, a lag, a p -/
def sp_pk (s : Int64 × Int32 × Int32) : Prop := ¬ 0 < s.1 ∧ (∃ n, 20 ≤ n ∧ n ≤ 147 ∧ s.2.1 = nI n) ∧ ∃ p, p ≤ 7 ∧ s.2.2 = nI p
theorem sp_pk_0 : sp_pk sp_p0 := ⟨by decide +kernel, ⟨20, by omega, by omega, rfl⟩, ⟨0, by omega, rfl⟩⟩
theorem sp_pk_tp {G : Int64 × Int64} {L : Nat} {s : Int64 × Int32 × Int32} (h1 : 20 ≤ L) (h2 : L ≤ 147) (h : sp_pk s) : ∀ k, k ≤ 7 → sp_pk (sp_tp G L s k) := by
  intro k
  induction k with
  | zero => intro _; exact h
  | succ k ih =>
    intro hk
    have e := ih (by omega)
    unfold sp_tp
    split
    · rename_i hl
      refine ⟨fun z => e.1 ?_, ⟨L, h1, h2, rfl⟩, ⟨k + 1, hk, rfl⟩⟩
      have z2 : 0 < sp_pc (k + 1) G.1 G.2 := z
      rw [Int64.lt_iff_toInt_lt] at hl z2 ⊢
      omega
    · exact e
theorem sp_pk_tls {H R : Nat → Int32} {sb f st : Nat} (hf : 20 ≤ f) : ∀ k, f + st * (k - 1) ≤ 147 → sp_pk (sp_tls H R sb f st sp_p0 k) := by
  intro k
  induction k with
  | zero => intro _; exact sp_pk_0
  | succ k ih =>
    intro hk
    have h1 : st * (k - 1) ≤ st * (k + 1 - 1) := Nat.mul_le_mul_left _ (by omega)
    unfold sp_tls
    rw [Nat.add_sub_cancel] at hk h1
    exact sp_pk_tp (by omega) hk (ih (by omega)) 7 (by omega)
theorem sp_mid_e {H R : Nat → Int32} {sb : Nat} : (sp_tls H R sb 20 4 sp_p0 32).2.1 = nI (sp_mid H R sb) ∧ 20 ≤ sp_mid H R sb ∧ sp_mid H R sb ≤ 147 := by
  obtain ⟨_, ⟨n, a, b, e⟩, _⟩ := sp_pk_tls (H := H) (R := R) (sb := sb) (f := 20) (st := 4) (by omega) 32 (by omega)
  have h : sp_mid H R sb = n := by
    unfold sp_mid
    rw [e, nI_toInt (by omega)]
    exact Int.toNat_natCast n
  rw [h]
  exact ⟨e, a, b⟩
theorem sp_tp_cg {G : Int64 × Int64} {L : Nat} {s : Int64 × Int32 × Int32} {k : Nat} {A R A' R' : Nat → Int32} {n : Nat} (e : G = sp_gc A R n) (h1 : ∀ j, j < n → A j = A' j) (h2 : ∀ j, j < n → R j = R' j) : sp_tp G L s k = sp_tp (sp_gc A' R' n) L s k := by
  rw [e, sp_gc_cg n h1 h2]
/-- from another start: the same, but where nothing was found -/
theorem sp_tp_2 {G : Int64 × Int64} {L L0 : Nat} {s s' : Int64 × Int32 × Int32} (h : (s = (0, nI L0, nI 0) ∧ s' = sp_p0) ∨ (s = s' ∧ s.1 < 0)) : ∀ k, (sp_tp G L s k = (0, nI L0, nI 0) ∧ sp_tp G L s' k = sp_p0) ∨ (sp_tp G L s k = sp_tp G L s' k ∧ (sp_tp G L s k).1 < 0) := by
  intro k
  induction k with
  | zero => exact h
  | succ k ih =>
    unfold sp_tp
    rcases ih with ⟨a, b⟩ | ⟨a, b⟩
    · rw [a, b]
      show (ite (_ < (0 : Int64)) _ _ = _ ∧ ite (_ < (0 : Int64)) _ _ = _) ∨ _
      by_cases c : sp_pc (k + 1) G.1 G.2 < 0
      · refine Or.inr ?_
        rw [if_pos c, if_pos (show sp_pc (k + 1) G.1 G.2 < sp_p0.1 from c)]
        exact ⟨rfl, c⟩
      · rw [if_neg c, if_neg c]
        exact Or.inl ⟨rfl, rfl⟩
    · refine Or.inr ?_
      rw [← a]
      refine ⟨rfl, ?_⟩
      by_cases c : sp_pc (k + 1) G.1 G.2 < (sp_tp G L s k).1
      · rw [if_pos c]
        show sp_pc (k + 1) G.1 G.2 < 0
        rw [Int64.lt_iff_toInt_lt] at b c ⊢
        omega
      · rw [if_neg c]; exact b
theorem sp_tls_2 {H R : Nat → Int32} {sb f st L0 : Nat} {s s' : Int64 × Int32 × Int32} (h : (s = (0, nI L0, nI 0) ∧ s' = sp_p0) ∨ (s = s' ∧ s.1 < 0)) : ∀ k, (sp_tls H R sb f st s k = (0, nI L0, nI 0) ∧ sp_tls H R sb f st s' k = sp_p0) ∨ (sp_tls H R sb f st s k = sp_tls H R sb f st s' k ∧ (sp_tls H R sb f st s k).1 < 0) := by
  intro k
  induction k with
  | zero => exact h
  | succ k ih => exact sp_tp_2 ih 7
theorem nI_max {a b : Nat} (ha : a < 2 ^ 31) (hb : b < 2 ^ 31) : (if nI a < nI b then nI b else nI a) = nI (max a b) := by
  by_cases c : a < b
  · rw [if_pos (nI_lt c hb), show max a b = b by omega]
  · rw [if_neg (fun z => c ((nI_ltI ha hb).mp z)), show max a b = a by omega]
theorem nI_min {a b : Nat} (ha : a < 2 ^ 31) (hb : b < 2 ^ 31) : (if nI b < nI a then nI b else nI a) = nI (min a b) := by
  by_cases c : b < a
  · rw [if_pos (nI_lt c ha), show min a b = b by omega]
  · rw [if_neg (fun z => c ((nI_ltI hb ha).mp z)), show min a b = a by omega]
section VHT
variable {g : mm_G} {B : mm_B} {I : mm_TI} {J : mm_TJ} {P : mm_TP} {x o : Nat}
theorem lp_X9_tryLag1 {pt L sb : Nat} {R A : Nat → Int32} {Z : mm_Z} (hV : lyV B P x) (hb : sb ≤ 80) (hs : I (x + 17) 2 = nI sb) (hR : ∀ n, n < sb → I (x + 11) n = R n) (hA : ∀ n, n < sb → I (x + 7) n = A n)
    (e : Ev g mX9_tryLag 85 [some (.ref (x + 17)), some (.int (nI L)), some (.ref pt), some (.long ((sp_gc A R sb).1)), none, some (.long ((sp_gc A R sb).2)), none, none, none, none] [] B I J P Z) : ∀ (d n : Nat), n + d = sb →
    Ev g mX9_tryLag 30 [some (.ref (x + 17)), some (.int (nI L)), some (.ref pt), some (.long ((sp_gc A R n).1)), none, some (.long ((sp_gc A R n).2)), none, some (.int (nI n)), none, none] [] B I J P Z := by
  intro d
  induction d with
  | zero =>
    intro n hn
    obtain rfl : n = sb := by omega
    refine ev_iload 32 dX9_tryLag_30 rfl rfl ?_
    refine ev_aload_n 33 dX9_tryLag_32 rfl rfl ?_
    refine ev_getI 36 mm_cl9 (j := 2) (Nat.le_of_ble_eq_true rfl) dX9_tryLag_33 lk245 (fun _ _ _ => rfl) (hV.1 17 _ rfl) rfl ?_
    refine ev_eqI (y := nI (n)) (hs) ?_
    refine ev_icmp_geN 39 85 dX9_tryLag_36 (by decide) (by omega) (by omega) rfl (fun hbr => ?_) (fun hx => absurd ((by omega)) hx)
    refine ev_le (mle_s (mle_s (mle_s (mle_s (mle_n (mle_s (mle_n (mle_n (mle_n (mle_n (mle_0))))))))))) ?_
    exact e
  | succ d ih =>
    intro n hn
    have e3 := ih (n + 1) (by omega)
    refine ev_iload 32 dX9_tryLag_30 rfl rfl ?_
    refine ev_aload_n 33 dX9_tryLag_32 rfl rfl ?_
    refine ev_getI 36 mm_cl9 (j := 2) (Nat.le_of_ble_eq_true rfl) dX9_tryLag_33 lk245 (fun _ _ _ => rfl) (hV.1 17 _ rfl) rfl ?_
    refine ev_eqI (y := nI (sb)) (hs) ?_
    refine ev_icmp_geN 39 85 dX9_tryLag_36 (by decide) (by omega) (by omega) rfl (fun hx => absurd hx ((by omega))) (fun hbr => ?_)
    refine ev_aload_n 40 dX9_tryLag_39 rfl rfl ?_
    refine ev_getP 43 mm_cl9 (j := 0) (Nat.le_of_ble_eq_true rfl) dX9_tryLag_40 lk242 (fun _ _ _ => rfl) (hV.1 17 _ rfl) (a := (x + 4)) (hV.2.2 20 _ _ _ rfl) rfl ?_
    refine ev_getP 46 mm_cl8 (j := 2) (Nat.le_of_ble_eq_true rfl) dX9_tryLag_43 lk140 (fun _ _ _ => rfl) (hV.1 4 _ rfl) (a := (x + 7)) (hV.2.2 10 _ _ _ rfl) rfl ?_
    refine ev_iload 48 dX9_tryLag_46 rfl rfl ?_
    refine ev_iald 49 _ dX9_tryLag_48 (hV.1 7 _ rfl) rfl (by have hNN := hV.2.1 7 _ rfl; omega) rfl ?_
    refine ev_eqI (y := (A n)) ((hA n (by omega))) ?_
    refine ev_i2l 50 dX9_tryLag_49 rfl ?_
    refine ev_lstore 52 (lv' := [_, _, _, _, _, _, _, some (.int _), _, _]) dX9_tryLag_50 (Nat.le_of_ble_eq_true rfl) rfl rfl ?_
    refine ev_lload_n 53 dX9_tryLag_52 rfl rfl ?_
    refine ev_lload 55 dX9_tryLag_53 rfl rfl ?_
    refine ev_lload 57 dX9_tryLag_55 rfl rfl ?_
    refine ev_lmul 58 dX9_tryLag_57 rfl ?_
    refine ev_ladd 59 dX9_tryLag_58 rfl ?_
    refine ev_lstore_n 60 (lv' := [_, _, some (.ref _), _, _, _, _, _, _, _]) dX9_tryLag_59 (Nat.le_of_ble_eq_true rfl) rfl rfl ?_
    refine ev_lload 62 dX9_tryLag_60 rfl rfl ?_
    refine ev_lload 64 dX9_tryLag_62 rfl rfl ?_
    refine ev_aload_n 65 dX9_tryLag_64 rfl rfl ?_
    refine ev_getP 68 mm_cl9 (j := 0) (Nat.le_of_ble_eq_true rfl) dX9_tryLag_65 lk242 (fun _ _ _ => rfl) (hV.1 17 _ rfl) (a := (x + 4)) (hV.2.2 20 _ _ _ rfl) rfl ?_
    refine ev_getP 71 mm_cl8 (j := 6) (Nat.le_of_ble_eq_true rfl) dX9_tryLag_68 lk149 (fun _ _ _ => rfl) (hV.1 4 _ rfl) (a := (x + 11)) (hV.2.2 14 _ _ _ rfl) rfl ?_
    refine ev_iload 73 dX9_tryLag_71 rfl rfl ?_
    refine ev_iald 74 _ dX9_tryLag_73 (hV.1 11 _ rfl) rfl (by have hNN := hV.2.1 11 _ rfl; omega) rfl ?_
    refine ev_eqI (y := (R n)) ((hR n (by omega))) ?_
    refine ev_i2l 75 dX9_tryLag_74 rfl ?_
    refine ev_lmul 76 dX9_tryLag_75 rfl ?_
    refine ev_ladd 77 dX9_tryLag_76 rfl ?_
    refine ev_lstore 79 (lv' := [_, _, _, _, none, _, _, _, _, _]) dX9_tryLag_77 (Nat.le_of_ble_eq_true rfl) rfl rfl ?_
    refine ev_iincN 82 (lv' := [_, _, _, _, _, _, none, _, _, _]) 1 dX9_tryLag_79 rfl (Nat.le_of_ble_eq_true rfl) rfl rfl ?_
    refine ev_goto 30 dX9_tryLag_82 (by decide) ?_
    refine ev_le (mle_s (mle_s (mle_s (mle_s (mle_n (mle_s (mle_n (mle_s (mle_n (mle_n (mle_0))))))))))) ?_
    exact e3
theorem lp_X9_tryLag2 {pt L : Nat} {G : Int64 × Int64} {s : Int64 × Int32 × Int32} {F : Nat → Int32} {Q : Nat → Int64} (hV : lyV B P x) (tp : mm_T B pt = 107) : ∀ (d k : Nat), k + d = 7 →
    Ev g mX9_tryLag 88 [some (.ref (x + 17)), some (.int (nI L)), some (.ref pt), some (.long G.1), none, some (.long G.2), none, some (.int (nI (k + 1))), none, none] [] B (va_up I pt (va_up (va_up F 0 (sp_tp G L s k).2.1) 1 (sp_tp G L s k).2.2)) (va_up J pt (va_up Q 7 (sp_tp G L s k).1)) P
      (none, B, va_up I pt (va_up (va_up F 0 (sp_tp G L s 7).2.1) 1 (sp_tp G L s 7).2.2), va_up J pt (va_up Q 7 (sp_tp G L s 7).1), P) := by
  intro d
  induction d with
  | zero =>
    intro k hk
    obtain rfl : k = 7 := by omega
    refine ev_iload 90 dX9_tryLag_88 rfl rfl ?_
    refine ev_bipushN 92 7 dX9_tryLag_90 (by decide +kernel) rfl ?_
    refine ev_icmp_gtN 95 152 dX9_tryLag_92 (by decide) (by omega) (by omega) rfl (fun hbr => ?_) (fun hx => absurd ((by omega)) hx)
    exact ev_vret dX9_tryLag_152 rfl (rfl)
  | succ d ih =>
    intro k hk
    have e := ih (k + 1) (by omega)
    generalize hz : sp_tp G L s 7 = qz at e ⊢
    rw [sp_tp] at e
    refine ev_iload 90 dX9_tryLag_88 rfl rfl ?_
    refine ev_bipushN 92 7 dX9_tryLag_90 (by decide +kernel) rfl ?_
    refine ev_icmp_gtN 95 152 dX9_tryLag_92 (by decide) (by omega) (by omega) rfl (fun hx => absurd hx ((by omega))) (fun hbr => ?_)
    refine ev_bipushN 97 25 dX9_tryLag_95 (by decide +kernel) rfl ?_
    refine ev_iload 99 dX9_tryLag_97 rfl rfl ?_
    refine ev_imulN 100 dX9_tryLag_99 rfl ?_
    refine ev_iload 102 dX9_tryLag_100 rfl rfl ?_
    refine ev_imulN 103 dX9_tryLag_102 rfl ?_
    refine ev_i2l 104 dX9_tryLag_103 rfl ?_
    refine ev_lload_n 105 dX9_tryLag_104 rfl rfl ?_
    refine ev_lmul 106 dX9_tryLag_105 rfl ?_
    refine ev_sipushN 109 320 dX9_tryLag_106 (by decide +kernel) rfl ?_
    refine ev_iload 111 dX9_tryLag_109 rfl rfl ?_
    refine ev_imulN 112 dX9_tryLag_111 rfl ?_
    refine ev_i2l 113 dX9_tryLag_112 rfl ?_
    refine ev_lload 115 dX9_tryLag_113 rfl rfl ?_
    refine ev_lmul 116 dX9_tryLag_115 rfl ?_
    refine ev_lsub 117 dX9_tryLag_116 rfl ?_
    refine ev_eqJ (y := sp_pc (k + 1) G.1 G.2) rfl ?_
    refine ev_lstore 119 (lv' := [_, _, _, _, _, _, _, some (.int _), _, _]) dX9_tryLag_117 (Nat.le_of_ble_eq_true rfl) rfl rfl ?_
    refine ev_lload 121 dX9_tryLag_119 rfl rfl ?_
    refine ev_aload_n 122 dX9_tryLag_121 rfl rfl ?_
    refine ev_getJ 125 mm_cl7 (j := 7) (Nat.le_of_ble_eq_true rfl) dX9_tryLag_122 lk220 (fun _ _ _ => rfl) tp rfl ?_
    refine ev_eqJ (y := ((sp_tp G L s k).1)) ((by rw [va_up_s, va_up_s])) ?_
    refine ev_lcmp 126 dX9_tryLag_125 rfl ?_
    refine ev_lc_ge 129 146 dX9_tryLag_126 (by decide) rfl (fun h => ?_) (fun h => ?_)
    · rw [if_neg h] at e
      refine ev_iincN 149 (lv' := [_, _, _, _, _, _, none, _, _, _]) 1 dX9_tryLag_146 rfl (Nat.le_of_ble_eq_true rfl) rfl rfl ?_
      refine ev_goto 88 dX9_tryLag_149 (by decide) ?_
      refine ev_le (mle_s (mle_s (mle_s (mle_s (mle_n (mle_s (mle_n (mle_s (mle_n (mle_n (mle_0))))))))))) ?_
      exact e
    · rw [if_pos h] at e
      refine ev_aload_n 130 dX9_tryLag_129 rfl rfl ?_
      refine ev_iload_n 131 dX9_tryLag_130 rfl rfl ?_
      refine ev_putI 134 mm_cl7 (j := 0) (Nat.le_of_ble_eq_true rfl) dX9_tryLag_131 lk201 rfl (fun _ _ _ => rfl) rfl rfl tp rfl ?_
      refine ev_aload_n 135 dX9_tryLag_134 rfl rfl ?_
      refine ev_iload 137 dX9_tryLag_135 rfl rfl ?_
      refine ev_putI 140 mm_cl7 (j := 1) (Nat.le_of_ble_eq_true rfl) dX9_tryLag_137 lk206 rfl (fun _ _ _ => rfl) rfl rfl tp rfl ?_
      refine ev_aload_n 141 dX9_tryLag_140 rfl rfl ?_
      refine ev_lload 143 dX9_tryLag_141 rfl rfl ?_
      refine ev_putJ 146 mm_cl7 (j := 7) (Nat.le_of_ble_eq_true rfl) dX9_tryLag_143 lk220 rfl (fun _ _ _ => rfl) rfl rfl tp rfl ?_
      refine ev_iincN 149 (lv' := [_, _, _, _, _, _, none, _, _, _]) 1 dX9_tryLag_146 rfl (Nat.le_of_ble_eq_true rfl) rfl rfl ?_
      refine ev_goto 88 dX9_tryLag_149 (by decide) ?_
      simp only [va_up_s, bx_uu]
      rw [va_3 F (a := 0) (b := 1) _ _ _ (by omega), bx_uu]
      refine ev_le (mle_s (mle_s (mle_s (mle_s (mle_n (mle_s (mle_n (mle_s (mle_n (mle_n (mle_0))))))))))) ?_
      exact e
theorem ct_X9_tryLag {pt L sb : Nat} {H R : Nat → Int32} {s : Int64 × Int32 × Int32} {F : Nat → Int32} {Q : Nat → Int64} (hV : lyV B P x) (tp : mm_T B pt = 107) (hpt : pt ≠ x + 7 ∧ pt ≠ x + 10 ∧ pt ≠ x + 11 ∧ pt ≠ x + 17) (hb : sb ≤ 80) (hs : I (x + 17) 2 = nI sb) (hH : ∀ n, n < 160 → I (x + 10) n = H n) (hR : ∀ n, n < sb → I (x + 11) n = R n) (hL : 20 ≤ L) (hL2 : L ≤ 147) :
    Ct g mX9_tryLag [.ref (x + 17), .int (nI L), .ref pt] B (va_up I pt (va_up (va_up F 0 s.2.1) 1 s.2.2)) (va_up J pt (va_up Q 7 s.1)) P
      (none, B, va_up (va_up I (x + 7) (sgp (I (x + 7)) 0 sb (sp_beh (I (x + 10)) L))) pt (va_up (va_up F 0 (sp_tp (sp_gc (sp_beh H L) R sb) L s 7).2.1) 1 (sp_tp (sp_gc (sp_beh H L) R sb) L s 7).2.2), va_up J pt (va_up Q 7 (sp_tp (sp_gc (sp_beh H L) R sb) L s 7).1), P) := by
  obtain ⟨q7, q10, q11, q17⟩ := hpt
  have n160 := hV.2.1 10 _ rfl
  have n7 := hV.2.1 7 _ rfl
  refine ct_of (lv := [some (.ref (x + 17)), some (.int (nI L)), some (.ref pt), none, none, none, none, none, none, none]) (by decide +kernel) (Nat.le_of_ble_eq_true rfl) rfl ?_
  refine ev_aload_n 1 dX9_tryLag_0 rfl rfl ?_
  refine ev_getP 4 mm_cl9 (j := 0) (Nat.le_of_ble_eq_true rfl) dX9_tryLag_1 lk242 (fun _ _ _ => rfl) (hV.1 17 _ rfl) (a := (x + 4)) (hV.2.2 20 _ _ _ rfl) rfl ?_
  refine ev_getP 7 mm_cl8 (j := 5) (Nat.le_of_ble_eq_true rfl) dX9_tryLag_4 lk147 (fun _ _ _ => rfl) (hV.1 4 _ rfl) (a := (x + 10)) (hV.2.2 13 _ _ _ rfl) rfl ?_
  refine ev_iload_n 8 dX9_tryLag_7 rfl rfl ?_
  refine ev_aload_n 9 dX9_tryLag_8 rfl rfl ?_
  refine ev_getP 12 mm_cl9 (j := 0) (Nat.le_of_ble_eq_true rfl) dX9_tryLag_9 lk242 (fun _ _ _ => rfl) (hV.1 17 _ rfl) (a := (x + 4)) (hV.2.2 20 _ _ _ rfl) rfl ?_
  refine ev_getP 15 mm_cl8 (j := 2) (Nat.le_of_ble_eq_true rfl) dX9_tryLag_12 lk140 (fun _ _ _ => rfl) (hV.1 4 _ rfl) (a := (x + 7)) (hV.2.2 10 _ _ _ rfl) rfl ?_
  refine ev_aload_n 16 dX9_tryLag_15 rfl rfl ?_
  refine ev_getI 19 mm_cl9 (j := 2) (Nat.le_of_ble_eq_true rfl) dX9_tryLag_16 lk245 (fun _ _ _ => rfl) (hV.1 17 _ rfl) rfl ?_
  refine ev_eqI (y := nI (sb)) ((by rw [va_up_n _ _ (fun z => q17 z.symm)]; exact hs)) ?_
  refine ev_invSNv 22 (Mc := mX11_lookBehind) ⟨lk756, lk75, hdX11_lookBehind, (Nat.le_of_ble_eq_true rfl), (Nat.le_of_ble_eq_true rfl)⟩ lk754 lk755 dX9_tryLag_19 (ct_X11_lookBehind (qh := x + 10) (qa := x + 7) (by omega) (hV.1 10 _ rfl) (hV.1 7 _ rfl) (by omega) (by omega) hb hL hL2) rfl (Nat.le_of_ble_eq_true rfl) rfl rfl ?_
  rw [va_up_n I (k := pt) (j := x + 7) _ (fun z => q7 z.symm), va_up_n I (k := pt) (j := x + 10) _ (fun z => q10 z.symm), va_comm I _ _ q7]
  refine ev_lconst 23 (v := 0) dX9_tryLag_22 (by decide +kernel) rfl ?_
  refine ev_lstore_n 24 (lv' := [_, _, some (.ref _), _, _, _, _, _, _, _]) dX9_tryLag_23 (Nat.le_of_ble_eq_true rfl) rfl rfl ?_
  refine ev_lconst 25 (v := 0) dX9_tryLag_24 (by decide +kernel) rfl ?_
  refine ev_lstore 27 (lv' := [_, _, _, _, none, _, _, _, _, _]) dX9_tryLag_25 (Nat.le_of_ble_eq_true rfl) rfl rfl ?_
  refine ev_iconstN 28 0 dX9_tryLag_27 rfl ?_
  refine ev_istore 30 (lv' := [_, _, _, _, _, _, none, _, _, _]) dX9_tryLag_28 (Nat.le_of_ble_eq_true rfl) rfl rfl ?_
  refine lp_X9_tryLag1 (A := sp_beh H L) (R := R) hV hb (by rw [va_up_n _ _ (fun z => q17 z.symm), va_up_n _ _ (by omega)]; exact hs) (fun n hn => by rw [va_up_n _ _ (fun z => q11 z.symm), va_up_n _ _ (by omega)]; exact hR n hn)
    (fun n hn => by
      rw [va_up_n _ _ (fun z => q7 z.symm), va_up_s]
      have e := sgp_in (f := I (x + 7)) (v := sp_beh (I (x + 10)) L) (off := 0) hn
      rw [Nat.zero_add] at e
      rw [e]
      have hm : n % L < L := Nat.mod_lt _ (by omega)
      exact hH _ (by omega)) ?_ sb 0 (by omega)
  refine ev_iconstN 86 1 dX9_tryLag_85 rfl ?_
  refine ev_istore 88 (lv' := [_, _, _, _, _, _, none, _, _, _]) dX9_tryLag_86 (Nat.le_of_ble_eq_true rfl) rfl rfl ?_
  exact lp_X9_tryLag2 hV tp 7 0 (by omega)
theorem lx_X9_tryLags {pt sb f st N lst : Nat} {H R : Nat → Int32} {s : Int64 × Int32 × Int32} {F : Nat → Int32} {Q : Nat → Int64} (hV : lyV B P x) (tp : mm_T B pt = 107) (hpt : pt ≠ x + 7 ∧ pt ≠ x + 10 ∧ pt ≠ x + 11 ∧ pt ≠ x + 17) (hb : sb ≤ 80) (hs : I (x + 17) 2 = nI sb) (hH : ∀ n, n < 160 → I (x + 10) n = H n) (hR : ∀ n, n < sb → I (x + 11) n = R n) (hf : 20 ≤ f) (hf2 : f ≤ 147) (hst : st ≤ 4)
    (hl : lst ≤ 147) (hN : ∀ k, f + st * k ≤ lst ↔ k < N) (hN2 : N ≤ 128) : ∀ (d k : Nat), k + d = N → ∀ A : Nat → Int32, ∃ A' : Nat → Int32,
    Ev g mX9_tryLags 22 [some (.ref (x + 17)), some (.int (nI f)), some (.int (nI lst)), some (.int (nI st)), some (.ref pt), some (.int (nI (f + st * k)))] [] B (va_up (va_up I (x + 7) A) pt (va_up (va_up F 0 (sp_tls H R sb f st s k).2.1) 1 (sp_tls H R sb f st s k).2.2)) (va_up J pt (va_up Q 7 (sp_tls H R sb f st s k).1)) P
      (none, B, va_up (va_up I (x + 7) A') pt (va_up (va_up F 0 (sp_tls H R sb f st s N).2.1) 1 (sp_tls H R sb f st s N).2.2), va_up J pt (va_up Q 7 (sp_tls H R sb f st s N).1), P) := by
  intro d
  induction d with
  | zero =>
    intro k hk A
    obtain rfl : k = N := by omega
    have h1 := hN k
    have h2 : st * k ≤ 4 * 128 := Nat.mul_le_mul hst hN2
    have h3 := hN (k - 1)
    refine ⟨A, ?_⟩
    refine ev_iload 24 dX9_tryLags_22 rfl rfl ?_
    refine ev_iload_n 25 dX9_tryLags_24 rfl rfl ?_
    refine ev_icmp_gtN 28 45 dX9_tryLags_25 (by decide) (by omega) (by omega) rfl (fun hbr => ?_) (fun hx => absurd ((by omega)) hx)
    exact ev_vret dX9_tryLags_45 rfl (rfl)
  | succ d ih =>
    intro k hk A
    have h1 := (hN k).mpr (by omega)
    obtain ⟨A', e⟩ := ih (k + 1) (by omega) (sgp A 0 sb (sp_beh (I (x + 10)) (f + st * k)))
    refine ⟨A', ?_⟩
    generalize hz : sp_tls H R sb f st s N = qz at e ⊢
    rw [show sp_tls H R sb f st s (k + 1) = sp_tp (sp_gc (sp_beh H (f + st * k)) R sb) (f + st * k) (sp_tls H R sb f st s k) 7 from rfl] at e
    have c := ct_X9_tryLag (g := g) (I := va_up I (x + 7) A) (J := J) (pt := pt) (L := f + st * k) (sb := sb) (H := H) (R := R) (s := sp_tls H R sb f st s k) (F := F) (Q := Q) hV tp hpt hb (by rw [va_up_n _ _ (by omega)]; exact hs) (fun n hn => by rw [va_up_n _ _ (by omega)]; exact hH n hn) (fun n hn => by rw [va_up_n _ _ (by omega)]; exact hR n hn) (by omega) (by omega)
    rw [va_up_s, bx_uu, va_up_n I (k := x + 7) (j := x + 10) _ (by omega)] at c
    refine ev_iload 24 dX9_tryLags_22 rfl rfl ?_
    refine ev_iload_n 25 dX9_tryLags_24 rfl rfl ?_
    refine ev_icmp_gtN 28 45 dX9_tryLags_25 (by decide) (by omega) (by omega) rfl (fun hx => absurd hx ((by omega))) (fun hbr => ?_)
    refine ev_aload_n 29 dX9_tryLags_28 rfl rfl ?_
    refine ev_iload 31 dX9_tryLags_29 rfl rfl ?_
    refine ev_aload 33 dX9_tryLags_31 rfl rfl ?_
    refine ev_invVv 36 (Mc := mX9_tryLag) ⟨lk753, lk78, hdX9_tryLag, (Nat.le_of_ble_eq_true rfl), (Nat.le_of_ble_eq_true rfl)⟩ lk750 lk752 lk11 mm_cl9 rfl dX9_tryLags_33 (c) rfl (hV.1 17 _ rfl) (Nat.le_of_ble_eq_true rfl) rfl rfl ?_
    refine ev_iload 38 dX9_tryLags_36 rfl rfl ?_
    refine ev_iload_n 39 dX9_tryLags_38 rfl rfl ?_
    refine ev_iaddN 40 dX9_tryLags_39 rfl ?_
    refine ev_istore 42 (lv' := [_, _, _, _, some (.ref _), _]) dX9_tryLags_40 (Nat.le_of_ble_eq_true rfl) rfl rfl ?_
    refine ev_goto 22 dX9_tryLags_42 (by decide) ?_
    rw [show f + st * k + st = f + st * (k + 1) by rw [Nat.mul_succ, Nat.add_assoc]]
    exact e
theorem cx_X9_tryLags {pt sb f st N lst : Nat} {H R : Nat → Int32} (hV : lyV B P x) (tp : mm_T B pt = 107) (hpt : pt ≠ x + 7 ∧ pt ≠ x + 10 ∧ pt ≠ x + 11 ∧ pt ≠ x + 17) (hb : sb ≤ 80) (hs : I (x + 17) 2 = nI sb) (hH : ∀ n, n < 160 → I (x + 10) n = H n) (hR : ∀ n, n < sb → I (x + 11) n = R n) (hf : 20 ≤ f) (hf2 : f ≤ 147) (hst : st ≤ 4)
    (hl : lst ≤ 147) (hN : ∀ k, f + st * k ≤ lst ↔ k < N) (hN2 : N ≤ 128) : ∃ A' : Nat → Int32, Ct g mX9_tryLags [.ref (x + 17), .int (nI f), .int (nI lst), .int (nI st), .ref pt] B I J P
      (none, B, va_up (va_up I (x + 7) A') pt (va_up (va_up (I pt) 0 (sp_tls H R sb f st sp_p0 N).2.1) 1 (sp_tls H R sb f st sp_p0 N).2.2), va_up J pt (va_up (J pt) 7 (sp_tls H R sb f st sp_p0 N).1), P) := by
  obtain ⟨A', e⟩ := lx_X9_tryLags (g := g) (I := I) (J := J) (s := sp_p0) (F := I pt) (Q := J pt) hV tp hpt hb hs hH hR hf hf2 hst hl hN hN2 N 0 (by omega) (I (x + 7))
  refine ⟨A', ?_⟩
  rw [va_up_id, Nat.mul_zero, Nat.add_zero] at e
  refine ct_of (lv := [some (.ref (x + 17)), some (.int (nI f)), some (.int (nI lst)), some (.int (nI st)), some (.ref pt), none]) (by decide +kernel) (Nat.le_of_ble_eq_true rfl) rfl ?_
  refine ev_aload 2 dX9_tryLags_0 rfl rfl ?_
  refine ev_bipushN 4 20 dX9_tryLags_2 (by decide +kernel) rfl ?_
  refine ev_putI 7 mm_cl7 (j := 0) (Nat.le_of_ble_eq_true rfl) dX9_tryLags_4 lk201 rfl (fun _ _ _ => rfl) rfl rfl tp rfl ?_
  refine ev_aload 9 dX9_tryLags_7 rfl rfl ?_
  refine ev_iconstN 10 0 dX9_tryLags_9 rfl ?_
  refine ev_putI 13 mm_cl7 (j := 1) (Nat.le_of_ble_eq_true rfl) dX9_tryLags_10 lk206 rfl (fun _ _ _ => rfl) rfl rfl tp rfl ?_
  refine ev_aload 15 dX9_tryLags_13 rfl rfl ?_
  refine ev_lconst 16 (v := 0) dX9_tryLags_15 (by decide +kernel) rfl ?_
  refine ev_putJ 19 mm_cl7 (j := 7) (Nat.le_of_ble_eq_true rfl) dX9_tryLags_16 lk220 rfl (fun _ _ _ => rfl) rfl rfl tp rfl ?_
  refine ev_iload_n 20 dX9_tryLags_19 rfl rfl ?_
  refine ev_istore 22 (lv' := [_, _, _, _, some (.ref _), _]) dX9_tryLags_20 (Nat.le_of_ble_eq_true rfl) rfl rfl ?_
  simp only [va_up_s, bx_uu]
  exact e
theorem cx_X9_findPitch {pt sb : Nat} {w : Nat} {H R : Nat → Int32} (hV : lyV B P x) (tp : mm_T B pt = 107) (hpt : pt ≠ x + 7 ∧ pt ≠ x + 10 ∧ pt ≠ x + 11 ∧ pt ≠ x + 17) (hb : sb ≤ 80) (hs : I (x + 17) 2 = nI sb) (hH : ∀ n, n < 160 → I (x + 10) n = H n) (hR : ∀ n, n < sb → I (x + 11) n = R n) (hw : w ≤ 1) :
    ∃ A' : Nat → Int32, Ct g mX9_findPitch [.ref (x + 17), .int (nI w), .ref pt] B I J P
      (none, B, va_up (va_up I (x + 7) A') pt (va_up (va_up (I pt) 0 (sp_pit H R sb (w = 1)).2.1) 1 (sp_pit H R sb (w = 1)).2.2), va_up J pt (va_up (J pt) 7 (sp_pit H R sb (w = 1)).1), P) := by
  by_cases c : w = 1
  · subst c
    obtain ⟨A', e⟩ := cx_X9_tryLags (g := g) (I := I) (J := J) (pt := pt) (sb := sb) (f := 20) (st := 1) (N := 128) (lst := 147) hV tp hpt hb hs hH hR (by omega) (by omega) (by omega) (by omega) (fun k => by omega) (by omega)
    refine ⟨A', ?_⟩
    rw [show sp_pit H R sb (1 = 1) = sp_tls H R sb 20 1 sp_p0 128 by unfold sp_pit; rw [if_pos rfl]]
    refine ct_of (lv := [some (.ref (x + 17)), some (.int (nI 1)), some (.ref pt), none]) (by decide +kernel) (Nat.le_of_ble_eq_true rfl) rfl ?_
    refine ev_iload_n 1 dX9_findPitch_0 rfl rfl ?_
    refine ev_if_eqN 4 16 dX9_findPitch_1 (by decide) (by omega) rfl (fun hx => absurd hx ((by omega))) (fun hbr => ?_)
    refine ev_aload_n 5 dX9_findPitch_4 rfl rfl ?_
    refine ev_bipushN 7 20 dX9_findPitch_5 (by decide +kernel) rfl ?_
    refine ev_sipushN 10 147 dX9_findPitch_7 (by decide +kernel) rfl ?_
    refine ev_iconstN 11 1 dX9_findPitch_10 rfl ?_
    refine ev_aload_n 12 dX9_findPitch_11 rfl rfl ?_
    refine ev_invVv 15 (Mc := mX9_tryLags) ⟨lk749, lk78, hdX9_tryLags, (Nat.le_of_ble_eq_true rfl), (Nat.le_of_ble_eq_true rfl)⟩ lk746 lk748 lk10 mm_cl9 rfl dX9_findPitch_12 (e) rfl (hV.1 17 _ rfl) (Nat.le_of_ble_eq_true rfl) rfl rfl ?_
    exact ev_vret dX9_findPitch_15 rfl (rfl)
  · obtain rfl : w = 0 := by omega
    obtain ⟨m1, m2, m3⟩ := sp_mid_e (H := H) (R := R) (sb := sb)
    obtain ⟨A1, e1⟩ := cx_X9_tryLags (g := g) (I := I) (J := J) (pt := pt) (sb := sb) (f := 20) (st := 4) (N := 32) (lst := 144) hV tp hpt hb hs hH hR (by omega) (by omega) (by omega) (by omega) (fun k => by omega) (by omega)
    rw [m1] at e1
    generalize hM : sp_mid H R sb = M at e1 m2 m3
    generalize hq1 : sp_tls H R sb 20 4 sp_p0 32 = q1 at e1
    obtain ⟨p7, p10, p11, p17⟩ := hpt
    obtain ⟨A2, e2⟩ := cx_X9_tryLags (g := g) (I := va_up (va_up I (x + 7) A1) pt (va_up (va_up (I pt) 0 (nI M)) 1 q1.2.2)) (J := va_up J pt (va_up (J pt) 7 q1.1)) (pt := pt) (sb := sb) (H := H) (R := R) (f := max 20 (M - 3)) (st := 1) (N := min 147 (M + 3) + 1 - max 20 (M - 3)) (lst := min 147 (M + 3)) hV tp ⟨p7, p10, p11, p17⟩ hb
      (by rw [va_up_n _ _ (fun z => p17 z.symm), va_up_n _ _ (by omega)]; exact hs) (fun n hn => by rw [va_up_n _ _ (fun z => p10 z.symm), va_up_n _ _ (by omega)]; exact hH n hn) (fun n hn => by rw [va_up_n _ _ (fun z => p11 z.symm), va_up_n _ _ (by omega)]; exact hR n hn) (by omega) (by omega) (by omega) (by omega) (fun k => by omega) (by omega)
    refine ⟨A2, ?_⟩
    rw [show sp_pit H R sb (0 = 1) = sp_tls H R sb (max 20 (M - 3)) 1 sp_p0 (min 147 (M + 3) + 1 - max 20 (M - 3)) by unfold sp_pit; rw [if_neg (by omega), hM]]
    generalize hq2 : sp_tls H R sb (max 20 (M - 3)) 1 sp_p0 (min 147 (M + 3) + 1 - max 20 (M - 3)) = q2 at e2 ⊢
    rw [va_up_s, bx_uu, va_up_s, va_3 I (a := x + 7) (b := pt) _ _ _ (fun z => p7 z.symm), bx_uu, va_3 (I pt) (a := 0) (b := 1) _ _ _ (by omega), bx_uu, bx_uu] at e2
    refine ct_of (lv := [some (.ref (x + 17)), some (.int (nI 0)), some (.ref pt), none]) (by decide +kernel) (Nat.le_of_ble_eq_true rfl) rfl ?_
    refine ev_iload_n 1 dX9_findPitch_0 rfl rfl ?_
    refine ev_if_eqN 4 16 dX9_findPitch_1 (by decide) (by omega) rfl (fun hbr => ?_) (fun hx => absurd (rfl) hx)
    refine ev_aload_n 17 dX9_findPitch_16 rfl rfl ?_
    refine ev_bipushN 19 20 dX9_findPitch_17 (by decide +kernel) rfl ?_
    refine ev_sipushN 22 144 dX9_findPitch_19 (by decide +kernel) rfl ?_
    refine ev_iconstN 23 4 dX9_findPitch_22 rfl ?_
    refine ev_aload_n 24 dX9_findPitch_23 rfl rfl ?_
    refine ev_invVv 27 (Mc := mX9_tryLags) ⟨lk749, lk78, hdX9_tryLags, (Nat.le_of_ble_eq_true rfl), (Nat.le_of_ble_eq_true rfl)⟩ lk746 lk748 lk10 mm_cl9 rfl dX9_findPitch_24 (e1) rfl (hV.1 17 _ rfl) (Nat.le_of_ble_eq_true rfl) rfl rfl ?_
    refine ev_aload_n 28 dX9_findPitch_27 rfl rfl ?_
    refine ev_getI 31 mm_cl7 (j := 0) (Nat.le_of_ble_eq_true rfl) dX9_findPitch_28 lk201 (fun _ _ _ => rfl) tp rfl ?_
    refine ev_eqI (y := nI (M)) ((by rw [va_up_s, va_up_n _ _ (by omega), va_up_s])) ?_
    refine ev_istore_n 32 (lv' := [_, _, some (.ref _), _]) dX9_findPitch_31 (Nat.le_of_ble_eq_true rfl) rfl rfl ?_
    refine ev_aload_n 33 dX9_findPitch_32 rfl rfl ?_
    refine ev_bipushN 35 20 dX9_findPitch_33 (by decide +kernel) rfl ?_
    refine ev_iload_n 36 dX9_findPitch_35 rfl rfl ?_
    refine ev_iconstN 37 3 dX9_findPitch_36 rfl ?_
    refine ev_isubN 38 dX9_findPitch_37 (by omega) rfl ?_
    refine ev_max 41 dX9_findPitch_38 lk757 lk679 lk87 lk680 (Nat.le_of_ble_eq_true rfl) (Nat.le_of_ble_eq_true rfl) (Nat.le_of_ble_eq_true rfl) rfl ?_
    refine ev_eqI (y := nI ((max 20 (M - 3)))) ((nI_max (by omega) (by omega))) ?_
    refine ev_sipushN 44 147 dX9_findPitch_41 (by decide +kernel) rfl ?_
    refine ev_iload_n 45 dX9_findPitch_44 rfl rfl ?_
    refine ev_iconstN 46 3 dX9_findPitch_45 rfl ?_
    refine ev_iaddN 47 dX9_findPitch_46 rfl ?_
    refine ev_min 50 dX9_findPitch_47 lk758 lk759 lk87 lk760 (Nat.le_of_ble_eq_true rfl) (Nat.le_of_ble_eq_true rfl) (Nat.le_of_ble_eq_true rfl) rfl ?_
    refine ev_eqI (y := nI ((min 147 (M + 3)))) ((nI_min (by omega) (by omega))) ?_
    refine ev_iconstN 51 1 dX9_findPitch_50 rfl ?_
    refine ev_aload_n 52 dX9_findPitch_51 rfl rfl ?_
    refine ev_invVv 55 (Mc := mX9_tryLags) ⟨lk749, lk78, hdX9_tryLags, (Nat.le_of_ble_eq_true rfl), (Nat.le_of_ble_eq_true rfl)⟩ lk746 lk748 lk10 mm_cl9 rfl dX9_findPitch_52 (e2) rfl (hV.1 17 _ rfl) (Nat.le_of_ble_eq_true rfl) rfl rfl ?_
    exact ev_vret dX9_findPitch_55 rfl (rfl)
end VHT
