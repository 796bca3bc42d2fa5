/-! PULSES: one try, both sides -/
def sp_im (a b : Option (Int × Nat)) : Nat := if a = b then 0 else 1
theorem sp_im_n {a b : Option (Int × Nat)} : narrow .boolean (.int (nI (sp_im a b))) = .int (nI (sp_im a b)) := by
  unfold sp_im
  by_cases c : a = b
  · rw [if_pos c]; rfl
  · rw [if_neg c]; rfl
theorem sp_im_1 {s : Option (Int × Nat)} {e d : Int} {k : Nat} (h : sp_lt (sp_co e d k) (sp_bs e d s k)) : sp_im s (sp_bs e d s (k + 1)) = 1 := by
  unfold sp_im
  rw [if_neg]
  rcases sp_bs_or (e := e) (d := d) (s := s) (k + 1) with c | ⟨z, c, c2⟩
  · exfalso
    rcases sp_bs_or (e := e) (d := d) (s := s) k with c3 | ⟨w, c3, c4⟩
    · rw [sp_bs, sp_u1_t h] at c
      rw [c3] at h
      exact sp_lt_ne (z := (sp_co e d k, k)) h c
    · rw [sp_bs, sp_u1_t h] at c
      rw [c3] at h
      rw [← c] at c4
      have a1 : sp_co e d k < w.1 := h
      have a2 : w.1 < sp_co e d k := c4
      omega
  · rw [c]
    exact fun z => sp_lt_ne c2 z.symm
/-- where nothing has been found the class and the model hold different costs -/
def cZ : Option (Int × Nat) → Int
  | none => 1125899906842624
  | some z => z.1
def mZ : Option (Int × Nat) → Int
  | none => 9223372036854775807
  | some z => z.1
def cF (F : Nat → Int32) : Option (Int × Nat) → Nat → Int32
  | none => F
  | some z => va_up F 4 (nI z.2)
def mF (F : Nat → Int32) : Option (Int × Nat) → Nat → Int32
  | none => F
  | some z => va_up F 77 (nI z.2)
theorem cF_up {F : Nat → Int32} {s : Option (Int × Nat)} {k : Nat} {c : Int} : va_up (cF F s) 4 (nI k) = cF F (some (c, k)) := by
  cases s with
  | none => rfl
  | some z => exact bx_uu _ _ _ _
theorem mF_up {F : Nat → Int32} {s : Option (Int × Nat)} {k : Nat} {c : Int} : va_up (mF F s) 77 (nI k) = mF F (some (c, k)) := by
  cases s with
  | none => rfl
  | some z => exact bx_uu _ _ _ _
theorem cZ_lt {s : Option (Int × Nat)} {c : Int} (hs : sp_ok s) (h1 : -35184372088832 < c) (h2 : c < 35184372088832) : Int64.ofInt c < Int64.ofInt (cZ s) ↔ sp_lt c s := by
  cases s with
  | none =>
    rw [show cZ none = 1125899906842624 from rfl, ji_lt (by omega) (by omega) (by omega) (by omega)]
    exact ⟨fun _ => trivial, fun _ => by omega⟩
  | some z =>
    obtain ⟨a, b, _⟩ := hs
    exact ji_lt (by omega) (by omega) (show -9223372036854775808 ≤ z.1 by omega) (show z.1 < 9223372036854775808 by omega)
theorem mZ_lt {s : Option (Int × Nat)} {c : Int} (hs : sp_ok s) (h1 : -35184372088832 < c) (h2 : c < 35184372088832) : Int64.ofInt c < Int64.ofInt (mZ s) ↔ sp_lt c s := by
  cases s with
  | none =>
    rw [show mZ none = 9223372036854775807 from rfl, ji_lt (by omega) (by omega) (by omega) (by omega)]
    exact ⟨fun _ => trivial, fun _ => by omega⟩
  | some z =>
    obtain ⟨a, b, _⟩ := hs
    exact ji_lt (by omega) (by omega) (show -9223372036854775808 ≤ z.1 by omega) (show z.1 < 9223372036854775808 by omega)
/-- the cost before -/
def sp_bf (N : Int) (e d : Int) : Nat → Int
  | 0 => N
  | j + 1 => sp_co e d j
theorem sp_coJ {e d : Int} {j : Nat} (hj : j < 52) : (nI (sp_gn j)).toInt64 * ((nI (sp_gn j)).toInt64 * Int64.ofInt e - 64 * Int64.ofInt d) = Int64.ofInt (sp_co e d j) := by
  have h := (sp_gn_b j hj).2
  unfold sp_co
  rw [ji_n (by omega), Int64.ofInt_mul, Int64.ofInt_sub, Int64.ofInt_mul, Int64.ofInt_mul, show Int64.ofInt 64 = 64 from rfl]
theorem sp_coM {e d : Int} {j : Nat} (hj : j < 52) : (nI (sp_gn j)).toInt64 * (nI (sp_gn j)).toInt64 * Int64.ofInt e - 64 * (nI (sp_gn j)).toInt64 * Int64.ofInt d = Int64.ofInt (sp_co e d j) := by
  have h := (sp_gn_b j hj).2
  rw [show sp_co e d j = (sp_gn j : Int) * (sp_gn j : Int) * e - 64 * (sp_gn j : Int) * d by unfold sp_co; grind]
  rw [ji_n (by omega), Int64.ofInt_sub, Int64.ofInt_mul, Int64.ofInt_mul, Int64.ofInt_mul, Int64.ofInt_mul, show Int64.ofInt 64 = 64 from rfl]
section VHB
variable {g : mm_G} {B : mm_B} {I : mm_TI} {J : mm_TJ} {P : mm_TP} {x : Nat}
theorem lp_X9_betters {e d : Int} {bn : Int64} {s : Option (Int × Nat)} {F : Nat → Int32} {Q : Nat → Int64} (hV : lyV B P x) (hG : ly_G g B) (hc : st_c g I) (hgx : ∀ i, i < 3 → g.2.2 i < x) (he : 0 < e) (he2 : e ≤ 4096) (hd : -8388608 ≤ d) (hd2 : d ≤ 8388608) (hs : sp_ok s) : ∀ (n j : Nat), j + n = 52 →
    Ev g mX9_betters 44 [some (.ref (x + 17)), some (.long (Int64.ofInt e)), none, some (.long (Int64.ofInt d)), none, some (.long bn), none, some (.int (nI (sp_im s (sp_bs e d s j)))), some (.long (Int64.ofInt (sp_bf 1125899906842624 e d j))), none, some (.int (nI j)), none, none] [] B (va_up I (x + 17) (cF F (sp_bs e d s j))) (va_up J (x + 17) (va_up Q 3 (Int64.ofInt (cZ (sp_bs e d s j))))) P
      (some (.int (nI (sp_im s (sp_bs e d s 52)))), B, va_up I (x + 17) (cF F (sp_bs e d s 52)), va_up J (x + 17) (va_up Q 3 (Int64.ofInt (cZ (sp_bs e d s 52)))), P) := by
  have g1 := hgx 1 (by decide)
  intro n
  induction n with
  | zero =>
    intro j hj
    obtain rfl : j = 52 := by omega
    have hzz := sp_im_n (a := s) (b := sp_bs e d s 52)
    refine ev_iload 46 dX9_betters_44 rfl rfl ?_
    refine ev_bipushN 48 51 dX9_betters_46 (by decide +kernel) rfl ?_
    refine ev_icmp_gtN 51 122 dX9_betters_48 (by decide) (by omega) (by omega) rfl (fun hbr => ?_) (fun hx => absurd ((by omega)) hx)
    refine ev_iload 124 dX9_betters_122 rfl rfl ?_
    exact ev_zret dX9_betters_124 rfl (by first | rfl | assumption) (rfl)
  | succ n ih =>
    intro j hj
    have e3 := ih (j + 1) (by omega)
    have hzz := sp_im_n (a := s) (b := sp_bs e d s j)
    have hb := sp_co_b (j := j) he he2 hd hd2 (by omega)
    have hok := sp_ok_bs he he2 hd hd2 hs j (by omega)
    have hcc := cZ_lt hok hb.1 hb.2
    have hend := fun (h1 : 1 ≤ j) (h : sp_co e d (j - 1) ≤ sp_co e d j) => sp_bs_end (s := s) he h1 (show j < 52 by omega) h
    have him := sp_im_1 (s := s) (e := e) (d := d) (k := j)
    generalize hZ : sp_bs e d s 52 = SZ at e3 hend ⊢
    have hbf : Int64.ofInt (sp_co e d j) < Int64.ofInt (sp_bf 1125899906842624 e d j) ↔ sp_co e d j < sp_bf 1125899906842624 e d j := by
      cases j with
      | zero => exact ji_lt (by omega) (by omega) (show -9223372036854775808 ≤ (1125899906842624 : Int) by omega) (show (1125899906842624 : Int) < 9223372036854775808 by omega)
      | succ i =>
        have hb2 := sp_co_b (j := i) he he2 hd hd2 (by omega)
        exact ji_lt (by omega) (by omega) (show -9223372036854775808 ≤ sp_co e d i by omega) (show sp_co e d i < 9223372036854775808 by omega)
    have eg : ∀ f, va_up I (x + 17) f (g.2.2 1) j = nI (sp_gn j) := fun f => by rw [va_up_n _ _ (by omega)]; exact hc.2.1 j (by omega)
    refine ev_iload 46 dX9_betters_44 rfl rfl ?_
    refine ev_bipushN 48 51 dX9_betters_46 (by decide +kernel) rfl ?_
    refine ev_icmp_gtN 51 122 dX9_betters_48 (by decide) (by omega) (by omega) rfl (fun hx => absurd hx ((by omega))) (fun hbr => ?_)
    refine ev_getsN 54 (i := 1) rfl dX9_betters_51 lk792 rfl ?_
    refine ev_iload 56 dX9_betters_54 rfl rfl ?_
    refine ev_ialdR 57 _ dX9_betters_56 (hG 1 _ rfl).1 rfl (by have hNN := (hG 1 _ rfl).2; omega) rfl ?_
    refine ev_eqI (y := (nI (sp_gn j))) ((eg _)) ?_
    refine ev_i2l 58 dX9_betters_57 rfl ?_
    refine ev_getsN 61 (i := 1) rfl dX9_betters_58 lk792 rfl ?_
    refine ev_iload 63 dX9_betters_61 rfl rfl ?_
    refine ev_ialdR 64 _ dX9_betters_63 (hG 1 _ rfl).1 rfl (by have hNN := (hG 1 _ rfl).2; omega) rfl ?_
    refine ev_eqI (y := (nI (sp_gn j))) ((eg _)) ?_
    refine ev_i2l 65 dX9_betters_64 rfl ?_
    refine ev_lload_n 66 dX9_betters_65 rfl rfl ?_
    refine ev_lmul 67 dX9_betters_66 rfl ?_
    refine ev_ldc2 70 dX9_betters_67 lk794 rfl ?_
    refine ev_lload_n 71 dX9_betters_70 rfl rfl ?_
    refine ev_lmul 72 dX9_betters_71 rfl ?_
    refine ev_lsub 73 dX9_betters_72 rfl ?_
    refine ev_lmul 74 dX9_betters_73 rfl ?_
    refine ev_eqJ (y := (Int64.ofInt (sp_co e d j))) ((sp_coJ (by omega))) ?_
    refine ev_lstore 76 (lv' := [_, _, _, _, _, _, _, _, _, _, some (.int _), _, _]) dX9_betters_74 (Nat.le_of_ble_eq_true rfl) rfl rfl ?_
    refine ev_lload 78 dX9_betters_76 rfl rfl ?_
    refine ev_lload 80 dX9_betters_78 rfl rfl ?_
    refine ev_lcmp 81 dX9_betters_80 rfl ?_
    rw [show sp_bf 1125899906842624 e d (j + 1) = sp_co e d j from rfl, show sp_bs e d s (j + 1) = sp_u1 (sp_co e d j) j (sp_bs e d s j) from rfl] at e3
    refine ev_lc_lt 84 87 dX9_betters_81 (by decide) rfl (fun h1 => ?_) (fun h1 => ?_)
    · refine ev_lload 89 dX9_betters_87 rfl rfl ?_
      refine ev_lstore 91 (lv' := [_, _, _, _, _, _, _, some (.int _), _, _, _, _, _]) dX9_betters_89 (Nat.le_of_ble_eq_true rfl) rfl rfl ?_
      refine ev_lload 93 dX9_betters_91 rfl rfl ?_
      refine ev_aload_n 94 dX9_betters_93 rfl rfl ?_
      refine ev_getJ 97 mm_cl9 (j := 3) (Nat.le_of_ble_eq_true rfl) dX9_betters_94 lk246 (fun _ _ _ => rfl) (hV.1 17 _ rfl) rfl ?_
      refine ev_eqJ (y := (Int64.ofInt (cZ (sp_bs e d s j)))) ((by rw [va_up_s, va_up_s])) ?_
      refine ev_lcmp 98 dX9_betters_97 rfl ?_
      refine ev_lc_ge 101 116 dX9_betters_98 (by decide) rfl (fun h2 => ?_) (fun h2 => ?_)
      · rw [sp_u1_f (fun z => h2 (hcc.mpr z))] at e3
        refine ev_iincN 119 (lv' := [_, _, _, _, _, _, _, _, _, none, _, _, _]) 1 dX9_betters_116 rfl (Nat.le_of_ble_eq_true rfl) rfl rfl ?_
        refine ev_goto 44 dX9_betters_119 (by decide) ?_
        refine ev_le (mle_s (mle_s (mle_n (mle_s (mle_n (mle_s (mle_n (mle_s (mle_s (mle_n (mle_s (mle_n (mle_n (mle_0)))))))))))))) ?_
        exact e3
      · have h3 := hcc.mp h2
        have him2 := him h3
        rw [show sp_bs e d s (j + 1) = sp_u1 (sp_co e d j) j (sp_bs e d s j) from rfl, sp_u1_t h3] at him2
        rw [sp_u1_t h3, him2] at e3
        refine ev_aload_n 102 dX9_betters_101 rfl rfl ?_
        refine ev_lload 104 dX9_betters_102 rfl rfl ?_
        refine ev_putJ 107 mm_cl9 (j := 3) (Nat.le_of_ble_eq_true rfl) dX9_betters_104 lk246 rfl (fun _ _ _ => rfl) rfl rfl (hV.1 17 _ rfl) rfl ?_
        refine ev_aload_n 108 dX9_betters_107 rfl rfl ?_
        refine ev_iload 110 dX9_betters_108 rfl rfl ?_
        refine ev_putI 113 mm_cl9 (j := 4) (Nat.le_of_ble_eq_true rfl) dX9_betters_110 lk247 rfl (fun _ _ _ => rfl) rfl rfl (hV.1 17 _ rfl) rfl ?_
        refine ev_iconstN 114 1 dX9_betters_113 rfl ?_
        refine ev_istore 116 (lv' := [_, _, _, _, _, _, none, _, _, _, _, _, _]) dX9_betters_114 (Nat.le_of_ble_eq_true rfl) rfl rfl ?_
        refine ev_iincN 119 (lv' := [_, _, _, _, _, _, _, _, _, none, _, _, _]) 1 dX9_betters_116 rfl (Nat.le_of_ble_eq_true rfl) rfl rfl ?_
        refine ev_goto 44 dX9_betters_119 (by decide) ?_
        simp only [va_up_s, bx_uu]
        rw [cF_up (c := sp_co e d j)]
        refine ev_le (mle_s (mle_s (mle_n (mle_s (mle_n (mle_s (mle_n (mle_s (mle_s (mle_n (mle_s (mle_n (mle_n (mle_0)))))))))))))) ?_
        exact e3
    · have h2 : ¬ sp_co e d j < sp_bf 1125899906842624 e d j := fun z => h1 (hbf.mpr z)
      have h3 : 1 ≤ j := by
        cases j with
        | zero =>
          have h3 : ¬ sp_co e d 0 < 1125899906842624 := h2
          omega
        | succ i => omega
      have h4 : sp_co e d (j - 1) ≤ sp_co e d j := by
        obtain ⟨i, rfl⟩ : ∃ i, j = i + 1 := ⟨j - 1, by omega⟩
        have : sp_bf 1125899906842624 e d (i + 1) = sp_co e d i := rfl
        rw [Nat.add_sub_cancel]
        omega
      rw [hend h3 h4]
      refine ev_goto 122 dX9_betters_84 (by decide) ?_
      refine ev_iload 124 dX9_betters_122 rfl rfl ?_
      exact ev_zret dX9_betters_124 rfl (by first | rfl | assumption) (rfl)
theorem ct_X9_betters {e d : Int} {s : Option (Int × Nat)} {F : Nat → Int32} {Q : Nat → Int64} (hV : lyV B P x) (hG : ly_G g B) (hc : st_c g I) (hgx : ∀ i, i < 3 → g.2.2 i < x) (he : 0 < e) (he2 : e ≤ 4096) (hd : -8388608 ≤ d) (hd2 : d ≤ 8388608) (hs : sp_ok s) :
    Ct g mX9_betters [.ref (x + 17), .long (Int64.ofInt e), .long (Int64.ofInt d)] B (va_up I (x + 17) (cF F s)) (va_up J (x + 17) (va_up Q 3 (Int64.ofInt (cZ s)))) P
      (some (.int (nI (sp_im s (sp_bs e d s 52)))), B, va_up I (x + 17) (cF F (sp_bs e d s 52)), va_up J (x + 17) (va_up Q 3 (Int64.ofInt (cZ (sp_bs e d s 52)))), P) := by
  have e0 := lp_X9_betters (g := g) (I := I) (J := J) (P := P) (bn := Int64.ofInt (if 0 < d then -1024 * d * d else 0)) (F := F) (Q := Q) hV hG hc hgx he he2 hd hd2 hs 52 0 (by omega)
  rw [show sp_bs e d s 0 = s from rfl, show sp_bf 1125899906842624 e d 0 = 1125899906842624 from rfl, show sp_im s s = 0 by unfold sp_im; rw [if_pos rfl]] at e0
  have d2 : d * d ≤ 8388608 * 8388608 := by
    by_cases c : 0 ≤ d
    · exact Int.mul_le_mul hd2 hd2 c (by omega)
    · have := Int.mul_le_mul (show -d ≤ 8388608 by omega) (show -d ≤ 8388608 by omega) (by omega) (by omega)
      rw [Int.neg_mul_neg] at this
      exact this
  have d3 : 0 ≤ d * d := by
    by_cases c : 0 ≤ d
    · exact Int.mul_nonneg c c
    · have := Int.mul_nonneg (show 0 ≤ -d by omega) (show 0 ≤ -d by omega)
      rw [Int.neg_mul_neg] at this
      exact this
  have db : -1024 * d * d = -1024 * (d * d) := by rw [Int.mul_assoc]
  have hbb : -72057594037927936 ≤ (if 0 < d then -1024 * d * d else 0) ∧ (if 0 < d then -1024 * d * d else 0) ≤ 0 := by
    by_cases c : 0 < d
    · rw [if_pos c, db]; omega
    · rw [if_neg c]; omega
  have hzz := sp_im_n (a := s) (b := sp_bs e d s 52)
  have hsk : ¬ Int64.ofInt (if 0 < d then -1024 * d * d else 0) < Int64.ofInt (cZ s) * Int64.ofInt e → sp_bs e d s 52 = s := by
    intro h
    rw [← Int64.ofInt_mul] at h
    cases s with
    | none =>
      have : cZ none * e = 1125899906842624 * e := rfl
      rw [this] at h
      rw [ji_lt (by omega) (by omega) (by omega) (by omega)] at h
      omega
    | some z =>
      obtain ⟨w, k⟩ := z
      obtain ⟨a, b, _⟩ := hs
      have a' : -35184372088832 < w := a
      have b' : w < 35184372088832 := b
      have : cZ (some (w, k)) * e = w * e := rfl
      rw [this] at h
      have m1 : w * e ≤ 35184372088832 * e := Int.mul_le_mul_of_nonneg_right (by omega) (by omega)
      have m2 : -35184372088832 * e ≤ w * e := Int.mul_le_mul_of_nonneg_right (by omega) (by omega)
      rw [ji_lt (by omega) (by omega) (by omega) (by omega)] at h
      exact sp_bs_no he (by omega)
  have key : Ev g mX9_betters 17 [some (.ref (x + 17)), some (.long (Int64.ofInt e)), none, some (.long (Int64.ofInt d)), none, none, none, none, none, none, none, none, none] [.long (Int64.ofInt (if 0 < d then -1024 * d * d else 0))] B (va_up I (x + 17) (cF F s)) (va_up J (x + 17) (va_up Q 3 (Int64.ofInt (cZ s)))) P
      (some (.int (nI (sp_im s (sp_bs e d s 52)))), B, va_up I (x + 17) (cF F (sp_bs e d s 52)), va_up J (x + 17) (va_up Q 3 (Int64.ofInt (cZ (sp_bs e d s 52)))), P) := by
    refine ev_lstore 19 (lv' := [_, _, _, _, none, _, _, _, _, _, _, _, _]) dX9_betters_17 (Nat.le_of_ble_eq_true rfl) rfl rfl ?_
    refine ev_lload 21 dX9_betters_19 rfl rfl ?_
    refine ev_aload_n 22 dX9_betters_21 rfl rfl ?_
    refine ev_getJ 25 mm_cl9 (j := 3) (Nat.le_of_ble_eq_true rfl) dX9_betters_22 lk246 (fun _ _ _ => rfl) (hV.1 17 _ rfl) rfl ?_
    refine ev_eqJ (y := (Int64.ofInt (cZ s))) ((by rw [va_up_s, va_up_s])) ?_
    refine ev_lload_n 26 dX9_betters_25 rfl rfl ?_
    refine ev_lmul 27 dX9_betters_26 rfl ?_
    refine ev_lcmp 28 dX9_betters_27 rfl ?_
    refine ev_lc_lt 31 33 dX9_betters_28 (by decide) rfl (fun h1 => ?_) (fun h1 => ?_)
    · refine ev_iconstN 34 0 dX9_betters_33 rfl ?_
      refine ev_istore 36 (lv' := [_, _, _, _, _, _, none, _, _, _, _, _, _]) dX9_betters_34 (Nat.le_of_ble_eq_true rfl) rfl rfl ?_
      refine ev_ldc2 39 dX9_betters_36 lk779 rfl ?_
      refine ev_lstore 41 (lv' := [_, _, _, _, _, _, _, some (.int _), _, _, _, _, _]) dX9_betters_39 (Nat.le_of_ble_eq_true rfl) rfl rfl ?_
      refine ev_iconstN 42 0 dX9_betters_41 rfl ?_
      refine ev_istore 44 (lv' := [_, _, _, _, _, _, _, _, _, none, _, _, _]) dX9_betters_42 (Nat.le_of_ble_eq_true rfl) rfl rfl ?_
      exact e0
    · rw [hsk h1, show sp_im s s = 0 by unfold sp_im; rw [if_pos rfl]]
      refine ev_iconstN 32 0 dX9_betters_31 rfl ?_
      exact ev_zret dX9_betters_32 rfl (by first | rfl | assumption) (rfl)
  refine ct_of (lv := [some (.ref (x + 17)), some (.long (Int64.ofInt e)), none, some (.long (Int64.ofInt d)), none, none, none, none, none, none, none, none, none]) (by decide +kernel) (Nat.le_of_ble_eq_true rfl) rfl ?_
  refine ev_lload_n 1 dX9_betters_0 rfl rfl ?_
  refine ev_lconst 2 (v := 0) dX9_betters_1 (by decide +kernel) rfl ?_
  refine ev_lcmp 3 dX9_betters_2 rfl ?_
  have hdz : Int64.ofInt 0 < Int64.ofInt d ↔ 0 < d := ji_lt (by omega) (by omega) (by omega) (by omega)
  refine ev_lc_le 6 16 dX9_betters_3 (by decide) rfl (fun h1 => ?_) (fun h1 => ?_)
  · rw [if_neg (fun z => h1 (hdz.mpr z))] at key
    refine ev_lconst 17 (v := 0) dX9_betters_16 (by decide +kernel) rfl ?_
    exact key
  · rw [if_pos (hdz.mp h1), Int64.ofInt_mul, Int64.ofInt_mul] at key
    refine ev_ldc2 9 dX9_betters_6 lk791 rfl ?_
    refine ev_lload_n 10 dX9_betters_9 rfl rfl ?_
    refine ev_lmul 11 dX9_betters_10 rfl ?_
    refine ev_lload_n 12 dX9_betters_11 rfl rfl ?_
    refine ev_lmul 13 dX9_betters_12 rfl ?_
    refine ev_goto 17 dX9_betters_13 (by decide) ?_
    exact key
def sp_tn (s : Nat) (v : Int) : Int := if s = 0 then v else -v
theorem ct_X9_turned {s : Nat} {v : Int} (hs : s ≤ 1) : Ct g mX9_turned [.int (Int32.ofInt v), .int (nI s)] B I J P (some (.int (Int32.ofInt (sp_tn s v))), B, I, J, P) := by
  unfold sp_tn
  refine ct_of (lv := [some (.int (Int32.ofInt v)), some (.int (nI s))]) (by decide +kernel) (Nat.le_of_ble_eq_true rfl) rfl ?_
  refine ev_iload_n 1 dX9_turned_0 rfl rfl ?_
  refine ev_if_neN 4 8 dX9_turned_1 (by decide) (by omega) rfl (fun h => ?_) (fun h => ?_)
  · rw [if_neg h, Int32.ofInt_neg]
    refine ev_iload_n 9 dX9_turned_8 rfl rfl ?_
    refine ev_ineg 10 dX9_turned_9 rfl ?_
    exact ev_iret dX9_turned_10 rfl (rfl)
  · rw [if_pos h]
    refine ev_iload_n 5 dX9_turned_4 rfl rfl ?_
    refine ev_goto 10 dX9_turned_5 (by decide) ?_
    exact ev_iret dX9_turned_10 rfl (rfl)
def sp_en (sb q : Nat) : Nat := if q + 2 < sb then 1344 else if q + 1 < sb then 1280 else 1024
def sp_ov (sb lo hi : Nat) : Nat := if hi = lo + 1 then (if hi + 1 < sb then 384 else 512) else 0
theorem ct_X9_overlap0 {sb q : Nat} (hV : lyV B P x) (hG : ly_G g B) (hc : st_c g I) (hs : I (x + 17) 2 = nI sb) (hb : sb ≤ 80) (hq : q < sb) : Ct g mX9_overlap [.ref (x + 17), .int (nI q), .int (nI q)] B I J P (some (.int (nI (sp_en sb q))), B, I, J, P) := by
  have s0 := hc.2.2 0 (by omega)
  have s1 := hc.2.2 1 (by omega)
  have s2 := hc.2.2 2 (by omega)
  unfold sp_en
  refine ct_of (lv := [some (.ref (x + 17)), some (.int (nI q)), some (.int (nI q)), none, none, none]) (by decide +kernel) (Nat.le_of_ble_eq_true rfl) rfl ?_
  refine ev_iconstN 1 0 dX9_overlap_0 rfl ?_
  refine ev_istore_n 2 (lv' := [_, _, some (.int _), _, _, _]) dX9_overlap_1 (Nat.le_of_ble_eq_true rfl) rfl rfl ?_
  refine ev_iload_n 3 dX9_overlap_2 rfl rfl ?_
  refine ev_iload_n 4 dX9_overlap_3 rfl rfl ?_
  refine ev_isubN 5 dX9_overlap_4 (by omega) rfl ?_
  rw [Nat.sub_self]
  refine ev_istore 7 (lv' := [_, _, _, some (.int _), _, _]) dX9_overlap_5 (Nat.le_of_ble_eq_true rfl) rfl rfl ?_
  refine ev_iconstN 8 0 dX9_overlap_7 rfl ?_
  refine ev_istore 10 (lv' := [_, _, _, _, some (.int _), _]) dX9_overlap_8 (Nat.le_of_ble_eq_true rfl) rfl rfl ?_
  refine ev_iload 12 dX9_overlap_10 rfl rfl ?_
  refine ev_iload 14 dX9_overlap_12 rfl rfl ?_
  refine ev_iaddN 15 dX9_overlap_14 rfl ?_
  refine ev_getsN 18 (i := 2) rfl dX9_overlap_15 lk769 rfl ?_
  refine ev_alenR 19 dX9_overlap_18 (hG 2 _ rfl).1 rfl ?_
  refine ev_eqI (y := nI 3) (by rw [(hG 2 _ rfl).2]) ?_
  refine ev_icmp_geN 22 58 dX9_overlap_19 (by decide) (by omega) (by omega) rfl (fun hx => absurd hx ((by omega))) (fun hbr => ?_)
  refine ev_iload_n 23 dX9_overlap_22 rfl rfl ?_
  refine ev_iload 25 dX9_overlap_23 rfl rfl ?_
  refine ev_iaddN 26 dX9_overlap_25 rfl ?_
  refine ev_aload_n 27 dX9_overlap_26 rfl rfl ?_
  refine ev_getI 30 mm_cl9 (j := 2) (Nat.le_of_ble_eq_true rfl) dX9_overlap_27 lk245 (fun _ _ _ => rfl) (hV.1 17 _ rfl) rfl ?_
  refine ev_eqI (y := nI (sb)) (hs) ?_
  refine ev_icmp_geN 33 58 dX9_overlap_30 (by decide) (by omega) (by omega) rfl (fun hx => absurd hx ((by omega))) (fun hbr => ?_)
  refine ev_iload_n 34 dX9_overlap_33 rfl rfl ?_
  refine ev_getsN 37 (i := 2) rfl dX9_overlap_34 lk769 rfl ?_
  refine ev_iload 39 dX9_overlap_37 rfl rfl ?_
  refine ev_iload 41 dX9_overlap_39 rfl rfl ?_
  refine ev_iaddN 42 dX9_overlap_41 rfl ?_
  refine ev_ialdR 43 _ dX9_overlap_42 (hG 2 _ rfl).1 rfl (by have hNN := (hG 2 _ rfl).2; omega) rfl ?_
  refine ev_eqI (y := (sp_ph 0)) (s0) ?_
  refine ev_getsN 46 (i := 2) rfl dX9_overlap_43 lk769 rfl ?_
  refine ev_iload 48 dX9_overlap_46 rfl rfl ?_
  refine ev_ialdR 49 _ dX9_overlap_48 (hG 2 _ rfl).1 rfl (by have hNN := (hG 2 _ rfl).2; omega) rfl ?_
  refine ev_eqI (y := (sp_ph 0)) (s0) ?_
  refine ev_imul 50 dX9_overlap_49 rfl ?_
  refine ev_iadd 51 dX9_overlap_50 rfl ?_
  refine ev_istore_n 52 (lv' := [_, _, some (.int _), _, _, _]) dX9_overlap_51 (Nat.le_of_ble_eq_true rfl) rfl rfl ?_
  refine ev_iincN 55 (lv' := [_, _, _, _, some (.int _), _]) 1 dX9_overlap_52 rfl (Nat.le_of_ble_eq_true rfl) rfl rfl ?_
  refine ev_goto 10 dX9_overlap_55 (by decide) ?_
  refine ev_iload 12 dX9_overlap_10 rfl rfl ?_
  refine ev_iload 14 dX9_overlap_12 rfl rfl ?_
  refine ev_iaddN 15 dX9_overlap_14 rfl ?_
  refine ev_getsN 18 (i := 2) rfl dX9_overlap_15 lk769 rfl ?_
  refine ev_alenR 19 dX9_overlap_18 (hG 2 _ rfl).1 rfl ?_
  refine ev_eqI (y := nI 3) (by rw [(hG 2 _ rfl).2]) ?_
  refine ev_icmp_geN 22 58 dX9_overlap_19 (by decide) (by omega) (by omega) rfl (fun hx => absurd hx ((by omega))) (fun hbr => ?_)
  refine ev_iload_n 23 dX9_overlap_22 rfl rfl ?_
  refine ev_iload 25 dX9_overlap_23 rfl rfl ?_
  refine ev_iaddN 26 dX9_overlap_25 rfl ?_
  refine ev_aload_n 27 dX9_overlap_26 rfl rfl ?_
  refine ev_getI 30 mm_cl9 (j := 2) (Nat.le_of_ble_eq_true rfl) dX9_overlap_27 lk245 (fun _ _ _ => rfl) (hV.1 17 _ rfl) rfl ?_
  refine ev_eqI (y := nI (sb)) (hs) ?_
  refine ev_icmp_geN 33 58 dX9_overlap_30 (by decide) (by omega) (by omega) rfl (fun h1 => ?_) (fun h1 => ?_)
  · rw [if_neg (by omega), if_neg (by omega)]
    refine ev_iload_n 59 dX9_overlap_58 rfl rfl ?_
    exact ev_iret dX9_overlap_59 rfl ((by rw [show nI 0 + sp_ph 0 * sp_ph 0 = nI 1024 by decide +kernel]))
  · refine ev_iload_n 34 dX9_overlap_33 rfl rfl ?_
    refine ev_getsN 37 (i := 2) rfl dX9_overlap_34 lk769 rfl ?_
    refine ev_iload 39 dX9_overlap_37 rfl rfl ?_
    refine ev_iload 41 dX9_overlap_39 rfl rfl ?_
    refine ev_iaddN 42 dX9_overlap_41 rfl ?_
    refine ev_ialdR 43 _ dX9_overlap_42 (hG 2 _ rfl).1 rfl (by have hNN := (hG 2 _ rfl).2; omega) rfl ?_
    refine ev_eqI (y := (sp_ph 1)) (s1) ?_
    refine ev_getsN 46 (i := 2) rfl dX9_overlap_43 lk769 rfl ?_
    refine ev_iload 48 dX9_overlap_46 rfl rfl ?_
    refine ev_ialdR 49 _ dX9_overlap_48 (hG 2 _ rfl).1 rfl (by have hNN := (hG 2 _ rfl).2; omega) rfl ?_
    refine ev_eqI (y := (sp_ph 1)) (s1) ?_
    refine ev_imul 50 dX9_overlap_49 rfl ?_
    refine ev_iadd 51 dX9_overlap_50 rfl ?_
    refine ev_istore_n 52 (lv' := [_, _, some (.int _), _, _, _]) dX9_overlap_51 (Nat.le_of_ble_eq_true rfl) rfl rfl ?_
    refine ev_iincN 55 (lv' := [_, _, _, _, some (.int _), _]) 1 dX9_overlap_52 rfl (Nat.le_of_ble_eq_true rfl) rfl rfl ?_
    refine ev_goto 10 dX9_overlap_55 (by decide) ?_
    refine ev_iload 12 dX9_overlap_10 rfl rfl ?_
    refine ev_iload 14 dX9_overlap_12 rfl rfl ?_
    refine ev_iaddN 15 dX9_overlap_14 rfl ?_
    refine ev_getsN 18 (i := 2) rfl dX9_overlap_15 lk769 rfl ?_
    refine ev_alenR 19 dX9_overlap_18 (hG 2 _ rfl).1 rfl ?_
    refine ev_eqI (y := nI 3) (by rw [(hG 2 _ rfl).2]) ?_
    refine ev_icmp_geN 22 58 dX9_overlap_19 (by decide) (by omega) (by omega) rfl (fun hx => absurd hx ((by omega))) (fun hbr => ?_)
    refine ev_iload_n 23 dX9_overlap_22 rfl rfl ?_
    refine ev_iload 25 dX9_overlap_23 rfl rfl ?_
    refine ev_iaddN 26 dX9_overlap_25 rfl ?_
    refine ev_aload_n 27 dX9_overlap_26 rfl rfl ?_
    refine ev_getI 30 mm_cl9 (j := 2) (Nat.le_of_ble_eq_true rfl) dX9_overlap_27 lk245 (fun _ _ _ => rfl) (hV.1 17 _ rfl) rfl ?_
    refine ev_eqI (y := nI (sb)) (hs) ?_
    refine ev_icmp_geN 33 58 dX9_overlap_30 (by decide) (by omega) (by omega) rfl (fun h2 => ?_) (fun h2 => ?_)
    · rw [if_neg (by omega), if_pos (by omega)]
      refine ev_iload_n 59 dX9_overlap_58 rfl rfl ?_
      exact ev_iret dX9_overlap_59 rfl ((by rw [show nI 0 + sp_ph 0 * sp_ph 0 + sp_ph 1 * sp_ph 1 = nI 1280 by decide +kernel]))
    · rw [if_pos (by omega)]
      refine ev_iload_n 34 dX9_overlap_33 rfl rfl ?_
      refine ev_getsN 37 (i := 2) rfl dX9_overlap_34 lk769 rfl ?_
      refine ev_iload 39 dX9_overlap_37 rfl rfl ?_
      refine ev_iload 41 dX9_overlap_39 rfl rfl ?_
      refine ev_iaddN 42 dX9_overlap_41 rfl ?_
      refine ev_ialdR 43 _ dX9_overlap_42 (hG 2 _ rfl).1 rfl (by have hNN := (hG 2 _ rfl).2; omega) rfl ?_
      refine ev_eqI (y := (sp_ph 2)) (s2) ?_
      refine ev_getsN 46 (i := 2) rfl dX9_overlap_43 lk769 rfl ?_
      refine ev_iload 48 dX9_overlap_46 rfl rfl ?_
      refine ev_ialdR 49 _ dX9_overlap_48 (hG 2 _ rfl).1 rfl (by have hNN := (hG 2 _ rfl).2; omega) rfl ?_
      refine ev_eqI (y := (sp_ph 2)) (s2) ?_
      refine ev_imul 50 dX9_overlap_49 rfl ?_
      refine ev_iadd 51 dX9_overlap_50 rfl ?_
      refine ev_istore_n 52 (lv' := [_, _, some (.int _), _, _, _]) dX9_overlap_51 (Nat.le_of_ble_eq_true rfl) rfl rfl ?_
      refine ev_iincN 55 (lv' := [_, _, _, _, some (.int _), _]) 1 dX9_overlap_52 rfl (Nat.le_of_ble_eq_true rfl) rfl rfl ?_
      refine ev_goto 10 dX9_overlap_55 (by decide) ?_
      refine ev_iload 12 dX9_overlap_10 rfl rfl ?_
      refine ev_iload 14 dX9_overlap_12 rfl rfl ?_
      refine ev_iaddN 15 dX9_overlap_14 rfl ?_
      refine ev_getsN 18 (i := 2) rfl dX9_overlap_15 lk769 rfl ?_
      refine ev_alenR 19 dX9_overlap_18 (hG 2 _ rfl).1 rfl ?_
      refine ev_eqI (y := nI 3) (by rw [(hG 2 _ rfl).2]) ?_
      refine ev_icmp_geN 22 58 dX9_overlap_19 (by decide) (by omega) (by omega) rfl (fun hbr => ?_) (fun hx => absurd ((by omega)) hx)
      refine ev_iload_n 59 dX9_overlap_58 rfl rfl ?_
      exact ev_iret dX9_overlap_59 rfl ((by rw [show nI 0 + sp_ph 0 * sp_ph 0 + sp_ph 1 * sp_ph 1 + sp_ph 2 * sp_ph 2 = nI 1344 by decide +kernel]))
theorem ct_X9_overlap {sb lo hi : Nat} (hV : lyV B P x) (hG : ly_G g B) (hc : st_c g I) (hs : I (x + 17) 2 = nI sb) (hb : sb ≤ 80) (h1 : lo < hi) (h2 : hi < sb) (h3 : hi ≠ lo + 2) : Ct g mX9_overlap [.ref (x + 17), .int (nI lo), .int (nI hi)] B I J P (some (.int (nI (sp_ov sb lo hi))), B, I, J, P) := by
  have s0 := hc.2.2 0 (by omega)
  have s1 := hc.2.2 1 (by omega)
  have s2 := hc.2.2 2 (by omega)
  unfold sp_ov
  by_cases c : hi = lo + 1
  · rw [if_pos c]
    refine ct_of (lv := [some (.ref (x + 17)), some (.int (nI lo)), some (.int (nI hi)), none, none, none]) (by decide +kernel) (Nat.le_of_ble_eq_true rfl) rfl ?_
    refine ev_iconstN 1 0 dX9_overlap_0 rfl ?_
    refine ev_istore_n 2 (lv' := [_, _, some (.int _), _, _, _]) dX9_overlap_1 (Nat.le_of_ble_eq_true rfl) rfl rfl ?_
    refine ev_iload_n 3 dX9_overlap_2 rfl rfl ?_
    refine ev_iload_n 4 dX9_overlap_3 rfl rfl ?_
    refine ev_isubN 5 dX9_overlap_4 (by omega) rfl ?_
    rw [show hi - lo = 1 by omega]
    refine ev_istore 7 (lv' := [_, _, _, some (.int _), _, _]) dX9_overlap_5 (Nat.le_of_ble_eq_true rfl) rfl rfl ?_
    refine ev_iconstN 8 0 dX9_overlap_7 rfl ?_
    refine ev_istore 10 (lv' := [_, _, _, _, some (.int _), _]) dX9_overlap_8 (Nat.le_of_ble_eq_true rfl) rfl rfl ?_
    refine ev_iload 12 dX9_overlap_10 rfl rfl ?_
    refine ev_iload 14 dX9_overlap_12 rfl rfl ?_
    refine ev_iaddN 15 dX9_overlap_14 rfl ?_
    refine ev_getsN 18 (i := 2) rfl dX9_overlap_15 lk769 rfl ?_
    refine ev_alenR 19 dX9_overlap_18 (hG 2 _ rfl).1 rfl ?_
    refine ev_eqI (y := nI 3) (by rw [(hG 2 _ rfl).2]) ?_
    refine ev_icmp_geN 22 58 dX9_overlap_19 (by decide) (by omega) (by omega) rfl (fun hx => absurd hx ((by omega))) (fun hbr => ?_)
    refine ev_iload_n 23 dX9_overlap_22 rfl rfl ?_
    refine ev_iload 25 dX9_overlap_23 rfl rfl ?_
    refine ev_iaddN 26 dX9_overlap_25 rfl ?_
    refine ev_aload_n 27 dX9_overlap_26 rfl rfl ?_
    refine ev_getI 30 mm_cl9 (j := 2) (Nat.le_of_ble_eq_true rfl) dX9_overlap_27 lk245 (fun _ _ _ => rfl) (hV.1 17 _ rfl) rfl ?_
    refine ev_eqI (y := nI (sb)) (hs) ?_
    refine ev_icmp_geN 33 58 dX9_overlap_30 (by decide) (by omega) (by omega) rfl (fun hx => absurd hx ((by omega))) (fun hbr => ?_)
    refine ev_iload_n 34 dX9_overlap_33 rfl rfl ?_
    refine ev_getsN 37 (i := 2) rfl dX9_overlap_34 lk769 rfl ?_
    refine ev_iload 39 dX9_overlap_37 rfl rfl ?_
    refine ev_iload 41 dX9_overlap_39 rfl rfl ?_
    refine ev_iaddN 42 dX9_overlap_41 rfl ?_
    refine ev_ialdR 43 _ dX9_overlap_42 (hG 2 _ rfl).1 rfl (by have hNN := (hG 2 _ rfl).2; omega) rfl ?_
    refine ev_eqI (y := (sp_ph 1)) (s1) ?_
    refine ev_getsN 46 (i := 2) rfl dX9_overlap_43 lk769 rfl ?_
    refine ev_iload 48 dX9_overlap_46 rfl rfl ?_
    refine ev_ialdR 49 _ dX9_overlap_48 (hG 2 _ rfl).1 rfl (by have hNN := (hG 2 _ rfl).2; omega) rfl ?_
    refine ev_eqI (y := (sp_ph 0)) (s0) ?_
    refine ev_imul 50 dX9_overlap_49 rfl ?_
    refine ev_iadd 51 dX9_overlap_50 rfl ?_
    refine ev_istore_n 52 (lv' := [_, _, some (.int _), _, _, _]) dX9_overlap_51 (Nat.le_of_ble_eq_true rfl) rfl rfl ?_
    refine ev_iincN 55 (lv' := [_, _, _, _, some (.int _), _]) 1 dX9_overlap_52 rfl (Nat.le_of_ble_eq_true rfl) rfl rfl ?_
    refine ev_goto 10 dX9_overlap_55 (by decide) ?_
    refine ev_iload 12 dX9_overlap_10 rfl rfl ?_
    refine ev_iload 14 dX9_overlap_12 rfl rfl ?_
    refine ev_iaddN 15 dX9_overlap_14 rfl ?_
    refine ev_getsN 18 (i := 2) rfl dX9_overlap_15 lk769 rfl ?_
    refine ev_alenR 19 dX9_overlap_18 (hG 2 _ rfl).1 rfl ?_
    refine ev_eqI (y := nI 3) (by rw [(hG 2 _ rfl).2]) ?_
    refine ev_icmp_geN 22 58 dX9_overlap_19 (by decide) (by omega) (by omega) rfl (fun hx => absurd hx ((by omega))) (fun hbr => ?_)
    refine ev_iload_n 23 dX9_overlap_22 rfl rfl ?_
    refine ev_iload 25 dX9_overlap_23 rfl rfl ?_
    refine ev_iaddN 26 dX9_overlap_25 rfl ?_
    refine ev_aload_n 27 dX9_overlap_26 rfl rfl ?_
    refine ev_getI 30 mm_cl9 (j := 2) (Nat.le_of_ble_eq_true rfl) dX9_overlap_27 lk245 (fun _ _ _ => rfl) (hV.1 17 _ rfl) rfl ?_
    refine ev_eqI (y := nI (sb)) (hs) ?_
    refine ev_icmp_geN 33 58 dX9_overlap_30 (by decide) (by omega) (by omega) rfl (fun h1 => ?_) (fun h1 => ?_)
    · rw [if_neg (by omega)]
      refine ev_iload_n 59 dX9_overlap_58 rfl rfl ?_
      exact ev_iret dX9_overlap_59 rfl ((by rw [show nI 0 + sp_ph 1 * sp_ph 0 = nI 512 by decide +kernel]))
    · rw [if_pos (by omega)]
      refine ev_iload_n 34 dX9_overlap_33 rfl rfl ?_
      refine ev_getsN 37 (i := 2) rfl dX9_overlap_34 lk769 rfl ?_
      refine ev_iload 39 dX9_overlap_37 rfl rfl ?_
      refine ev_iload 41 dX9_overlap_39 rfl rfl ?_
      refine ev_iaddN 42 dX9_overlap_41 rfl ?_
      refine ev_ialdR 43 _ dX9_overlap_42 (hG 2 _ rfl).1 rfl (by have hNN := (hG 2 _ rfl).2; omega) rfl ?_
      refine ev_eqI (y := (sp_ph 2)) (s2) ?_
      refine ev_getsN 46 (i := 2) rfl dX9_overlap_43 lk769 rfl ?_
      refine ev_iload 48 dX9_overlap_46 rfl rfl ?_
      refine ev_ialdR 49 _ dX9_overlap_48 (hG 2 _ rfl).1 rfl (by have hNN := (hG 2 _ rfl).2; omega) rfl ?_
      refine ev_eqI (y := (sp_ph 1)) (s1) ?_
      refine ev_imul 50 dX9_overlap_49 rfl ?_
      refine ev_iadd 51 dX9_overlap_50 rfl ?_
      refine ev_istore_n 52 (lv' := [_, _, some (.int _), _, _, _]) dX9_overlap_51 (Nat.le_of_ble_eq_true rfl) rfl rfl ?_
      refine ev_iincN 55 (lv' := [_, _, _, _, some (.int _), _]) 1 dX9_overlap_52 rfl (Nat.le_of_ble_eq_true rfl) rfl rfl ?_
      refine ev_goto 10 dX9_overlap_55 (by decide) ?_
      refine ev_iload 12 dX9_overlap_10 rfl rfl ?_
      refine ev_iload 14 dX9_overlap_12 rfl rfl ?_
      refine ev_iaddN 15 dX9_overlap_14 rfl ?_
      refine ev_getsN 18 (i := 2) rfl dX9_overlap_15 lk769 rfl ?_
      refine ev_alenR 19 dX9_overlap_18 (hG 2 _ rfl).1 rfl ?_
      refine ev_eqI (y := nI 3) (by rw [(hG 2 _ rfl).2]) ?_
      refine ev_icmp_geN 22 58 dX9_overlap_19 (by decide) (by omega) (by omega) rfl (fun hbr => ?_) (fun hx => absurd ((by omega)) hx)
      refine ev_iload_n 59 dX9_overlap_58 rfl rfl ?_
      exact ev_iret dX9_overlap_59 rfl ((by rw [show nI 0 + sp_ph 1 * sp_ph 0 + sp_ph 2 * sp_ph 1 = nI 384 by decide +kernel]))
  · rw [if_neg c]
    refine ct_of (lv := [some (.ref (x + 17)), some (.int (nI lo)), some (.int (nI hi)), none, none, none]) (by decide +kernel) (Nat.le_of_ble_eq_true rfl) rfl ?_
    refine ev_iconstN 1 0 dX9_overlap_0 rfl ?_
    refine ev_istore_n 2 (lv' := [_, _, some (.int _), _, _, _]) dX9_overlap_1 (Nat.le_of_ble_eq_true rfl) rfl rfl ?_
    refine ev_iload_n 3 dX9_overlap_2 rfl rfl ?_
    refine ev_iload_n 4 dX9_overlap_3 rfl rfl ?_
    refine ev_isubN 5 dX9_overlap_4 (by omega) rfl ?_
    refine ev_istore 7 (lv' := [_, _, _, some (.int _), _, _]) dX9_overlap_5 (Nat.le_of_ble_eq_true rfl) rfl rfl ?_
    refine ev_iconstN 8 0 dX9_overlap_7 rfl ?_
    refine ev_istore 10 (lv' := [_, _, _, _, some (.int _), _]) dX9_overlap_8 (Nat.le_of_ble_eq_true rfl) rfl rfl ?_
    refine ev_iload 12 dX9_overlap_10 rfl rfl ?_
    refine ev_iload 14 dX9_overlap_12 rfl rfl ?_
    refine ev_iaddN 15 dX9_overlap_14 rfl ?_
    refine ev_getsN 18 (i := 2) rfl dX9_overlap_15 lk769 rfl ?_
    refine ev_alenR 19 dX9_overlap_18 (hG 2 _ rfl).1 rfl ?_
    refine ev_eqI (y := nI 3) (by rw [(hG 2 _ rfl).2]) ?_
    refine ev_icmp_geN 22 58 dX9_overlap_19 (by decide) (by omega) (by omega) rfl (fun hbr => ?_) (fun hx => absurd ((by omega)) hx)
    refine ev_iload_n 59 dX9_overlap_58 rfl rfl ?_
    exact ev_iret dX9_overlap_59 rfl (rfl)
end VHB
