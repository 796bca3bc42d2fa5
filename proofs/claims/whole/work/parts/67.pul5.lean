/-- a part's odd and even pulse -/
def pF (F : Nat → Int32) : sp_V → Nat → Int32
  | none => F
  | some z => va_up (va_up F 4 (nI z.1)) 5 (nI z.2)
def eF (F : Nat → Int32) : sp_V → Nat → Int32
  | none => F
  | some z => va_up (va_up F 2 (nI z.1)) 3 (nI z.2)
theorem pF_up {F : Nat → Int32} {v : sp_V} {a b : Nat} : va_up (va_up (pF F v) 4 (nI a)) 5 (nI b) = pF F (some (a, b)) := by
  cases v with
  | none => rfl
  | some z =>
    show va_up (va_up (va_up (va_up F 4 (nI z.1)) 5 (nI z.2)) 4 (nI a)) 5 (nI b) = va_up (va_up F 4 (nI a)) 5 (nI b)
    rw [va_3 F (a := 4) (b := 5) _ _ _ (by omega), bx_uu]
theorem eF_up {F : Nat → Int32} {v : sp_V} {a b : Nat} : va_up (va_up (eF F v) 2 (nI a)) 3 (nI b) = eF F (some (a, b)) := by
  cases v with
  | none => rfl
  | some z =>
    show va_up (va_up (va_up (va_up F 2 (nI z.1)) 3 (nI z.2)) 2 (nI a)) 3 (nI b) = va_up (va_up F 2 (nI a)) 3 (nI b)
    rw [va_3 F (a := 2) (b := 3) _ _ _ (by omega), bx_uu]
theorem eF_pF {F : Nat → Int32} {v o : sp_V} : eF (pF F o) v = pF (eF F v) o := by
  cases v with
  | none => rfl
  | some z =>
    cases o with
    | none => rfl
    | some w =>
      show va_up (va_up (va_up (va_up F 4 _) 5 _) 2 _) 3 _ = va_up (va_up (va_up (va_up F 2 _) 3 _) 4 _) 5 _
      rw [va_comm (va_up F 4 _) _ _ (show (5 : Nat) ≠ 2 by omega), va_comm F _ _ (show (4 : Nat) ≠ 2 by omega), va_comm (va_up (va_up F 2 _) 4 _) _ _ (show (5 : Nat) ≠ 3 by omega), va_comm (va_up F 2 _) _ _ (show (4 : Nat) ≠ 3 by omega)]
theorem cF_2 {F : Nat → Int32} {s : sp_Q} : cF F s 2 = F 2 := by
  cases s with
  | none => rfl
  | some z => exact va_up_n _ _ (by omega)
theorem sp_xo {a b : Nat} (ha : a ≤ 1) (hb : b ≤ 1) : nI a ^^^ nI b = nI (if b = a then 0 else 1) := by
  have h : ∀ a, a < 2 → ∀ b, b < 2 → nI a ^^^ nI b = nI (if b = a then 0 else 1) := by decide +kernel
  exact h a (by omega) b (by omega)
theorem st_c2 {g : mm_G} {I : mm_TI} {f h : Nat → Int32} {p q x : Nat} (hc : st_c g I) (hgx : ∀ i, i < 3 → g.2.2 i < x) (hp : x ≤ p) (hq : x ≤ q) : st_c g (va_up (va_up I p f) q h) := by
  have g0 := hgx 0 (by decide)
  have g1 := hgx 1 (by decide)
  have g2 := hgx 2 (by decide)
  exact st_c_up (st_c_up hc (by omega) (by omega) (by omega)) (by omega) (by omega) (by omega)
section VHS
variable {g : mm_G} {B : mm_B} {I : mm_TI} {J : mm_TJ} {P : mm_TP} {x pt : Nat}
theorem lp_X9_findOdd1 {sb q sg r ot : Nat} {hz : Nat → Int} {s0 : sp_Q} {t : sp_Q × sp_V} {FS FP : Nat → Int32} {Q : Nat → Int64} {Z : mm_Z} (hV : lyV B P x) (hG : ly_G g B) (hc : st_c g I) (hgx : ∀ i, i < 3 → g.2.2 i < x) (tp : mm_T B pt = 107) (hpt : x ≤ pt ∧ pt ≠ x + 13 ∧ pt ≠ x + 14 ∧ pt ≠ x + 17)
    (hb : sb ≤ 80) (hq : q < sb) (hq2 : q % 2 = 0) (hr : r < sb) (hr2 : r % 2 = 1) (hsg : sg ≤ 1) (hot : ot ≤ 1) (hzb : sp_zb hz) (hH : ∀ n, n < sb → I (x + 13) n = Int32.ofInt (hz n)) (hE : ∀ n, n < sb → I (x + 14) n = nI (sp_en sb n)) (hok : sp_ok t.1) (hch : sp_ch s0 t.1)
    (K : Ev g mX9_findOdd 51 [some (.ref (x + 17)), some (.int (nI q)), some (.int (nI sg)), some (.ref pt), some (.int (nI (sp_im s0 (sp_o1 (sp_pe sb q sg r ot) (sp_pd hz q sg r ot) (r, ot) t).1))), some (.int (Int32.ofInt (sp_tn sg (hz q)))), some (.int (nI r)), some (.int (nI (sp_ov sb (min q r) (max q r)))), some (.int (nI (ot + 1))), none] [] B
      (va_up (va_up I pt (pF FP (sp_o1 (sp_pe sb q sg r ot) (sp_pd hz q sg r ot) (r, ot) t).2)) (x + 17) (cF FS (sp_o1 (sp_pe sb q sg r ot) (sp_pd hz q sg r ot) (r, ot) t).1)) (va_up J (x + 17) (va_up Q 3 (Int64.ofInt (cZ (sp_o1 (sp_pe sb q sg r ot) (sp_pd hz q sg r ot) (r, ot) t).1)))) P Z) :
    Ev g mX9_findOdd 51 [some (.ref (x + 17)), some (.int (nI q)), some (.int (nI sg)), some (.ref pt), some (.int (nI (sp_im s0 t.1))), some (.int (Int32.ofInt (sp_tn sg (hz q)))), some (.int (nI r)), some (.int (nI (sp_ov sb (min q r) (max q r)))), some (.int (nI ot)), none] [] B
      (va_up (va_up I pt (pF FP t.2)) (x + 17) (cF FS t.1)) (va_up J (x + 17) (va_up Q 3 (Int64.ofInt (cZ t.1)))) P Z := by
  obtain ⟨hpx, p13, p14, p17⟩ := hpt
  have be := sp_pe_b (sb := sb) (sg := sg) (ot := ot) hq hr (by omega)
  have bd := sp_pd_b (hz := hz) (sg := sg) (ot := ot) (hzb q) (hzb r)
  have ct := ct_X9_betters (g := g) (I := va_up I pt (pF FP t.2)) (J := J) (P := P) (F := FS) (Q := Q) (e := sp_pe sb q sg r ot) (d := sp_pd hz q sg r ot) hV hG (st_c_up hc (by have := hgx 0 (by decide); omega) (by have := hgx 1 (by decide); omega) (by have := hgx 2 (by decide); omega)) hgx be.1 be.2 bd.1 bd.2 hok
  rw [show (sp_o1 (sp_pe sb q sg r ot) (sp_pd hz q sg r ot) (r, ot) t).1 = sp_bs (sp_pe sb q sg r ot) (sp_pd hz q sg r ot) t.1 52 from rfl, show (sp_o1 (sp_pe sb q sg r ot) (sp_pd hz q sg r ot) (r, ot) t).2 = (if sp_bs (sp_pe sb q sg r ot) (sp_pd hz q sg r ot) t.1 52 = t.1 then t.2 else some (r, ot)) from rfl, sp_im_i hch (sp_ch_bs 52)] at K
  have h13 : ∀ f h n, n < sb → va_up (va_up I pt f) (x + 17) h (x + 13) n = Int32.ofInt (hz n) := fun f h n hn => by rw [va_up_n _ _ (by omega), va_up_n _ _ (fun z => p13 z.symm)]; exact hH n hn
  have h14 : ∀ f h n, n < sb → va_up (va_up I pt f) (x + 17) h (x + 14) n = Int32.ofInt (sp_en sb n : Nat) := fun f h n hn => by rw [va_up_n _ _ (by omega), va_up_n _ _ (fun z => p14 z.symm), hE n hn, mm_ofI]
  have ov : nI (sp_ov sb (min q r) (max q r)) = Int32.ofInt (sp_ov sb (min q r) (max q r) : Nat) := (mm_ofI _).symm
  have eE : Int32.ofInt (sp_en sb q : Nat) + Int32.ofInt (sp_en sb r : Nat) + nI 2 * Int32.ofInt (sp_tn (if sg = ot then 0 else 1) (sp_ov sb (min q r) (max q r) : Nat)) = Int32.ofInt (sp_pe sb q sg r ot) := by
    unfold sp_pe
    rw [Int32.ofInt_add, Int32.ofInt_add, Int32.ofInt_mul, show Int32.ofInt 2 = nI 2 by decide +kernel]
  have eD : Int32.ofInt (sp_tn sg (hz q)) + Int32.ofInt (sp_tn ot (hz r)) = Int32.ofInt (sp_pd hz q sg r ot) := by
    unfold sp_pd
    rw [Int32.ofInt_add]
  have hsx : (if sg = ot then 0 else 1) ≤ 1 := by split <;> omega
  refine ev_iload 53 dX9_findOdd_51 rfl rfl ?_
  refine ev_iconstN 54 1 dX9_findOdd_53 rfl ?_
  refine ev_icmp_gtN 57 141 dX9_findOdd_54 (by decide) (by omega) (by omega) rfl (fun hx => absurd hx ((by omega))) (fun hbr => ?_)
  refine ev_aload_n 58 dX9_findOdd_57 rfl rfl ?_
  refine ev_getP 61 mm_cl9 (j := 0) (Nat.le_of_ble_eq_true rfl) dX9_findOdd_58 lk242 (fun _ _ _ => rfl) (hV.1 17 _ rfl) (a := (x + 4)) (hV.2.2 20 _ _ _ rfl) rfl ?_
  refine ev_getP 64 mm_cl8 (j := 9) (Nat.le_of_ble_eq_true rfl) dX9_findOdd_61 lk155 (fun _ _ _ => rfl) (hV.1 4 _ rfl) (a := (x + 14)) (hV.2.2 17 _ _ _ rfl) rfl ?_
  refine ev_iload_n 65 dX9_findOdd_64 rfl rfl ?_
  refine ev_iald 66 _ dX9_findOdd_65 (hV.1 14 _ rfl) rfl (by have hNN := hV.2.1 14 _ rfl; omega) rfl ?_
  refine ev_eqI (y := (Int32.ofInt (sp_en sb q : Nat))) ((h14 _ _ q hq)) ?_
  refine ev_aload_n 67 dX9_findOdd_66 rfl rfl ?_
  refine ev_getP 70 mm_cl9 (j := 0) (Nat.le_of_ble_eq_true rfl) dX9_findOdd_67 lk242 (fun _ _ _ => rfl) (hV.1 17 _ rfl) (a := (x + 4)) (hV.2.2 20 _ _ _ rfl) rfl ?_
  refine ev_getP 73 mm_cl8 (j := 9) (Nat.le_of_ble_eq_true rfl) dX9_findOdd_70 lk155 (fun _ _ _ => rfl) (hV.1 4 _ rfl) (a := (x + 14)) (hV.2.2 17 _ _ _ rfl) rfl ?_
  refine ev_iload 75 dX9_findOdd_73 rfl rfl ?_
  refine ev_iald 76 _ dX9_findOdd_75 (hV.1 14 _ rfl) rfl (by have hNN := hV.2.1 14 _ rfl; omega) rfl ?_
  refine ev_eqI (y := (Int32.ofInt (sp_en sb r : Nat))) ((h14 _ _ r hr)) ?_
  refine ev_iadd 77 dX9_findOdd_76 rfl ?_
  refine ev_iconstN 78 2 dX9_findOdd_77 rfl ?_
  refine ev_iload 80 dX9_findOdd_78 rfl rfl ?_
  refine ev_iload 82 dX9_findOdd_80 rfl rfl ?_
  refine ev_iload_n 83 dX9_findOdd_82 rfl rfl ?_
  refine ev_ixor 84 dX9_findOdd_83 rfl ?_
  refine ev_eqI (y := nI ((if sg = ot then 0 else 1))) ((sp_xo hot hsg)) ?_
  rw [ov]
  refine ev_invS 87 (Mc := mX9_turned) ⟨lk786, lk78, hdX9_turned, (Nat.le_of_ble_eq_true rfl), (Nat.le_of_ble_eq_true rfl)⟩ lk784 lk785 dX9_findOdd_84 (ct_X9_turned hsx) rfl (Nat.le_of_ble_eq_true rfl) rfl rfl ?_
  rw [← ov]
  refine ev_imul 88 dX9_findOdd_87 rfl ?_
  refine ev_iadd 89 dX9_findOdd_88 rfl ?_
  refine ev_eqI (y := (Int32.ofInt (sp_pe sb q sg r ot))) (eE) ?_
  refine ev_istore 91 (lv' := [_, _, _, _, _, _, _, _, some (.int _), _]) dX9_findOdd_89 (Nat.le_of_ble_eq_true rfl) rfl rfl ?_
  refine ev_aload_n 92 dX9_findOdd_91 rfl rfl ?_
  refine ev_iload 94 dX9_findOdd_92 rfl rfl ?_
  refine ev_i2l 95 dX9_findOdd_94 rfl ?_
  refine ev_eqJ (y := (Int64.ofInt (sp_pe sb q sg r ot))) ((ji_i (by omega) (by omega))) ?_
  refine ev_iload 97 dX9_findOdd_95 rfl rfl ?_
  refine ev_aload_n 98 dX9_findOdd_97 rfl rfl ?_
  refine ev_getP 101 mm_cl9 (j := 0) (Nat.le_of_ble_eq_true rfl) dX9_findOdd_98 lk242 (fun _ _ _ => rfl) (hV.1 17 _ rfl) (a := (x + 4)) (hV.2.2 20 _ _ _ rfl) rfl ?_
  refine ev_getP 104 mm_cl8 (j := 8) (Nat.le_of_ble_eq_true rfl) dX9_findOdd_101 lk153 (fun _ _ _ => rfl) (hV.1 4 _ rfl) (a := (x + 13)) (hV.2.2 16 _ _ _ rfl) rfl ?_
  refine ev_iload 106 dX9_findOdd_104 rfl rfl ?_
  refine ev_iald 107 _ dX9_findOdd_106 (hV.1 13 _ rfl) rfl (by have hNN := hV.2.1 13 _ rfl; omega) rfl ?_
  refine ev_eqI (y := (Int32.ofInt (hz r))) ((h13 _ _ r hr)) ?_
  refine ev_iload 109 dX9_findOdd_107 rfl rfl ?_
  refine ev_invS 112 (Mc := mX9_turned) ⟨lk786, lk78, hdX9_turned, (Nat.le_of_ble_eq_true rfl), (Nat.le_of_ble_eq_true rfl)⟩ lk784 lk785 dX9_findOdd_109 (ct_X9_turned hot) rfl (Nat.le_of_ble_eq_true rfl) rfl rfl ?_
  refine ev_iadd 113 dX9_findOdd_112 rfl ?_
  refine ev_eqI (y := (Int32.ofInt (sp_pd hz q sg r ot))) (eD) ?_
  refine ev_i2l 114 dX9_findOdd_113 rfl ?_
  refine ev_eqJ (y := (Int64.ofInt (sp_pd hz q sg r ot))) ((ji_i (by omega) (by omega))) ?_
  refine ev_invV 117 (Mc := mX9_betters) ⟨lk790, lk78, hdX9_betters, (Nat.le_of_ble_eq_true rfl), (Nat.le_of_ble_eq_true rfl)⟩ lk787 lk789 lk16 mm_cl9 rfl dX9_findOdd_114 (ct) rfl (hV.1 17 _ rfl) (Nat.le_of_ble_eq_true rfl) rfl rfl ?_
  generalize hs' : sp_bs (sp_pe sb q sg r ot) (sp_pd hz q sg r ot) t.1 52 = s' at K
  by_cases c : s' = t.1
  · rw [if_pos c, if_pos c] at K
    rw [show sp_im t.1 s' = 0 by unfold sp_im; rw [if_pos c.symm]]
    refine ev_if_eqN 120 135 dX9_findOdd_117 (by decide) (by omega) rfl (fun hbr => ?_) (fun hx => absurd (rfl) hx)
    refine ev_iincN 138 (lv' := [_, _, _, _, _, _, _, some (.int _), _, _]) 1 dX9_findOdd_135 rfl (Nat.le_of_ble_eq_true rfl) rfl rfl ?_
    refine ev_goto 51 dX9_findOdd_138 (by decide) ?_
    refine ev_le (mle_s (mle_s (mle_s (mle_s (mle_s (mle_s (mle_s (mle_s (mle_s (mle_n (mle_0))))))))))) ?_
    exact K
  · rw [if_neg c, if_neg c, ← pF_up (v := t.2)] at K
    rw [show sp_im t.1 s' = 1 by unfold sp_im; rw [if_neg (fun z => c z.symm)]]
    refine ev_if_eqN 120 135 dX9_findOdd_117 (by decide) (by omega) rfl (fun hx => absurd hx ((by omega))) (fun hbr => ?_)
    refine ev_aload_n 121 dX9_findOdd_120 rfl rfl ?_
    refine ev_iload 123 dX9_findOdd_121 rfl rfl ?_
    refine ev_putI 126 mm_cl7 (j := 4) (Nat.le_of_ble_eq_true rfl) dX9_findOdd_123 lk212 rfl (fun _ _ _ => rfl) rfl rfl tp rfl ?_
    refine ev_aload_n 127 dX9_findOdd_126 rfl rfl ?_
    refine ev_iload 129 dX9_findOdd_127 rfl rfl ?_
    refine ev_putI 132 mm_cl7 (j := 5) (Nat.le_of_ble_eq_true rfl) dX9_findOdd_129 lk214 rfl (fun _ _ _ => rfl) rfl rfl tp rfl ?_
    refine ev_iconstN 133 1 dX9_findOdd_132 rfl ?_
    refine ev_istore 135 (lv' := [_, _, _, some (.ref _), _, _, _, _, _, _]) dX9_findOdd_133 (Nat.le_of_ble_eq_true rfl) rfl rfl ?_
    refine ev_iincN 138 (lv' := [_, _, _, _, _, _, _, some (.int _), _, _]) 1 dX9_findOdd_135 rfl (Nat.le_of_ble_eq_true rfl) rfl rfl ?_
    refine ev_goto 51 dX9_findOdd_138 (by decide) ?_
    have u1 : ∀ (f h : Nat → Int32) (k : Nat) (w : Int32), va_up (va_up (va_up I pt f) (x + 17) h) pt (va_up (va_up (va_up I pt f) (x + 17) h pt) k w) = va_up (va_up I pt (va_up f k w)) (x + 17) h := fun f h k w => by
      rw [va_up_n _ _ p17, va_up_s, va_3 I (a := pt) (b := x + 17) _ _ _ p17]
    rw [u1, u1]
    refine ev_le (mle_s (mle_s (mle_s (mle_s (mle_s (mle_s (mle_s (mle_s (mle_s (mle_n (mle_0))))))))))) ?_
    exact K
theorem lp_X9_findOdd2 {sb q sg : Nat} {hz : Nat → Int} {t : sp_Q × sp_V} {FS FP : Nat → Int32} {Q : Nat → Int64} (hV : lyV B P x) (hG : ly_G g B) (hc : st_c g I) (hgx : ∀ i, i < 3 → g.2.2 i < x) (tp : mm_T B pt = 107) (hpt : x ≤ pt ∧ pt ≠ x + 13 ∧ pt ≠ x + 14 ∧ pt ≠ x + 17)
    (hb : sb ≤ 80) (hb2 : sb % 2 = 0) (hq : q < sb) (hq2 : q % 2 = 0) (hsg : sg ≤ 1) (hzb : sp_zb hz) (hH : ∀ n, n < sb → I (x + 13) n = Int32.ofInt (hz n)) (hE : ∀ n, n < sb → I (x + 14) n = nI (sp_en sb n)) (hok : sp_ok t.1) (hS : FS 2 = nI sb) : ∀ (d k : Nat), k + d = sb / 2 →
    Ev g mX9_findOdd 21 [some (.ref (x + 17)), some (.int (nI q)), some (.int (nI sg)), some (.ref pt), some (.int (nI (sp_im t.1 (sp_os sb hz q sg t k).1))), some (.int (Int32.ofInt (sp_tn sg (hz q)))), some (.int (nI (2 * k + 1))), none, none, none] [] B
      (va_up (va_up I pt (pF FP (sp_os sb hz q sg t k).2)) (x + 17) (cF FS (sp_os sb hz q sg t k).1)) (va_up J (x + 17) (va_up Q 3 (Int64.ofInt (cZ (sp_os sb hz q sg t k).1)))) P
      (some (.int (nI (sp_im t.1 (sp_os sb hz q sg t (sb / 2)).1))), B, va_up (va_up I pt (pF FP (sp_os sb hz q sg t (sb / 2)).2)) (x + 17) (cF FS (sp_os sb hz q sg t (sb / 2)).1), va_up J (x + 17) (va_up Q 3 (Int64.ofInt (cZ (sp_os sb hz q sg t (sb / 2)).1))), P) := by
  intro d
  induction d with
  | zero =>
    intro k hk
    obtain rfl : k = sb / 2 := by omega
    generalize sp_os sb hz q sg t (sb / 2) = T
    have hzz := sp_im_n (a := t.1) (b := T.1)
    refine ev_iload 23 dX9_findOdd_21 rfl rfl ?_
    refine ev_aload_n 24 dX9_findOdd_23 rfl rfl ?_
    refine ev_getI 27 mm_cl9 (j := 2) (Nat.le_of_ble_eq_true rfl) dX9_findOdd_24 lk245 (fun _ _ _ => rfl) (hV.1 17 _ rfl) rfl ?_
    refine ev_eqI (y := nI (sb)) ((by rw [va_up_s, cF_2]; exact hS)) ?_
    refine ev_icmp_geN 30 147 dX9_findOdd_27 (by decide) (by omega) (by omega) rfl (fun hbr => ?_) (fun hx => absurd ((by omega)) hx)
    refine ev_iload 149 dX9_findOdd_147 rfl rfl ?_
    exact ev_zret dX9_findOdd_149 rfl (by first | rfl | assumption) (rfl)
  | succ d ih =>
    intro k hk
    have e := ih (k + 1) (by omega)
    have k1 := sp_ok_os (sg := sg) hzb hq hq2 hok k (by omega)
    have c1 := sp_ch_os (sb := sb) (hz := hz) (q := q) (sg := sg) (t := t) k
    have k2 := sp_ok_o1 (sg := sg) (ot := 0) (pl := (2 * k + 1, 0)) hzb hq (show 2 * k + 1 < sb by omega) (by omega) k1
    have c2 := sp_ch_t c1 (sp_ch_bs (e := sp_pe sb q sg (2 * k + 1) 0) (d := sp_pd hz q sg (2 * k + 1) 0) 52)
    generalize hZ : sp_os sb hz q sg t (sb / 2) = SZ at e ⊢
    rw [show sp_os sb hz q sg t (k + 1) = sp_o1 (sp_pe sb q sg (2 * k + 1) 1) (sp_pd hz q sg (2 * k + 1) 1) (2 * k + 1, 1) (sp_o1 (sp_pe sb q sg (2 * k + 1) 0) (sp_pd hz q sg (2 * k + 1) 0) (2 * k + 1, 0) (sp_os sb hz q sg t k)) from rfl] at e
    generalize hT : sp_os sb hz q sg t k = T at e k1 c1 k2 c2 ⊢
    refine ev_iload 23 dX9_findOdd_21 rfl rfl ?_
    refine ev_aload_n 24 dX9_findOdd_23 rfl rfl ?_
    refine ev_getI 27 mm_cl9 (j := 2) (Nat.le_of_ble_eq_true rfl) dX9_findOdd_24 lk245 (fun _ _ _ => rfl) (hV.1 17 _ rfl) rfl ?_
    refine ev_eqI (y := nI (sb)) ((by rw [va_up_s, cF_2]; exact hS)) ?_
    refine ev_icmp_geN 30 147 dX9_findOdd_27 (by decide) (by omega) (by omega) rfl (fun hx => absurd hx ((by omega))) (fun hbr => ?_)
    refine ev_aload_n 31 dX9_findOdd_30 rfl rfl ?_
    refine ev_iload_n 32 dX9_findOdd_31 rfl rfl ?_
    refine ev_iload 34 dX9_findOdd_32 rfl rfl ?_
    refine ev_min 37 dX9_findOdd_34 lk758 lk759 lk87 lk760 (Nat.le_of_ble_eq_true rfl) (Nat.le_of_ble_eq_true rfl) (Nat.le_of_ble_eq_true rfl) rfl ?_
    refine ev_eqI (y := nI ((min q (2 * k + 1)))) ((nI_min (by omega) (by omega))) ?_
    refine ev_iload_n 38 dX9_findOdd_37 rfl rfl ?_
    refine ev_iload 40 dX9_findOdd_38 rfl rfl ?_
    refine ev_max 43 dX9_findOdd_40 lk757 lk679 lk87 lk680 (Nat.le_of_ble_eq_true rfl) (Nat.le_of_ble_eq_true rfl) (Nat.le_of_ble_eq_true rfl) rfl ?_
    refine ev_eqI (y := nI ((max q (2 * k + 1)))) ((nI_max (by omega) (by omega))) ?_
    refine ev_invV 46 (Mc := mX9_overlap) ⟨lk774, lk78, hdX9_overlap, (Nat.le_of_ble_eq_true rfl), (Nat.le_of_ble_eq_true rfl)⟩ lk771 lk773 lk13 mm_cl9 rfl dX9_findOdd_43 (ct_X9_overlap (sb := sb) hV hG (st_c2 hc hgx hpt.1 (by omega)) (by rw [va_up_s, cF_2]; exact hS) hb (by omega) (by omega) (by omega)) rfl (hV.1 17 _ rfl) (Nat.le_of_ble_eq_true rfl) rfl rfl ?_
    refine ev_istore 48 (lv' := [_, _, _, _, _, _, some (.int _), _, _, _]) dX9_findOdd_46 (Nat.le_of_ble_eq_true rfl) rfl rfl ?_
    refine ev_iconstN 49 0 dX9_findOdd_48 rfl ?_
    refine ev_istore 51 (lv' := [_, _, _, _, _, _, _, some (.int _), _, _]) dX9_findOdd_49 (Nat.le_of_ble_eq_true rfl) rfl rfl ?_
    refine lp_X9_findOdd1 hV hG hc hgx tp hpt hb hq hq2 (by omega) (by omega) hsg (by omega) hzb hH hE k1 c1 ?_
    generalize hT1 : sp_o1 (sp_pe sb q sg (2 * k + 1) 0) (sp_pd hz q sg (2 * k + 1) 0) (2 * k + 1, 0) T = T1 at e k2
    have c3 : sp_ch t.1 T1.1 := by rw [← hT1]; exact c2
    refine lp_X9_findOdd1 hV hG hc hgx tp hpt hb hq hq2 (by omega) (by omega) hsg (by omega) hzb hH hE k2 c3 ?_
    generalize sp_o1 (sp_pe sb q sg (2 * k + 1) 1) (sp_pd hz q sg (2 * k + 1) 1) (2 * k + 1, 1) T1 = T2 at e
    refine ev_iload 53 dX9_findOdd_51 rfl rfl ?_
    refine ev_iconstN 54 1 dX9_findOdd_53 rfl ?_
    refine ev_icmp_gtN 57 141 dX9_findOdd_54 (by decide) (by omega) (by omega) rfl (fun hbr => ?_) (fun hx => absurd ((by omega)) hx)
    refine ev_iincN 144 (lv' := [_, _, _, _, _, some (.int _), _, _, _, _]) 2 dX9_findOdd_141 rfl (Nat.le_of_ble_eq_true rfl) rfl rfl ?_
    refine ev_goto 21 dX9_findOdd_144 (by decide) ?_
    refine ev_le (mle_s (mle_s (mle_s (mle_s (mle_s (mle_s (mle_s (mle_n (mle_n (mle_n (mle_0))))))))))) ?_
    rw [show 2 * k + 1 + 2 = 2 * (k + 1) + 1 by omega]
    exact e
theorem ct_X9_findOdd {sb q sg : Nat} {hz : Nat → Int} {t : sp_Q × sp_V} {FS FP : Nat → Int32} {Q : Nat → Int64} (hV : lyV B P x) (hG : ly_G g B) (hc : st_c g I) (hgx : ∀ i, i < 3 → g.2.2 i < x) (tp : mm_T B pt = 107) (hpt : x ≤ pt ∧ pt ≠ x + 13 ∧ pt ≠ x + 14 ∧ pt ≠ x + 17)
    (hb : sb ≤ 80) (hb2 : sb % 2 = 0) (hq : q < sb) (hq2 : q % 2 = 0) (hsg : sg ≤ 1) (hzb : sp_zb hz) (hH : ∀ n, n < sb → I (x + 13) n = Int32.ofInt (hz n)) (hE : ∀ n, n < sb → I (x + 14) n = nI (sp_en sb n)) (hok : sp_ok t.1) (hS : FS 2 = nI sb) :
    Ct g mX9_findOdd [.ref (x + 17), .int (nI q), .int (nI sg), .ref pt] B (va_up (va_up I pt (pF FP t.2)) (x + 17) (cF FS t.1)) (va_up J (x + 17) (va_up Q 3 (Int64.ofInt (cZ t.1)))) P
      (some (.int (nI (sp_im t.1 (sp_os sb hz q sg t (sb / 2)).1))), B, va_up (va_up I pt (pF FP (sp_os sb hz q sg t (sb / 2)).2)) (x + 17) (cF FS (sp_os sb hz q sg t (sb / 2)).1), va_up J (x + 17) (va_up Q 3 (Int64.ofInt (cZ (sp_os sb hz q sg t (sb / 2)).1))), P) := by
  have e := lp_X9_findOdd2 (g := g) (I := I) (J := J) (FS := FS) (FP := FP) (Q := Q) hV hG hc hgx tp hpt hb hb2 hq hq2 hsg hzb hH hE hok hS (sb / 2) 0 (by omega)
  generalize hZ : sp_os sb hz q sg t (sb / 2) = SZ at e ⊢
  rw [show sp_os sb hz q sg t 0 = t from rfl, show sp_im t.1 t.1 = 0 by unfold sp_im; rw [if_pos rfl]] at e
  refine ct_of (lv := [some (.ref (x + 17)), some (.int (nI q)), some (.int (nI sg)), some (.ref pt), none, none, none, none, none, none]) (by decide +kernel) (Nat.le_of_ble_eq_true rfl) rfl ?_
  refine ev_iconstN 1 0 dX9_findOdd_0 rfl ?_
  refine ev_istore 3 (lv' := [_, _, _, some (.ref _), _, _, _, _, _, _]) dX9_findOdd_1 (Nat.le_of_ble_eq_true rfl) rfl rfl ?_
  refine ev_aload_n 4 dX9_findOdd_3 rfl rfl ?_
  refine ev_getP 7 mm_cl9 (j := 0) (Nat.le_of_ble_eq_true rfl) dX9_findOdd_4 lk242 (fun _ _ _ => rfl) (hV.1 17 _ rfl) (a := (x + 4)) (hV.2.2 20 _ _ _ rfl) rfl ?_
  refine ev_getP 10 mm_cl8 (j := 8) (Nat.le_of_ble_eq_true rfl) dX9_findOdd_7 lk153 (fun _ _ _ => rfl) (hV.1 4 _ rfl) (a := (x + 13)) (hV.2.2 16 _ _ _ rfl) rfl ?_
  refine ev_iload_n 11 dX9_findOdd_10 rfl rfl ?_
  refine ev_iald 12 _ dX9_findOdd_11 (hV.1 13 _ rfl) rfl (by have hNN := hV.2.1 13 _ rfl; omega) rfl ?_
  refine ev_eqI (y := (Int32.ofInt (hz q))) ((by rw [va_up_n _ _ (by omega), va_up_n _ _ (fun z => hpt.2.1 z.symm)]; exact hH q hq)) ?_
  refine ev_iload_n 13 dX9_findOdd_12 rfl rfl ?_
  refine ev_invS 16 (Mc := mX9_turned) ⟨lk786, lk78, hdX9_turned, (Nat.le_of_ble_eq_true rfl), (Nat.le_of_ble_eq_true rfl)⟩ lk784 lk785 dX9_findOdd_13 (ct_X9_turned hsg) rfl (Nat.le_of_ble_eq_true rfl) rfl rfl ?_
  refine ev_istore 18 (lv' := [_, _, _, _, some (.int _), _, _, _, _, _]) dX9_findOdd_16 (Nat.le_of_ble_eq_true rfl) rfl rfl ?_
  refine ev_iconstN 19 1 dX9_findOdd_18 rfl ?_
  refine ev_istore 21 (lv' := [_, _, _, _, _, some (.int _), _, _, _, _]) dX9_findOdd_19 (Nat.le_of_ble_eq_true rfl) rfl rfl ?_
  exact e
theorem lp_X9_findEven1 {sb q ot : Nat} {hz : Nat → Int} {t : sp_Q × sp_V} {FS FP : Nat → Int32} {Q : Nat → Int64} {Z : mm_Z} (hV : lyV B P x) (hG : ly_G g B) (hc : st_c g I) (hgx : ∀ i, i < 3 → g.2.2 i < x) (tp : mm_T B pt = 107) (hpt : x ≤ pt ∧ pt ≠ x + 13 ∧ pt ≠ x + 14 ∧ pt ≠ x + 17)
    (hb : sb ≤ 80) (hq : q < sb) (hot : ot ≤ 1) (hzb : sp_zb hz) (hH : ∀ n, n < sb → I (x + 13) n = Int32.ofInt (hz n)) (hE : ∀ n, n < sb → I (x + 14) n = nI (sp_en sb n)) (hok : sp_ok t.1)
    (K : Ev g mX9_findEven 19 [some (.ref (x + 17)), some (.ref pt), some (.int (nI q)), some (.int (nI (ot + 1)))] [] B
      (va_up (va_up I pt (eF FP (sp_o1 (sp_en sb q : Nat) (sp_tn ot (hz q)) (q, ot) t).2)) (x + 17) (cF FS (sp_o1 (sp_en sb q : Nat) (sp_tn ot (hz q)) (q, ot) t).1)) (va_up J (x + 17) (va_up Q 3 (Int64.ofInt (cZ (sp_o1 (sp_en sb q : Nat) (sp_tn ot (hz q)) (q, ot) t).1)))) P Z) :
    Ev g mX9_findEven 19 [some (.ref (x + 17)), some (.ref pt), some (.int (nI q)), some (.int (nI ot))] [] B
      (va_up (va_up I pt (eF FP t.2)) (x + 17) (cF FS t.1)) (va_up J (x + 17) (va_up Q 3 (Int64.ofInt (cZ t.1)))) P Z := by
  obtain ⟨hpx, p13, p14, p17⟩ := hpt
  have be := sp_en_b (sb := sb) (q := q)
  have bd := sp_tn_b hzb ot q
  have ct := ct_X9_betters (g := g) (I := va_up I pt (eF FP t.2)) (J := J) (P := P) (F := FS) (Q := Q) (e := (sp_en sb q : Nat)) (d := sp_tn ot (hz q)) hV hG (st_c_up hc (by have := hgx 0 (by decide); omega) (by have := hgx 1 (by decide); omega) (by have := hgx 2 (by decide); omega)) hgx (by omega) (by omega) bd.1 bd.2 hok
  rw [show (sp_o1 (sp_en sb q : Nat) (sp_tn ot (hz q)) (q, ot) t).1 = sp_bs (sp_en sb q : Nat) (sp_tn ot (hz q)) t.1 52 from rfl, show (sp_o1 (sp_en sb q : Nat) (sp_tn ot (hz q)) (q, ot) t).2 = (if sp_bs (sp_en sb q : Nat) (sp_tn ot (hz q)) t.1 52 = t.1 then t.2 else some (q, ot)) from rfl] at K
  have h13 : ∀ f h n, n < sb → va_up (va_up I pt f) (x + 17) h (x + 13) n = Int32.ofInt (hz n) := fun f h n hn => by rw [va_up_n _ _ (by omega), va_up_n _ _ (fun z => p13 z.symm)]; exact hH n hn
  have h14 : ∀ f h n, n < sb → va_up (va_up I pt f) (x + 17) h (x + 14) n = nI (sp_en sb n) := fun f h n hn => by rw [va_up_n _ _ (by omega), va_up_n _ _ (fun z => p14 z.symm), hE n hn]
  refine ev_iload_n 20 dX9_findEven_19 rfl rfl ?_
  refine ev_iconstN 21 1 dX9_findEven_20 rfl ?_
  refine ev_icmp_gtN 24 71 dX9_findEven_21 (by decide) (by omega) (by omega) rfl (fun hx => absurd hx ((by omega))) (fun hbr => ?_)
  refine ev_aload_n 25 dX9_findEven_24 rfl rfl ?_
  refine ev_aload_n 26 dX9_findEven_25 rfl rfl ?_
  refine ev_getP 29 mm_cl9 (j := 0) (Nat.le_of_ble_eq_true rfl) dX9_findEven_26 lk242 (fun _ _ _ => rfl) (hV.1 17 _ rfl) (a := (x + 4)) (hV.2.2 20 _ _ _ rfl) rfl ?_
  refine ev_getP 32 mm_cl8 (j := 9) (Nat.le_of_ble_eq_true rfl) dX9_findEven_29 lk155 (fun _ _ _ => rfl) (hV.1 4 _ rfl) (a := (x + 14)) (hV.2.2 17 _ _ _ rfl) rfl ?_
  refine ev_iload_n 33 dX9_findEven_32 rfl rfl ?_
  refine ev_iald 34 _ dX9_findEven_33 (hV.1 14 _ rfl) rfl (by have hNN := hV.2.1 14 _ rfl; omega) rfl ?_
  refine ev_eqI (y := (nI (sp_en sb q))) ((h14 _ _ q hq)) ?_
  refine ev_i2l 35 dX9_findEven_34 rfl ?_
  refine ev_eqJ (y := (Int64.ofInt (sp_en sb q : Nat))) ((ji_n (by omega))) ?_
  refine ev_aload_n 36 dX9_findEven_35 rfl rfl ?_
  refine ev_getP 39 mm_cl9 (j := 0) (Nat.le_of_ble_eq_true rfl) dX9_findEven_36 lk242 (fun _ _ _ => rfl) (hV.1 17 _ rfl) (a := (x + 4)) (hV.2.2 20 _ _ _ rfl) rfl ?_
  refine ev_getP 42 mm_cl8 (j := 8) (Nat.le_of_ble_eq_true rfl) dX9_findEven_39 lk153 (fun _ _ _ => rfl) (hV.1 4 _ rfl) (a := (x + 13)) (hV.2.2 16 _ _ _ rfl) rfl ?_
  refine ev_iload_n 43 dX9_findEven_42 rfl rfl ?_
  refine ev_iald 44 _ dX9_findEven_43 (hV.1 13 _ rfl) rfl (by have hNN := hV.2.1 13 _ rfl; omega) rfl ?_
  refine ev_eqI (y := (Int32.ofInt (hz q))) ((h13 _ _ q hq)) ?_
  refine ev_iload_n 45 dX9_findEven_44 rfl rfl ?_
  refine ev_invS 48 (Mc := mX9_turned) ⟨lk786, lk78, hdX9_turned, (Nat.le_of_ble_eq_true rfl), (Nat.le_of_ble_eq_true rfl)⟩ lk784 lk785 dX9_findEven_45 (ct_X9_turned hot) rfl (Nat.le_of_ble_eq_true rfl) rfl rfl ?_
  refine ev_i2l 49 dX9_findEven_48 rfl ?_
  refine ev_eqJ (y := (Int64.ofInt (sp_tn ot (hz q)))) ((ji_i (by omega) (by omega))) ?_
  refine ev_invV 52 (Mc := mX9_betters) ⟨lk790, lk78, hdX9_betters, (Nat.le_of_ble_eq_true rfl), (Nat.le_of_ble_eq_true rfl)⟩ lk787 lk789 lk16 mm_cl9 rfl dX9_findEven_49 (ct) rfl (hV.1 17 _ rfl) (Nat.le_of_ble_eq_true rfl) rfl rfl ?_
  generalize hs' : sp_bs (sp_en sb q : Nat) (sp_tn ot (hz q)) t.1 52 = s' at K
  by_cases c : s' = t.1
  · rw [if_pos c] at K
    rw [show sp_im t.1 s' = 0 by unfold sp_im; rw [if_pos c.symm]]
    refine ev_if_eqN 55 65 dX9_findEven_52 (by decide) (by omega) rfl (fun hbr => ?_) (fun hx => absurd (rfl) hx)
    refine ev_iincN 68 (lv' := [_, _, some (.int _), _]) 1 dX9_findEven_65 rfl (Nat.le_of_ble_eq_true rfl) rfl rfl ?_
    refine ev_goto 19 dX9_findEven_68 (by decide) ?_
    exact K
  · rw [if_neg c, ← eF_up (v := t.2)] at K
    rw [show sp_im t.1 s' = 1 by unfold sp_im; rw [if_neg (fun z => c z.symm)]]
    refine ev_if_eqN 55 65 dX9_findEven_52 (by decide) (by omega) rfl (fun hx => absurd hx ((by omega))) (fun hbr => ?_)
    refine ev_aload_n 56 dX9_findEven_55 rfl rfl ?_
    refine ev_iload_n 57 dX9_findEven_56 rfl rfl ?_
    refine ev_putI 60 mm_cl7 (j := 2) (Nat.le_of_ble_eq_true rfl) dX9_findEven_57 lk208 rfl (fun _ _ _ => rfl) rfl rfl tp rfl ?_
    refine ev_aload_n 61 dX9_findEven_60 rfl rfl ?_
    refine ev_iload_n 62 dX9_findEven_61 rfl rfl ?_
    refine ev_putI 65 mm_cl7 (j := 3) (Nat.le_of_ble_eq_true rfl) dX9_findEven_62 lk210 rfl (fun _ _ _ => rfl) rfl rfl tp rfl ?_
    refine ev_iincN 68 (lv' := [_, _, some (.int _), _]) 1 dX9_findEven_65 rfl (Nat.le_of_ble_eq_true rfl) rfl rfl ?_
    refine ev_goto 19 dX9_findEven_68 (by decide) ?_
    have u1 : ∀ (f h : Nat → Int32) (k : Nat) (w : Int32), va_up (va_up (va_up I pt f) (x + 17) h) pt (va_up (va_up (va_up I pt f) (x + 17) h pt) k w) = va_up (va_up I pt (va_up f k w)) (x + 17) h := fun f h k w => by
      rw [va_up_n _ _ p17, va_up_s, va_3 I (a := pt) (b := x + 17) _ _ _ p17]
    rw [u1, u1]
    exact K
theorem lp_X9_findEven2 {sb : Nat} {hz : Nat → Int} {t : sp_Q × sp_V} {FS FP : Nat → Int32} {Q : Nat → Int64} (hV : lyV B P x) (hG : ly_G g B) (hc : st_c g I) (hgx : ∀ i, i < 3 → g.2.2 i < x) (tp : mm_T B pt = 107) (hpt : x ≤ pt ∧ pt ≠ x + 13 ∧ pt ≠ x + 14 ∧ pt ≠ x + 17)
    (hb : sb ≤ 80) (hb2 : sb % 2 = 0) (hzb : sp_zb hz) (hH : ∀ n, n < sb → I (x + 13) n = Int32.ofInt (hz n)) (hE : ∀ n, n < sb → I (x + 14) n = nI (sp_en sb n)) (hok : sp_ok t.1) (hS : FS 2 = nI sb) : ∀ (d k : Nat), k + d = sb / 2 →
    Ev g mX9_findEven 9 [some (.ref (x + 17)), some (.ref pt), some (.int (nI (2 * k))), none] [] B
      (va_up (va_up I pt (eF FP (sp_es sb hz t k).2)) (x + 17) (cF FS (sp_es sb hz t k).1)) (va_up J (x + 17) (va_up Q 3 (Int64.ofInt (cZ (sp_es sb hz t k).1)))) P
      (none, B, va_up (va_up I pt (eF FP (sp_es sb hz t (sb / 2)).2)) (x + 17) (cF FS (sp_es sb hz t (sb / 2)).1), va_up J (x + 17) (va_up Q 3 (Int64.ofInt (cZ (sp_es sb hz t (sb / 2)).1))), P) := by
  intro d
  induction d with
  | zero =>
    intro k hk
    obtain rfl : k = sb / 2 := by omega
    generalize sp_es sb hz t (sb / 2) = T
    refine ev_iload_n 10 dX9_findEven_9 rfl rfl ?_
    refine ev_aload_n 11 dX9_findEven_10 rfl rfl ?_
    refine ev_getI 14 mm_cl9 (j := 2) (Nat.le_of_ble_eq_true rfl) dX9_findEven_11 lk245 (fun _ _ _ => rfl) (hV.1 17 _ rfl) rfl ?_
    refine ev_eqI (y := nI (sb)) ((by rw [va_up_s, cF_2]; exact hS)) ?_
    refine ev_icmp_geN 17 77 dX9_findEven_14 (by decide) (by omega) (by omega) rfl (fun hbr => ?_) (fun hx => absurd ((by omega)) hx)
    exact ev_vret dX9_findEven_77 rfl (rfl)
  | succ d ih =>
    intro k hk
    have e := ih (k + 1) (by omega)
    have be := sp_en_b (sb := sb) (q := 2 * k)
    have b0 := sp_tn_b hzb 0 (2 * k)
    have k1 := sp_ok_es (sb := sb) hzb hok k
    have k2 : sp_ok (sp_o1 (sp_en sb (2 * k) : Nat) (sp_tn 0 (hz (2 * k))) (2 * k, 0) (sp_es sb hz t k)).1 := sp_ok_bs (by omega) (by omega) b0.1 b0.2 k1 52 (Nat.le_refl _)
    generalize hZ : sp_es sb hz t (sb / 2) = SZ at e ⊢
    rw [show sp_es sb hz t (k + 1) = sp_o1 (sp_en sb (2 * k) : Nat) (sp_tn 1 (hz (2 * k))) (2 * k, 1) (sp_o1 (sp_en sb (2 * k) : Nat) (sp_tn 0 (hz (2 * k))) (2 * k, 0) (sp_es sb hz t k)) from rfl] at e
    generalize hT : sp_es sb hz t k = T at e k1 k2 ⊢
    refine ev_iload_n 10 dX9_findEven_9 rfl rfl ?_
    refine ev_aload_n 11 dX9_findEven_10 rfl rfl ?_
    refine ev_getI 14 mm_cl9 (j := 2) (Nat.le_of_ble_eq_true rfl) dX9_findEven_11 lk245 (fun _ _ _ => rfl) (hV.1 17 _ rfl) rfl ?_
    refine ev_eqI (y := nI (sb)) ((by rw [va_up_s, cF_2]; exact hS)) ?_
    refine ev_icmp_geN 17 77 dX9_findEven_14 (by decide) (by omega) (by omega) rfl (fun hx => absurd hx ((by omega))) (fun hbr => ?_)
    refine ev_iconstN 18 0 dX9_findEven_17 rfl ?_
    refine ev_istore_n 19 (lv' := [_, _, some (.int _), _]) dX9_findEven_18 (Nat.le_of_ble_eq_true rfl) rfl rfl ?_
    refine lp_X9_findEven1 (FP := FP) hV hG hc hgx tp hpt hb (by omega) (by omega) hzb hH hE k1 ?_
    generalize hT1 : sp_o1 (sp_en sb (2 * k) : Nat) (sp_tn 0 (hz (2 * k))) (2 * k, 0) T = T1 at e k2
    refine lp_X9_findEven1 (FP := FP) hV hG hc hgx tp hpt hb (by omega) (by omega) hzb hH hE k2 ?_
    generalize sp_o1 (sp_en sb (2 * k) : Nat) (sp_tn 1 (hz (2 * k))) (2 * k, 1) T1 = T2 at e
    refine ev_iload_n 20 dX9_findEven_19 rfl rfl ?_
    refine ev_iconstN 21 1 dX9_findEven_20 rfl ?_
    refine ev_icmp_gtN 24 71 dX9_findEven_21 (by decide) (by omega) (by omega) rfl (fun hbr => ?_) (fun hx => absurd ((by omega)) hx)
    refine ev_iincN 74 (lv' := [_, some (.ref _), _, _]) 2 dX9_findEven_71 rfl (Nat.le_of_ble_eq_true rfl) rfl rfl ?_
    refine ev_goto 9 dX9_findEven_74 (by decide) ?_
    refine ev_le (mle_s (mle_s (mle_s (mle_n (mle_0))))) ?_
    rw [show 2 * k + 2 = 2 * (k + 1) by omega]
    exact e
theorem ct_X9_findEven {sb : Nat} {hz : Nat → Int} {FS FP : Nat → Int32} {Q : Nat → Int64} (hV : lyV B P x) (hG : ly_G g B) (hc : st_c g I) (hgx : ∀ i, i < 3 → g.2.2 i < x) (tp : mm_T B pt = 107) (hpt : x ≤ pt ∧ pt ≠ x + 13 ∧ pt ≠ x + 14 ∧ pt ≠ x + 17)
    (hb : sb ≤ 80) (hb2 : sb % 2 = 0) (hzb : sp_zb hz) (hH : ∀ n, n < sb → I (x + 13) n = Int32.ofInt (hz n)) (hE : ∀ n, n < sb → I (x + 14) n = nI (sp_en sb n)) (hS : FS 2 = nI sb) :
    Ct g mX9_findEven [.ref (x + 17), .ref pt] B (va_up (va_up I pt FP) (x + 17) FS) (va_up J (x + 17) Q) P
      (none, B, va_up (va_up I pt (eF FP (sp_es sb hz (none, none) (sb / 2)).2)) (x + 17) (cF FS (sp_es sb hz (none, none) (sb / 2)).1), va_up J (x + 17) (va_up Q 3 (Int64.ofInt (cZ (sp_es sb hz (none, none) (sb / 2)).1))), P) := by
  have e := lp_X9_findEven2 (g := g) (I := I) (J := J) (P := P) (FS := FS) (FP := FP) (Q := Q) (t := (none, none)) hV hG hc hgx tp hpt hb hb2 hzb hH hE trivial hS (sb / 2) 0 (by omega)
  generalize hZ : sp_es sb hz (none, none) (sb / 2) = SZ at e ⊢
  rw [show sp_es sb hz (none, none) 0 = (none, none) from rfl] at e
  refine ct_of (lv := [some (.ref (x + 17)), some (.ref pt), none, none]) (by decide +kernel) (Nat.le_of_ble_eq_true rfl) rfl ?_
  refine ev_aload_n 1 dX9_findEven_0 rfl rfl ?_
  refine ev_ldc2 4 dX9_findEven_1 lk779 rfl ?_
  refine ev_putJ 7 mm_cl9 (j := 3) (Nat.le_of_ble_eq_true rfl) dX9_findEven_4 lk246 rfl (fun _ _ _ => rfl) rfl rfl (hV.1 17 _ rfl) rfl ?_
  refine ev_iconstN 8 0 dX9_findEven_7 rfl ?_
  refine ev_istore_n 9 (lv' := [_, some (.ref _), _, _]) dX9_findEven_8 (Nat.le_of_ble_eq_true rfl) rfl rfl ?_
  rw [va_up_s, bx_uu]
  exact e
theorem lp_X9_findPair1 {sb q ot : Nat} {hz : Nat → Int} {t : sp_Q × sp_V × sp_V} {FS FP : Nat → Int32} {Q : Nat → Int64} {Z : mm_Z} (hV : lyV B P x) (hG : ly_G g B) (hc : st_c g I) (hgx : ∀ i, i < 3 → g.2.2 i < x) (tp : mm_T B pt = 107) (hpt : x ≤ pt ∧ pt ≠ x + 13 ∧ pt ≠ x + 14 ∧ pt ≠ x + 17)
    (hb : sb ≤ 80) (hb2 : sb % 2 = 0) (hq : q < sb) (hq2 : q % 2 = 0) (hot : ot ≤ 1) (hzb : sp_zb hz) (hH : ∀ n, n < sb → I (x + 13) n = Int32.ofInt (hz n)) (hE : ∀ n, n < sb → I (x + 14) n = nI (sp_en sb n)) (hok : sp_ok t.1) (hS : FS 2 = nI sb)
    (K : Ev g mX9_findPair 19 [some (.ref (x + 17)), some (.ref pt), some (.int (nI q)), some (.int (nI (ot + 1)))] [] B
      (va_up (va_up I pt (pF (eF FP (sp_q1 sb hz q ot t).2.2) (sp_q1 sb hz q ot t).2.1)) (x + 17) (cF FS (sp_q1 sb hz q ot t).1)) (va_up J (x + 17) (va_up Q 3 (Int64.ofInt (cZ (sp_q1 sb hz q ot t).1)))) P Z) :
    Ev g mX9_findPair 19 [some (.ref (x + 17)), some (.ref pt), some (.int (nI q)), some (.int (nI ot))] [] B
      (va_up (va_up I pt (pF (eF FP t.2.2) t.2.1)) (x + 17) (cF FS t.1)) (va_up J (x + 17) (va_up Q 3 (Int64.ofInt (cZ t.1)))) P Z := by
  have p17 := hpt.2.2.2
  have ct := ct_X9_findOdd (g := g) (I := I) (J := J) (P := P) (FS := FS) (FP := eF FP t.2.2) (Q := Q) (q := q) (sg := ot) (t := (t.1, t.2.1)) hV hG hc hgx tp hpt hb hb2 hq hq2 hot hzb hH hE hok hS
  unfold sp_q1 at K
  generalize hs' : sp_os sb hz q ot (t.1, t.2.1) (sb / 2) = T at K ct
  refine ev_iload_n 20 dX9_findPair_19 rfl rfl ?_
  refine ev_iconstN 21 1 dX9_findPair_20 rfl ?_
  refine ev_icmp_gtN 24 50 dX9_findPair_21 (by decide) (by omega) (by omega) rfl (fun hx => absurd hx ((by omega))) (fun hbr => ?_)
  refine ev_aload_n 25 dX9_findPair_24 rfl rfl ?_
  refine ev_iload_n 26 dX9_findPair_25 rfl rfl ?_
  refine ev_iload_n 27 dX9_findPair_26 rfl rfl ?_
  refine ev_aload_n 28 dX9_findPair_27 rfl rfl ?_
  refine ev_invV 31 (Mc := mX9_findOdd) ⟨lk783, lk78, hdX9_findOdd, (Nat.le_of_ble_eq_true rfl), (Nat.le_of_ble_eq_true rfl)⟩ lk780 lk782 lk15 mm_cl9 rfl dX9_findPair_28 (ct) rfl (hV.1 17 _ rfl) (Nat.le_of_ble_eq_true rfl) rfl rfl ?_
  by_cases c : T.1 = t.1
  · rw [if_pos c] at K
    rw [show sp_im t.1 T.1 = 0 by unfold sp_im; rw [if_pos c.symm]]
    refine ev_if_eqN 34 44 dX9_findPair_31 (by decide) (by omega) rfl (fun hbr => ?_) (fun hx => absurd (rfl) hx)
    refine ev_iincN 47 (lv' := [_, _, some (.int _), _]) 1 dX9_findPair_44 rfl (Nat.le_of_ble_eq_true rfl) rfl rfl ?_
    refine ev_goto 19 dX9_findPair_47 (by decide) ?_
    exact K
  · rw [if_neg c, ← eF_up (v := t.2.2), eF_up, ← eF_pF, ← eF_up (v := t.2.2), eF_pF] at K
    rw [show sp_im t.1 T.1 = 1 by unfold sp_im; rw [if_neg (fun z => c z.symm)]]
    refine ev_if_eqN 34 44 dX9_findPair_31 (by decide) (by omega) rfl (fun hx => absurd hx ((by omega))) (fun hbr => ?_)
    refine ev_aload_n 35 dX9_findPair_34 rfl rfl ?_
    refine ev_iload_n 36 dX9_findPair_35 rfl rfl ?_
    refine ev_putI 39 mm_cl7 (j := 2) (Nat.le_of_ble_eq_true rfl) dX9_findPair_36 lk208 rfl (fun _ _ _ => rfl) rfl rfl tp rfl ?_
    refine ev_aload_n 40 dX9_findPair_39 rfl rfl ?_
    refine ev_iload_n 41 dX9_findPair_40 rfl rfl ?_
    refine ev_putI 44 mm_cl7 (j := 3) (Nat.le_of_ble_eq_true rfl) dX9_findPair_41 lk210 rfl (fun _ _ _ => rfl) rfl rfl tp rfl ?_
    refine ev_iincN 47 (lv' := [_, _, some (.int _), _]) 1 dX9_findPair_44 rfl (Nat.le_of_ble_eq_true rfl) rfl rfl ?_
    refine ev_goto 19 dX9_findPair_47 (by decide) ?_
    have u1 : ∀ (f h : Nat → Int32) (k : Nat) (w : Int32), va_up (va_up (va_up I pt f) (x + 17) h) pt (va_up (va_up (va_up I pt f) (x + 17) h pt) k w) = va_up (va_up I pt (va_up f k w)) (x + 17) h := fun f h k w => by
      rw [va_up_n _ _ p17, va_up_s, va_3 I (a := pt) (b := x + 17) _ _ _ p17]
    rw [u1, u1]
    exact K
theorem lp_X9_findPair2 {sb : Nat} {hz : Nat → Int} {t : sp_Q × sp_V × sp_V} {FS FP : Nat → Int32} {Q : Nat → Int64} (hV : lyV B P x) (hG : ly_G g B) (hc : st_c g I) (hgx : ∀ i, i < 3 → g.2.2 i < x) (tp : mm_T B pt = 107) (hpt : x ≤ pt ∧ pt ≠ x + 13 ∧ pt ≠ x + 14 ∧ pt ≠ x + 17)
    (hb : sb ≤ 80) (hb2 : sb % 2 = 0) (hzb : sp_zb hz) (hH : ∀ n, n < sb → I (x + 13) n = Int32.ofInt (hz n)) (hE : ∀ n, n < sb → I (x + 14) n = nI (sp_en sb n)) (hok : sp_ok t.1) (hS : FS 2 = nI sb) : ∀ (d k : Nat), k + d = sb / 2 →
    Ev g mX9_findPair 9 [some (.ref (x + 17)), some (.ref pt), some (.int (nI (2 * k))), none] [] B
      (va_up (va_up I pt (pF (eF FP (sp_qs sb hz t k).2.2) (sp_qs sb hz t k).2.1)) (x + 17) (cF FS (sp_qs sb hz t k).1)) (va_up J (x + 17) (va_up Q 3 (Int64.ofInt (cZ (sp_qs sb hz t k).1)))) P
      (none, B, va_up (va_up I pt (pF (eF FP (sp_qs sb hz t (sb / 2)).2.2) (sp_qs sb hz t (sb / 2)).2.1)) (x + 17) (cF FS (sp_qs sb hz t (sb / 2)).1), va_up J (x + 17) (va_up Q 3 (Int64.ofInt (cZ (sp_qs sb hz t (sb / 2)).1))), P) := by
  intro d
  induction d with
  | zero =>
    intro k hk
    obtain rfl : k = sb / 2 := by omega
    generalize sp_qs sb hz t (sb / 2) = T
    refine ev_iload_n 10 dX9_findPair_9 rfl rfl ?_
    refine ev_aload_n 11 dX9_findPair_10 rfl rfl ?_
    refine ev_getI 14 mm_cl9 (j := 2) (Nat.le_of_ble_eq_true rfl) dX9_findPair_11 lk245 (fun _ _ _ => rfl) (hV.1 17 _ rfl) rfl ?_
    refine ev_eqI (y := nI (sb)) ((by rw [va_up_s, cF_2]; exact hS)) ?_
    refine ev_icmp_geN 17 56 dX9_findPair_14 (by decide) (by omega) (by omega) rfl (fun hbr => ?_) (fun hx => absurd ((by omega)) hx)
    exact ev_vret dX9_findPair_56 rfl (rfl)
  | succ d ih =>
    intro k hk
    have e := ih (k + 1) (by omega)
    have k1 := sp_ok_qs (sb := sb) hzb hok k (by omega)
    have k2 := sp_ok_q1 (sb := sb) (q := 2 * k) (sg := 0) hzb (by omega) (by omega) k1
    generalize hZ : sp_qs sb hz t (sb / 2) = SZ at e ⊢
    rw [show sp_qs sb hz t (k + 1) = sp_q1 sb hz (2 * k) 1 (sp_q1 sb hz (2 * k) 0 (sp_qs sb hz t k)) from rfl] at e
    generalize hT : sp_qs sb hz t k = T at e k1 k2 ⊢
    refine ev_iload_n 10 dX9_findPair_9 rfl rfl ?_
    refine ev_aload_n 11 dX9_findPair_10 rfl rfl ?_
    refine ev_getI 14 mm_cl9 (j := 2) (Nat.le_of_ble_eq_true rfl) dX9_findPair_11 lk245 (fun _ _ _ => rfl) (hV.1 17 _ rfl) rfl ?_
    refine ev_eqI (y := nI (sb)) ((by rw [va_up_s, cF_2]; exact hS)) ?_
    refine ev_icmp_geN 17 56 dX9_findPair_14 (by decide) (by omega) (by omega) rfl (fun hx => absurd hx ((by omega))) (fun hbr => ?_)
    refine ev_iconstN 18 0 dX9_findPair_17 rfl ?_
    refine ev_istore_n 19 (lv' := [_, _, some (.int _), _]) dX9_findPair_18 (Nat.le_of_ble_eq_true rfl) rfl rfl ?_
    refine lp_X9_findPair1 (FP := FP) hV hG hc hgx tp hpt hb hb2 (by omega) (by omega) (by omega) hzb hH hE k1 hS ?_
    generalize hT1 : sp_q1 sb hz (2 * k) 0 T = T1 at e k2
    refine lp_X9_findPair1 (FP := FP) hV hG hc hgx tp hpt hb hb2 (by omega) (by omega) (by omega) hzb hH hE k2 hS ?_
    generalize sp_q1 sb hz (2 * k) 1 T1 = T2 at e
    refine ev_iload_n 20 dX9_findPair_19 rfl rfl ?_
    refine ev_iconstN 21 1 dX9_findPair_20 rfl ?_
    refine ev_icmp_gtN 24 50 dX9_findPair_21 (by decide) (by omega) (by omega) rfl (fun hbr => ?_) (fun hx => absurd ((by omega)) hx)
    refine ev_iincN 53 (lv' := [_, some (.ref _), _, _]) 2 dX9_findPair_50 rfl (Nat.le_of_ble_eq_true rfl) rfl rfl ?_
    refine ev_goto 9 dX9_findPair_53 (by decide) ?_
    refine ev_le (mle_s (mle_s (mle_s (mle_n (mle_0))))) ?_
    rw [show 2 * k + 2 = 2 * (k + 1) by omega]
    exact e
theorem ct_X9_findPair {sb : Nat} {hz : Nat → Int} {FS FP : Nat → Int32} {Q : Nat → Int64} (hV : lyV B P x) (hG : ly_G g B) (hc : st_c g I) (hgx : ∀ i, i < 3 → g.2.2 i < x) (tp : mm_T B pt = 107) (hpt : x ≤ pt ∧ pt ≠ x + 13 ∧ pt ≠ x + 14 ∧ pt ≠ x + 17)
    (hb : sb ≤ 80) (hb2 : sb % 2 = 0) (hzb : sp_zb hz) (hH : ∀ n, n < sb → I (x + 13) n = Int32.ofInt (hz n)) (hE : ∀ n, n < sb → I (x + 14) n = nI (sp_en sb n)) (hS : FS 2 = nI sb) :
    Ct g mX9_findPair [.ref (x + 17), .ref pt] B (va_up (va_up I pt FP) (x + 17) FS) (va_up J (x + 17) Q) P
      (none, B, va_up (va_up I pt (pF (eF FP (sp_qs sb hz (none, none, none) (sb / 2)).2.2) (sp_qs sb hz (none, none, none) (sb / 2)).2.1)) (x + 17) (cF FS (sp_qs sb hz (none, none, none) (sb / 2)).1), va_up J (x + 17) (va_up Q 3 (Int64.ofInt (cZ (sp_qs sb hz (none, none, none) (sb / 2)).1))), P) := by
  have e := lp_X9_findPair2 (g := g) (I := I) (J := J) (P := P) (FS := FS) (FP := FP) (Q := Q) (t := (none, none, none)) hV hG hc hgx tp hpt hb hb2 hzb hH hE trivial hS (sb / 2) 0 (by omega)
  generalize hZ : sp_qs sb hz (none, none, none) (sb / 2) = SZ at e ⊢
  rw [show sp_qs sb hz (none, none, none) 0 = (none, none, none) from rfl] at e
  refine ct_of (lv := [some (.ref (x + 17)), some (.ref pt), none, none]) (by decide +kernel) (Nat.le_of_ble_eq_true rfl) rfl ?_
  refine ev_aload_n 1 dX9_findPair_0 rfl rfl ?_
  refine ev_ldc2 4 dX9_findPair_1 lk779 rfl ?_
  refine ev_putJ 7 mm_cl9 (j := 3) (Nat.le_of_ble_eq_true rfl) dX9_findPair_4 lk246 rfl (fun _ _ _ => rfl) rfl rfl (hV.1 17 _ rfl) rfl ?_
  refine ev_iconstN 8 0 dX9_findPair_7 rfl ?_
  refine ev_istore_n 9 (lv' := [_, some (.ref _), _, _]) dX9_findPair_8 (Nat.le_of_ble_eq_true rfl) rfl rfl ?_
  rw [va_up_s, bx_uu]
  exact e
end VHS
