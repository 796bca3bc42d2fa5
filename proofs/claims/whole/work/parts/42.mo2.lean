/-- BEHIND a lag -/
def sp_beh (H : Nat → Int32) (lag : Nat) : Nat → Int32 := fun k => H (160 - lag + k % lag)
/-- H behind SUB new numbers -/
def sp_sh (H E : Nat → Int32) (sb : Nat) : Nat → Int32 := fun k => if k < 160 - sb then H (k + sb) else if k < 160 then E (k - (160 - sb)) else 0
/-- SYNTHESIS of n numbers, laid from place fr on: V, y, the saturations -/
def sp_sq (ix E : Nat → Int32) (fr : Nat) (s : (Nat → Int32) × (Nat → Int32) × Int64) : Nat → (Nat → Int32) × (Nat → Int32) × Int64
  | 0 => s
  | n + 1 => ((sp_syn ix 8 (E n) (sp_sq ix E fr s n).1 0).2.1, va_up (sp_sq ix E fr s n).2.1 (fr + n) (sp_syn ix 8 (E n) (sp_sq ix E fr s n).1 0).1, (sp_sq ix E fr s n).2.2 + (sp_syn ix 8 (E n) (sp_sq ix E fr s n).1 0).2.2)
theorem sp_syn_z {ix : Nat → Int32} : ∀ (k : Nat) (f : Int32) (V : Nat → Int32) (t : Int64), (∀ j, 8 ≤ j → V j = 0) → k ≤ 8 → ∀ j, 8 ≤ j → (sp_syn ix k f V t).2.1 j = 0 := by
  intro k
  induction k with
  | zero => intro f V t h _ j hj; show va_up V 0 f j = 0; rw [va_up_n _ _ (by omega)]; exact h j hj
  | succ k ih =>
    intro f V t h hk j hj
    unfold sp_syn
    refine ih _ _ _ (fun i hi => ?_) (by omega) j hj
    split
    · rw [va_up_n _ _ (by omega)]; exact h i hi
    · exact h i hi
theorem sp_sq_z {ix E : Nat → Int32} {fr : Nat} {s : (Nat → Int32) × (Nat → Int32) × Int64} (h : ∀ j, 8 ≤ j → s.1 j = 0) : ∀ (n j : Nat), 8 ≤ j → (sp_sq ix E fr s n).1 j = 0 := by
  intro n
  induction n with
  | zero => exact h
  | succ n ih => intro j hj; exact sp_syn_z 8 (E n) (sp_sq ix E fr s n).1 0 ih (Nat.le_refl 8) j hj
theorem sg_z {f : Nat → Int32} {off len : Nat} : ∀ j, len ≤ j → sg f off len j = 0 := fun j hj => by unfold sg; rw [if_neg (by omega)]
theorem sp_sh_sgp {f E : Nat → Int32} {off sb : Nat} (hb : sb ≤ 160) : sgp (sgp f off (160 - sb) (fun j => f (off + j + sb))) (off + (160 - sb)) sb E = sgp f off 160 (sp_sh (sg f off 160) E sb) := by
  funext k
  unfold sgp sp_sh
  by_cases c : off ≤ k ∧ k < off + 160
  · rw [if_pos c]
    by_cases c2 : off + (160 - sb) ≤ k
    · rw [if_pos (by omega), if_neg (by omega), if_pos (by omega)]
      exact congrArg E (by omega)
    · rw [if_neg (by omega), if_pos (by omega), if_pos (by omega), sg_in (by omega)]
      exact congrArg f (by omega)
  · rw [if_neg c, if_neg (by omega), if_neg (by omega)]
section MO2
variable {g : mm_G} {B : mm_B} {I : mm_TI} {J : mm_TJ} {P : mm_TP} {m : Nat}
theorem lp_X12_behind {s L sb : Nat} (hM : lyM B P m) (hs : s < 16) (hL : 20 ≤ L) (hL2 : L ≤ 147) (hb : sb ≤ 80) : ∀ (d n : Nat), n + d = sb →
    Ev g mX12_behind 3 [some (.ref m), some (.int (nI s)), some (.int (nI L)), some (.int (nI sb)), some (.int (nI n))] [] B (va_up I (m + 55) (sgp (I (m + 55)) 0 n (sp_beh (sg (I (m + 15)) (160 * s) 160) L))) J P
      (none, B, va_up I (m + 55) (sgp (I (m + 55)) 0 sb (sp_beh (sg (I (m + 15)) (160 * s) 160) L)), J, P) := by
  intro d
  induction d with
  | zero =>
    intro n hn
    refine ev_iload 5 dX12_behind_3 rfl rfl ?_
    refine ev_iload_n 6 dX12_behind_5 rfl rfl ?_
    refine ev_icmp_geN 9 43 dX12_behind_6 (by decide) (by omega) (by omega) rfl (fun hbr => ?_) (fun hx => absurd ((by omega)) hx)
    have e : n = sb := by omega
    subst e
    exact ev_vret dX12_behind_43 rfl (rfl)
  | succ d ih =>
    intro n hn
    have hm : n % L < L := Nat.mod_lt _ (by omega)
    refine ev_iload 5 dX12_behind_3 rfl rfl ?_
    refine ev_iload_n 6 dX12_behind_5 rfl rfl ?_
    refine ev_icmp_geN 9 43 dX12_behind_6 (by decide) (by omega) (by omega) rfl (fun hx => absurd hx ((by omega))) (fun hbr => ?_)
    refine ev_aload_n 10 dX12_behind_9 rfl rfl ?_
    refine ev_getP 13 mm_cl12 (j := 61) (Nat.le_of_ble_eq_true rfl) dX12_behind_10 lk1346 (fun _ _ _ => rfl) (hM.1 0 _ rfl) (a := (m + 55)) (hM.2.2 54 _ _ _ rfl) rfl ?_
    refine ev_iload 15 dX12_behind_13 rfl rfl ?_
    refine ev_aload_n 16 dX12_behind_15 rfl rfl ?_
    refine ev_getP 19 mm_cl12 (j := 20) (Nat.le_of_ble_eq_true rfl) dX12_behind_16 lk1305 (fun _ _ _ => rfl) (hM.1 0 _ rfl) (a := (m + 15)) (hM.2.2 14 _ _ _ rfl) rfl ?_
    refine ev_sipushN 22 160 dX12_behind_19 (by decide +kernel) rfl ?_
    refine ev_iload_n 23 dX12_behind_22 rfl rfl ?_
    refine ev_imulN 24 dX12_behind_23 rfl ?_
    refine ev_sipushN 27 160 dX12_behind_24 (by decide +kernel) rfl ?_
    refine ev_iaddN 28 dX12_behind_27 rfl ?_
    refine ev_iload_n 29 dX12_behind_28 rfl rfl ?_
    refine ev_isubN 30 dX12_behind_29 (by omega) rfl ?_
    refine ev_iload 32 dX12_behind_30 rfl rfl ?_
    refine ev_iload_n 33 dX12_behind_32 rfl rfl ?_
    refine ev_iremN 34 dX12_behind_33 (by omega) (by omega) (by omega) rfl ?_
    refine ev_iaddN 35 dX12_behind_34 rfl ?_
    refine ev_iald 36 _ dX12_behind_35 (hM.1 15 _ rfl) rfl (by have hNN := hM.2.1 15 _ rfl; omega) rfl ?_
    refine ev_iast 37 _ dX12_behind_36 (hM.1 55 _ rfl) rfl (by have hNN := hM.2.1 55 _ rfl; omega) rfl ?_
    refine ev_iincN 40 (lv' := [_, _, _, some (.int _), _]) 1 dX12_behind_37 rfl (Nat.le_of_ble_eq_true rfl) rfl rfl ?_
    refine ev_goto 3 dX12_behind_40 (by decide) ?_
    rw [va_up_s, bx_uu, va_up_n I (k := m + 55) (j := m + 15) _ (by omega), show sgp (I (m + 55)) 0 n = sgp (I (m + 55)) 0 n from rfl]
    have e : va_up (sgp (I (m + 55)) 0 n (sp_beh (sg (I (m + 15)) (160 * s) 160) L)) n (I (m + 15) (160 * s + 160 - L + n % L)) = sgp (I (m + 55)) 0 (n + 1) (sp_beh (sg (I (m + 15)) (160 * s) 160) L) := by
      have e2 := sgp_grow (f := I (m + 55)) (off := 0) (n := n) (v := sp_beh (sg (I (m + 15)) (160 * s) 160) L) (x := I (m + 15) (160 * s + 160 - L + n % L)) (by unfold sp_beh; rw [sg_in (by omega)]; congr 1; omega)
      rw [Nat.zero_add] at e2
      exact e2
    rw [e]
    exact ih (n + 1) (by omega)
theorem ct_X12_behind {s L sb : Nat} (hM : lyM B P m) (hs : s < 16) (hL : 20 ≤ L) (hL2 : L ≤ 147) (hb : sb ≤ 80) : Ct g mX12_behind [.ref m, .int (nI s), .int (nI L), .int (nI sb)] B I J P
    (none, B, va_up I (m + 55) (sgp (I (m + 55)) 0 sb (sp_beh (sg (I (m + 15)) (160 * s) 160) L)), J, P) := by
  refine ct_of (lv := [some (.ref m), some (.int (nI s)), some (.int (nI L)), some (.int (nI sb)), none]) (by decide +kernel) (Nat.le_of_ble_eq_true rfl) rfl ?_
  refine ev_iconstN 1 0 dX12_behind_0 rfl ?_
  refine ev_istore 3 (lv' := [_, _, _, some (.int _), _]) dX12_behind_1 (Nat.le_of_ble_eq_true rfl) rfl rfl ?_
  have e := lp_X12_behind (g := g) (I := I) (J := J) hM hs hL hL2 hb sb 0 (by omega)
  rw [sgp_0, va_up_id] at e
  exact e
theorem lp_X12_sound1 {s fr sb : Nat} {Z : mm_Z} (hM : lyM B P m) (hs : s < 16) (hb : sb ≤ 80) (hfr : fr < 2 ^ 31)
    (k : Ev g mX12_sound 47 [some (.ref m), some (.int (nI s)), some (.int (nI fr)), some (.int (nI sb)), some (.int (nI (160 - sb)))] [] B (va_up I (m + 15) (sgp (I (m + 15)) (160 * s) (160 - sb) (fun j => I (m + 15) (160 * s + j + sb)))) J P Z) : ∀ (d n : Nat), n + d = 160 - sb →
    Ev g mX12_sound 3 [some (.ref m), some (.int (nI s)), some (.int (nI fr)), some (.int (nI sb)), some (.int (nI n))] [] B (va_up I (m + 15) (sgp (I (m + 15)) (160 * s) n (fun j => I (m + 15) (160 * s + j + sb)))) J P Z := by
  intro d
  induction d with
  | zero =>
    intro n hn
    refine ev_iload 5 dX12_sound_3 rfl rfl ?_
    refine ev_sipushN 8 160 dX12_sound_5 (by decide +kernel) rfl ?_
    refine ev_iload_n 9 dX12_sound_8 rfl rfl ?_
    refine ev_isubN 10 dX12_sound_9 (by omega) rfl ?_
    refine ev_icmp_geN 13 47 dX12_sound_10 (by decide) (by omega) (by omega) rfl (fun hbr => ?_) (fun hx => absurd ((by omega)) hx)
    have e : n = 160 - sb := by omega
    subst e
    exact k
  | succ d ih =>
    intro n hn
    refine ev_iload 5 dX12_sound_3 rfl rfl ?_
    refine ev_sipushN 8 160 dX12_sound_5 (by decide +kernel) rfl ?_
    refine ev_iload_n 9 dX12_sound_8 rfl rfl ?_
    refine ev_isubN 10 dX12_sound_9 (by omega) rfl ?_
    refine ev_icmp_geN 13 47 dX12_sound_10 (by decide) (by omega) (by omega) rfl (fun hx => absurd hx ((by omega))) (fun hbr => ?_)
    refine ev_aload_n 14 dX12_sound_13 rfl rfl ?_
    refine ev_getP 17 mm_cl12 (j := 20) (Nat.le_of_ble_eq_true rfl) dX12_sound_14 lk1305 (fun _ _ _ => rfl) (hM.1 0 _ rfl) (a := (m + 15)) (hM.2.2 14 _ _ _ rfl) rfl ?_
    refine ev_sipushN 20 160 dX12_sound_17 (by decide +kernel) rfl ?_
    refine ev_iload_n 21 dX12_sound_20 rfl rfl ?_
    refine ev_imulN 22 dX12_sound_21 rfl ?_
    refine ev_iload 24 dX12_sound_22 rfl rfl ?_
    refine ev_iaddN 25 dX12_sound_24 rfl ?_
    refine ev_aload_n 26 dX12_sound_25 rfl rfl ?_
    refine ev_getP 29 mm_cl12 (j := 20) (Nat.le_of_ble_eq_true rfl) dX12_sound_26 lk1305 (fun _ _ _ => rfl) (hM.1 0 _ rfl) (a := (m + 15)) (hM.2.2 14 _ _ _ rfl) rfl ?_
    refine ev_sipushN 32 160 dX12_sound_29 (by decide +kernel) rfl ?_
    refine ev_iload_n 33 dX12_sound_32 rfl rfl ?_
    refine ev_imulN 34 dX12_sound_33 rfl ?_
    refine ev_iload 36 dX12_sound_34 rfl rfl ?_
    refine ev_iaddN 37 dX12_sound_36 rfl ?_
    refine ev_iload_n 38 dX12_sound_37 rfl rfl ?_
    refine ev_iaddN 39 dX12_sound_38 rfl ?_
    refine ev_iald 40 _ dX12_sound_39 (hM.1 15 _ rfl) rfl (by have hNN := hM.2.1 15 _ rfl; omega) rfl ?_
    refine ev_iast 41 _ dX12_sound_40 (hM.1 15 _ rfl) rfl (by have hNN := hM.2.1 15 _ rfl; omega) rfl ?_
    refine ev_iincN 44 (lv' := [_, _, _, some (.int _), _]) 1 dX12_sound_41 rfl (Nat.le_of_ble_eq_true rfl) rfl rfl ?_
    refine ev_goto 3 dX12_sound_44 (by decide) ?_
    rw [va_up_s, bx_uu, sgp_grow (by rw [sgp_out (by omega)])]
    exact ih (n + 1) (by omega)
theorem lp_X12_sound2 {s fr sb : Nat} {Z : mm_Z} (hM : lyM B P m) (hs : s < 16) (hb : sb ≤ 80) (hfr : fr < 2 ^ 31)
    (k : Ev g mX12_sound 88 [some (.ref m), some (.int (nI s)), some (.int (nI fr)), some (.int (nI sb)), some (.int (nI sb))] [] B (va_up I (m + 15) (sgp (I (m + 15)) (160 * s + (160 - sb)) sb (I (m + 57)))) J P Z) : ∀ (d n : Nat), n + d = sb →
    Ev g mX12_sound 50 [some (.ref m), some (.int (nI s)), some (.int (nI fr)), some (.int (nI sb)), some (.int (nI n))] [] B (va_up I (m + 15) (sgp (I (m + 15)) (160 * s + (160 - sb)) n (I (m + 57)))) J P Z := by
  intro d
  induction d with
  | zero =>
    intro n hn
    refine ev_iload 52 dX12_sound_50 rfl rfl ?_
    refine ev_iload_n 53 dX12_sound_52 rfl rfl ?_
    refine ev_icmp_geN 56 88 dX12_sound_53 (by decide) (by omega) (by omega) rfl (fun hbr => ?_) (fun hx => absurd ((by omega)) hx)
    have e : n = sb := by omega
    subst e
    exact k
  | succ d ih =>
    intro n hn
    refine ev_iload 52 dX12_sound_50 rfl rfl ?_
    refine ev_iload_n 53 dX12_sound_52 rfl rfl ?_
    refine ev_icmp_geN 56 88 dX12_sound_53 (by decide) (by omega) (by omega) rfl (fun hx => absurd hx ((by omega))) (fun hbr => ?_)
    refine ev_aload_n 57 dX12_sound_56 rfl rfl ?_
    refine ev_getP 60 mm_cl12 (j := 20) (Nat.le_of_ble_eq_true rfl) dX12_sound_57 lk1305 (fun _ _ _ => rfl) (hM.1 0 _ rfl) (a := (m + 15)) (hM.2.2 14 _ _ _ rfl) rfl ?_
    refine ev_sipushN 63 160 dX12_sound_60 (by decide +kernel) rfl ?_
    refine ev_iload_n 64 dX12_sound_63 rfl rfl ?_
    refine ev_imulN 65 dX12_sound_64 rfl ?_
    refine ev_sipushN 68 160 dX12_sound_65 (by decide +kernel) rfl ?_
    refine ev_iaddN 69 dX12_sound_68 rfl ?_
    refine ev_iload_n 70 dX12_sound_69 rfl rfl ?_
    refine ev_isubN 71 dX12_sound_70 (by omega) rfl ?_
    refine ev_iload 73 dX12_sound_71 rfl rfl ?_
    refine ev_iaddN 74 dX12_sound_73 rfl ?_
    refine ev_aload_n 75 dX12_sound_74 rfl rfl ?_
    refine ev_getP 78 mm_cl12 (j := 63) (Nat.le_of_ble_eq_true rfl) dX12_sound_75 lk1348 (fun _ _ _ => rfl) (hM.1 0 _ rfl) (a := (m + 57)) (hM.2.2 56 _ _ _ rfl) rfl ?_
    refine ev_iload 80 dX12_sound_78 rfl rfl ?_
    refine ev_iald 81 _ dX12_sound_80 (hM.1 57 _ rfl) rfl (by have hNN := hM.2.1 57 _ rfl; omega) rfl ?_
    refine ev_iast 82 _ dX12_sound_81 (hM.1 15 _ rfl) rfl (by have hNN := hM.2.1 15 _ rfl; omega) rfl ?_
    refine ev_iincN 85 (lv' := [_, _, _, some (.int _), _]) 1 dX12_sound_82 rfl (Nat.le_of_ble_eq_true rfl) rfl rfl ?_
    refine ev_goto 50 dX12_sound_85 (by decide) ?_
    rw [va_up_s, bx_uu, va_up_n I (k := m + 15) (j := m + 57) _ (by omega), show 160 * s + 160 - sb + n = 160 * s + (160 - sb) + n by omega, sgp_grow rfl]
    exact ih (n + 1) (by omega)
theorem lp_X12_sound3 {s fr sb : Nat} (hM : lyM B P m) (hs : s < 16) (hb : sb ≤ 80) (hfr : fr + sb ≤ 340) : ∀ (d n : Nat), n + d = sb →
    Ev g mX12_sound 91 [some (.ref m), some (.int (nI s)), some (.int (nI fr)), some (.int (nI sb)), some (.int (nI n))] [] B
      (va_up (va_up I (m + 16) (sgp (I (m + 16)) (8 * s) 8 (sp_sq (sg (I (m + 17)) (8 * s) 8) (I (m + 57)) fr (sg (I (m + 16)) (8 * s) 8, I (m + 54), 0) n).1)) (m + 54) (sp_sq (sg (I (m + 17)) (8 * s) 8) (I (m + 57)) fr (sg (I (m + 16)) (8 * s) 8, I (m + 54), 0) n).2.1)
      (sp_up J m 2 (sp_sq (sg (I (m + 17)) (8 * s) 8) (I (m + 57)) fr (sg (I (m + 16)) (8 * s) 8, I (m + 54), 0) n).2.2) P
      (none, B, va_up (va_up I (m + 16) (sgp (I (m + 16)) (8 * s) 8 (sp_sq (sg (I (m + 17)) (8 * s) 8) (I (m + 57)) fr (sg (I (m + 16)) (8 * s) 8, I (m + 54), 0) sb).1)) (m + 54) (sp_sq (sg (I (m + 17)) (8 * s) 8) (I (m + 57)) fr (sg (I (m + 16)) (8 * s) 8, I (m + 54), 0) sb).2.1,
        sp_up J m 2 (sp_sq (sg (I (m + 17)) (8 * s) 8) (I (m + 57)) fr (sg (I (m + 16)) (8 * s) 8, I (m + 54), 0) sb).2.2, P) := by
  intro d
  induction d with
  | zero =>
    intro n hn
    refine ev_iload 93 dX12_sound_91 rfl rfl ?_
    refine ev_iload_n 94 dX12_sound_93 rfl rfl ?_
    refine ev_icmp_geN 97 124 dX12_sound_94 (by decide) (by omega) (by omega) rfl (fun hbr => ?_) (fun hx => absurd ((by omega)) hx)
    have e : n = sb := by omega
    subst e
    exact ev_vret dX12_sound_124 rfl (rfl)
  | succ d ih =>
    intro n hn
    generalize hq : sp_sq (sg (I (m + 17)) (8 * s) 8) (I (m + 57)) fr (sg (I (m + 16)) (8 * s) 8, I (m + 54), 0) n = q
    have hz := sp_sq_z (ix := sg (I (m + 17)) (8 * s) 8) (E := I (m + 57)) (fr := fr) (s := (sg (I (m + 16)) (8 * s) 8, I (m + 54), 0)) sg_z n
    rw [hq] at hz
    obtain ⟨V, Y, t⟩ := q
    refine ev_iload 93 dX12_sound_91 rfl rfl ?_
    refine ev_iload_n 94 dX12_sound_93 rfl rfl ?_
    refine ev_icmp_geN 97 124 dX12_sound_94 (by decide) (by omega) (by omega) rfl (fun hx => absurd hx ((by omega))) (fun hbr => ?_)
    refine ev_aload_n 98 dX12_sound_97 rfl rfl ?_
    refine ev_getP 101 mm_cl12 (j := 60) (Nat.le_of_ble_eq_true rfl) dX12_sound_98 lk1345 (fun _ _ _ => rfl) (hM.1 0 _ rfl) (a := (m + 54)) (hM.2.2 53 _ _ _ rfl) rfl ?_
    refine ev_iload_n 102 dX12_sound_101 rfl rfl ?_
    refine ev_iload 104 dX12_sound_102 rfl rfl ?_
    refine ev_iaddN 105 dX12_sound_104 rfl ?_
    refine ev_aload_n 106 dX12_sound_105 rfl rfl ?_
    refine ev_iload_n 107 dX12_sound_106 rfl rfl ?_
    refine ev_aload_n 108 dX12_sound_107 rfl rfl ?_
    refine ev_getP 111 mm_cl12 (j := 63) (Nat.le_of_ble_eq_true rfl) dX12_sound_108 lk1348 (fun _ _ _ => rfl) (hM.1 0 _ rfl) (a := (m + 57)) (hM.2.2 56 _ _ _ rfl) rfl ?_
    refine ev_iload 113 dX12_sound_111 rfl rfl ?_
    refine ev_iald 114 _ dX12_sound_113 (hM.1 57 _ rfl) rfl (by have hNN := hM.2.1 57 _ rfl; omega) rfl ?_
    refine ev_invV 117 (Mc := mX12_synthesis) ⟨lk1626, lk80, hdX12_synthesis, (Nat.le_of_ble_eq_true rfl), (Nat.le_of_ble_eq_true rfl)⟩ lk1623 lk1625 lk46 mm_cl12 rfl dX12_sound_114 (ct_X12_synthesis hM hs) rfl (hM.1 0 _ rfl) (Nat.le_of_ble_eq_true rfl) rfl rfl ?_
    rw [sp_up_up]
    refine ev_iast 118 _ dX12_sound_117 (hM.1 54 _ rfl) rfl (by have hNN := hM.2.1 54 _ rfl; omega) rfl ?_
    refine ev_iincN 121 (lv' := [_, _, _, some (.int _), _]) 1 dX12_sound_118 rfl (Nat.le_of_ble_eq_true rfl) rfl rfl ?_
    refine ev_goto 91 dX12_sound_121 (by decide) ?_
    have e16 : ∀ (M Y : Nat → Int32), va_up (va_up I (m + 16) M) (m + 54) Y (m + 16) = M := fun M Y => by rw [va_up_n _ _ (by omega), va_up_s]
    have e17 : ∀ (M Y : Nat → Int32), va_up (va_up I (m + 16) M) (m + 54) Y (m + 17) = I (m + 17) := fun M Y => by rw [va_up_n _ _ (by omega), va_up_n _ _ (by omega)]
    have e57 : ∀ (M Y : Nat → Int32), va_up (va_up I (m + 16) M) (m + 54) Y (m + 57) = I (m + 57) := fun M Y => by rw [va_up_n _ _ (by omega), va_up_n _ _ (by omega)]
    simp only [e16, e17, e57, sgp_sgp]
    have e := ih (n + 1) (by omega)
    simp only [sp_sq, hq] at e
    rw [va_3 I (a := m + 16) (b := m + 54) _ _ _ (by omega), va_up_s, bx_uu, sg_sgp hz]
    exact e
theorem ct_X12_sound {s fr sb : Nat} (hM : lyM B P m) (hs : s < 16) (hb : sb ≤ 80) (hfr : fr + sb ≤ 340) : Ct g mX12_sound [.ref m, .int (nI s), .int (nI fr), .int (nI sb)] B I J P
    (none, B, va_up (va_up (va_up I (m + 15) (sgp (I (m + 15)) (160 * s) 160 (sp_sh (sg (I (m + 15)) (160 * s) 160) (I (m + 57)) sb))) (m + 16) (sgp (I (m + 16)) (8 * s) 8 (sp_sq (sg (I (m + 17)) (8 * s) 8) (I (m + 57)) fr (sg (I (m + 16)) (8 * s) 8, I (m + 54), 0) sb).1)) (m + 54) (sp_sq (sg (I (m + 17)) (8 * s) 8) (I (m + 57)) fr (sg (I (m + 16)) (8 * s) 8, I (m + 54), 0) sb).2.1,
      sp_up J m 2 (sp_sq (sg (I (m + 17)) (8 * s) 8) (I (m + 57)) fr (sg (I (m + 16)) (8 * s) 8, I (m + 54), 0) sb).2.2, P) := by
  refine ct_of (lv := [some (.ref m), some (.int (nI s)), some (.int (nI fr)), some (.int (nI sb)), none]) (by decide +kernel) (Nat.le_of_ble_eq_true rfl) rfl ?_
  refine ev_iconstN 1 0 dX12_sound_0 rfl ?_
  refine ev_istore 3 (lv' := [_, _, _, some (.int _), _]) dX12_sound_1 (Nat.le_of_ble_eq_true rfl) rfl rfl ?_
  have e := lp_X12_sound1 (g := g) (I := I) (J := J) (fr := fr) (sb := sb) (Z := (none, B, va_up (va_up (va_up I (m + 15) (sgp (I (m + 15)) (160 * s) 160 (sp_sh (sg (I (m + 15)) (160 * s) 160) (I (m + 57)) sb))) (m + 16) (sgp (I (m + 16)) (8 * s) 8 (sp_sq (sg (I (m + 17)) (8 * s) 8) (I (m + 57)) fr (sg (I (m + 16)) (8 * s) 8, I (m + 54), 0) sb).1)) (m + 54) (sp_sq (sg (I (m + 17)) (8 * s) 8) (I (m + 57)) fr (sg (I (m + 16)) (8 * s) 8, I (m + 54), 0) sb).2.1,
      sp_up J m 2 (sp_sq (sg (I (m + 17)) (8 * s) 8) (I (m + 57)) fr (sg (I (m + 16)) (8 * s) 8, I (m + 54), 0) sb).2.2, P)) hM hs hb (by omega) ?_ (160 - sb) 0 (by omega)
  · rw [sgp_0, va_up_id] at e
    exact e
  refine ev_iconstN 48 0 dX12_sound_47 rfl ?_
  refine ev_istore 50 (lv' := [_, _, _, some (.int _), _]) dX12_sound_48 (Nat.le_of_ble_eq_true rfl) rfl rfl ?_
  have e2 := lp_X12_sound2 (g := g) (I := va_up I (m + 15) (sgp (I (m + 15)) (160 * s) (160 - sb) (fun j => I (m + 15) (160 * s + j + sb)))) (J := J) (fr := fr) (sb := sb) (Z := (none, B, va_up (va_up (va_up I (m + 15) (sgp (I (m + 15)) (160 * s) 160 (sp_sh (sg (I (m + 15)) (160 * s) 160) (I (m + 57)) sb))) (m + 16) (sgp (I (m + 16)) (8 * s) 8 (sp_sq (sg (I (m + 17)) (8 * s) 8) (I (m + 57)) fr (sg (I (m + 16)) (8 * s) 8, I (m + 54), 0) sb).1)) (m + 54) (sp_sq (sg (I (m + 17)) (8 * s) 8) (I (m + 57)) fr (sg (I (m + 16)) (8 * s) 8, I (m + 54), 0) sb).2.1,
      sp_up J m 2 (sp_sq (sg (I (m + 17)) (8 * s) 8) (I (m + 57)) fr (sg (I (m + 16)) (8 * s) 8, I (m + 54), 0) sb).2.2, P)) hM hs hb (by omega) ?_ sb 0 (by omega)
  · rw [sgp_0, va_up_id] at e2
    exact e2
  refine ev_iconstN 89 0 dX12_sound_88 rfl ?_
  refine ev_istore 91 (lv' := [_, _, _, some (.int _), _]) dX12_sound_89 (Nat.le_of_ble_eq_true rfl) rfl rfl ?_
  rw [va_up_s, bx_uu, va_up_n I (k := m + 15) (j := m + 57) _ (by omega), sp_sh_sgp (by omega)]
  have e3 := lp_X12_sound3 (g := g) (I := va_up I (m + 15) (sgp (I (m + 15)) (160 * s) 160 (sp_sh (sg (I (m + 15)) (160 * s) 160) (I (m + 57)) sb))) (J := J) hM hs hb hfr sb 0 (by omega)
  simp only [sp_sq] at e3
  rw [sgp_sg, va_up_id, va_up_id, sp_up_0] at e3
  rw [va_up_n I (k := m + 15) (j := m + 57) _ (by omega), va_up_n I (k := m + 15) (j := m + 16) _ (by omega), va_up_n I (k := m + 15) (j := m + 17) _ (by omega), va_up_n I (k := m + 15) (j := m + 54) _ (by omega)] at e3
  exact e3
end MO2
