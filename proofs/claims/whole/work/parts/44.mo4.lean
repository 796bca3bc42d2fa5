/-- n draws -/
def sp_dz (z : Nat) : Nat → Nat
  | 0 => z
  | n + 1 => sp_dn (sp_dz z n)
theorem sp_dz_lt {z : Nat} (h : z < 2 ^ 31) : ∀ n, sp_dz z n < 2 ^ 31
  | 0 => h
  | n + 1 => sp_dn_lt (sp_dz z n)
/-- HUSH: the number before S, the excitation, the saturations of n of them -/
def sp_hw (pk : Int32) (z n : Nat) : Int64 := ((sp_dt (sp_dz z (n + 1)) * pk) >>> (nI 8 &&& 31)).toInt64
def sp_hE (pk : Int32) (z : Nat) : Nat → Int32 := fun n => sp_S (sp_hw pk z n)
def sp_hT (pk : Int32) (z : Nat) : Nat → Int64
  | 0 => 0
  | n + 1 => sp_hT pk z n + sp_t (sp_hw pk z n)
theorem sp_sq_cg {ix E E' : Nat → Int32} {fr : Nat} {s : (Nat → Int32) × (Nat → Int32) × Int64} : ∀ (k : Nat), (∀ n, n < k → E n = E' n) → sp_sq ix E fr s k = sp_sq ix E' fr s k := by
  intro k
  induction k with
  | zero => intro _; rfl
  | succ k ih =>
    intro h
    have e := ih (fun n hn => h n (by omega))
    simp only [sp_sq, e, h k (Nat.lt_succ_self k)]
theorem sp_sh_cg {H E E' : Nat → Int32} {sb : Nat} (hb : sb ≤ 160) (h : ∀ n, n < sb → E n = E' n) : sp_sh H E sb = sp_sh H E' sb := by
  funext k
  unfold sp_sh
  split
  · rfl
  · split
    · exact h _ (by omega)
    · rfl
theorem sp_sh_z {H E : Nat → Int32} {sb : Nat} (hb : sb ≤ 160) : ∀ j, 160 ≤ j → sp_sh H E sb j = 0 := fun j hj => by
  unfold sp_sh
  rw [if_neg (by omega), if_neg (by omega)]
/-- HUSH, p parts of it: H, V, y, the saturations -/
def sp_hu (ix : Nat → Int32) (pk : Int32) (z sb : Nat) (s : (Nat → Int32) × (Nat → Int32) × (Nat → Int32) × Int64) : Nat → (Nat → Int32) × (Nat → Int32) × (Nat → Int32) × Int64
  | 0 => s
  | p + 1 => (sp_sh (sp_hu ix pk z sb s p).1 (sp_hE pk (sp_dz z (p * sb))) sb,
      (sp_sq ix (sp_hE pk (sp_dz z (p * sb))) (sb * p) ((sp_hu ix pk z sb s p).2.1, (sp_hu ix pk z sb s p).2.2.1, 0) sb).1,
      (sp_sq ix (sp_hE pk (sp_dz z (p * sb))) (sb * p) ((sp_hu ix pk z sb s p).2.1, (sp_hu ix pk z sb s p).2.2.1, 0) sb).2.1,
      (sp_hu ix pk z sb s p).2.2.2 + (sp_hT pk (sp_dz z (p * sb)) sb + (sp_sq ix (sp_hE pk (sp_dz z (p * sb))) (sb * p) ((sp_hu ix pk z sb s p).2.1, (sp_hu ix pk z sb s p).2.2.1, 0) sb).2.2))
theorem sp_hu_z {ix : Nat → Int32} {pk : Int32} {z sb : Nat} {s : (Nat → Int32) × (Nat → Int32) × (Nat → Int32) × Int64} (hb : sb ≤ 160) (h1 : ∀ j, 160 ≤ j → s.1 j = 0) (h2 : ∀ j, 8 ≤ j → s.2.1 j = 0) : ∀ p, (∀ j, 160 ≤ j → (sp_hu ix pk z sb s p).1 j = 0) ∧ (∀ j, 8 ≤ j → (sp_hu ix pk z sb s p).2.1 j = 0) := by
  intro p
  induction p with
  | zero => exact ⟨h1, h2⟩
  | succ p ih => exact ⟨sp_sh_z hb, sp_sq_z (s := ((sp_hu ix pk z sb s p).2.1, (sp_hu ix pk z sb s p).2.2.1, 0)) ih.2 sb⟩
theorem sp_dz_add (z a b : Nat) : sp_dz (sp_dz z a) b = sp_dz z (a + b) := by
  induction b with
  | zero => rfl
  | succ b ih => show sp_dn (sp_dz (sp_dz z a) b) = sp_dn (sp_dz z (a + b)); rw [ih]
section MO4
variable {g : mm_G} {B : mm_B} {I : mm_TI} {J : mm_TJ} {P : mm_TP} {m : Nat}
/-- sound, by what it leaves -/
theorem cx_X12_sound {s fr sb : Nat} {E H V : Nat → Int32} (hM : lyM B P m) (hs : s < 16) (hb : sb ≤ 80) (hfr : fr + sb ≤ 340) (hE : ∀ n, n < sb → I (m + 57) n = E n) (hH : sg (I (m + 15)) (160 * s) 160 = H) (hV : sg (I (m + 16)) (8 * s) 8 = V) : ∃ I' : mm_TI, Ct g mX12_sound [.ref m, .int (nI s), .int (nI fr), .int (nI sb)] B I J P
    (none, B, I', sp_up J m 2 (sp_sq (sg (I (m + 17)) (8 * s) 8) E fr (V, I (m + 54), 0) sb).2.2, P) ∧
    I' (m + 15) = sgp (I (m + 15)) (160 * s) 160 (sp_sh H E sb) ∧ I' (m + 16) = sgp (I (m + 16)) (8 * s) 8 (sp_sq (sg (I (m + 17)) (8 * s) 8) E fr (V, I (m + 54), 0) sb).1 ∧
    I' (m + 54) = (sp_sq (sg (I (m + 17)) (8 * s) 8) E fr (V, I (m + 54), 0) sb).2.1 ∧ ∀ q, q ≠ m + 15 → q ≠ m + 16 → q ≠ m + 54 → I' q = I q := by
  have e := ct_X12_sound (g := g) (I := I) (J := J) hM hs hb hfr
  rw [sp_sh_cg (by omega) hE, sp_sq_cg sb hE, hH, hV] at e
  refine ⟨_, e, ?_, ?_, ?_, fun q h1 h2 h3 => ?_⟩
  · rw [va_up_n _ _ (by omega), va_up_n _ _ (by omega), va_up_s]
  · rw [va_up_n _ _ (by omega), va_up_s]
  · rw [va_up_s]
  · rw [va_up_n _ _ h3, va_up_n _ _ h2, va_up_n _ _ h1]
theorem lp_X12_hush1 {s z sb p : Nat} {sd pk : Int32} {Z : mm_Z} (hM : lyM B P m) (hs : s < 16) (hb : sb ≤ 80) (hz : z < 2 ^ 31) (hp : p < 4)
    (k : Ev g mX12_hush 86 [some (.ref m), some (.int (nI s)), some (.int sd), some (.int pk), some (.int (nI sb)), some (.int (nI (sp_dz z sb))), some (.int (nI p)), some (.int (nI sb))] [] B (va_up I (m + 57) (sgp (I (m + 57)) 0 sb (sp_hE pk z))) (sp_up J m 2 (sp_hT pk z sb)) P Z) : ∀ (d n : Nat), n + d = sb →
    Ev g mX12_hush 44 [some (.ref m), some (.int (nI s)), some (.int sd), some (.int pk), some (.int (nI sb)), some (.int (nI (sp_dz z n))), some (.int (nI p)), some (.int (nI n))] [] B (va_up I (m + 57) (sgp (I (m + 57)) 0 n (sp_hE pk z))) (sp_up J m 2 (sp_hT pk z n)) P Z := by
  intro d
  induction d with
  | zero =>
    intro n hn
    refine ev_iload 46 dX12_hush_44 rfl rfl ?_
    refine ev_iload 48 dX12_hush_46 rfl rfl ?_
    refine ev_icmp_geN 51 86 dX12_hush_48 (by decide) (by omega) (by omega) rfl (fun hbr => ?_) (fun hx => absurd ((by omega)) hx)
    have e : n = sb := by omega
    subst e
    exact k
  | succ d ih =>
    intro n hn
    refine ev_iload 46 dX12_hush_44 rfl rfl ?_
    refine ev_iload 48 dX12_hush_46 rfl rfl ?_
    refine ev_icmp_geN 51 86 dX12_hush_48 (by decide) (by omega) (by omega) rfl (fun hx => absurd hx ((by omega))) (fun hbr => ?_)
    refine ev_iload 53 dX12_hush_51 rfl rfl ?_
    refine ev_invS 56 (Mc := mX12_drawn) ⟨lk1585, lk80, hdX12_drawn, (Nat.le_of_ble_eq_true rfl), (Nat.le_of_ble_eq_true rfl)⟩ lk1583 lk1584 dX12_hush_53 (ct_X12_drawn (sp_dz_lt hz n)) rfl (Nat.le_of_ble_eq_true rfl) rfl rfl ?_
    refine ev_istore 58 (lv' := [_, _, _, _, some (.int _), _, _, _]) dX12_hush_56 (Nat.le_of_ble_eq_true rfl) rfl rfl ?_
    refine ev_aload_n 59 dX12_hush_58 rfl rfl ?_
    refine ev_getP 62 mm_cl12 (j := 63) (Nat.le_of_ble_eq_true rfl) dX12_hush_59 lk1348 (fun _ _ _ => rfl) (hM.1 0 _ rfl) (a := (m + 57)) (hM.2.2 56 _ _ _ rfl) rfl ?_
    refine ev_iload 64 dX12_hush_62 rfl rfl ?_
    refine ev_aload_n 65 dX12_hush_64 rfl rfl ?_
    refine ev_iload 67 dX12_hush_65 rfl rfl ?_
    refine ev_invS 70 (Mc := mX12_told8) ⟨lk1591, lk80, hdX12_told8, (Nat.le_of_ble_eq_true rfl), (Nat.le_of_ble_eq_true rfl)⟩ lk1589 lk1590 dX12_hush_67 (ct_X12_told8 (sp_dn_lt _)) rfl (Nat.le_of_ble_eq_true rfl) rfl rfl ?_
    refine ev_iload_n 71 dX12_hush_70 rfl rfl ?_
    refine ev_imul 72 dX12_hush_71 rfl ?_
    refine ev_bipushN 74 8 dX12_hush_72 (by decide +kernel) rfl ?_
    refine ev_ishr 75 dX12_hush_74 rfl ?_
    refine ev_i2l 76 dX12_hush_75 rfl ?_
    refine ev_invV 79 (Mc := mX12_sample16) ⟨lk1608, lk80, hdX12_sample16, (Nat.le_of_ble_eq_true rfl), (Nat.le_of_ble_eq_true rfl)⟩ lk1605 lk1607 lk42 mm_cl12 rfl dX12_hush_76 (ct_X12_sample16 hM) rfl (hM.1 0 _ rfl) (Nat.le_of_ble_eq_true rfl) rfl rfl ?_
    rw [sp_up_up]
    refine ev_iast 80 _ dX12_hush_79 (hM.1 57 _ rfl) rfl (by have hNN := hM.2.1 57 _ rfl; omega) rfl ?_
    refine ev_iincN 83 (lv' := [_, _, _, _, _, _, some (.int _), _]) 1 dX12_hush_80 rfl (Nat.le_of_ble_eq_true rfl) rfl rfl ?_
    refine ev_goto 44 dX12_hush_83 (by decide) ?_
    have e2 := sgp_grow (f := I (m + 57)) (off := 0) (n := n) (v := sp_hE pk z) (x := sp_S (sp_hw pk z n)) rfl
    simp only [Nat.zero_add] at e2
    have e3 := ih (n + 1) (by omega)
    rw [← e2] at e3
    rw [va_up_s, bx_uu]
    exact e3
theorem lp_X12_hush2 {I0 : mm_TI} {s z sb : Nat} {sd pk : Int32} (hM : lyM B P m) (hs : s < 16) (hb : sb ≤ 80) (hz : z < 2 ^ 31) : ∀ (d p : Nat), p + d = 4 → ∀ (I : mm_TI),
    I (m + 15) = sgp (I0 (m + 15)) (160 * s) 160 (sp_hu (sg (I0 (m + 17)) (8 * s) 8) pk z sb (sg (I0 (m + 15)) (160 * s) 160, sg (I0 (m + 16)) (8 * s) 8, I0 (m + 54), 0) p).1 →
    I (m + 16) = sgp (I0 (m + 16)) (8 * s) 8 (sp_hu (sg (I0 (m + 17)) (8 * s) 8) pk z sb (sg (I0 (m + 15)) (160 * s) 160, sg (I0 (m + 16)) (8 * s) 8, I0 (m + 54), 0) p).2.1 →
    I (m + 54) = (sp_hu (sg (I0 (m + 17)) (8 * s) 8) pk z sb (sg (I0 (m + 15)) (160 * s) 160, sg (I0 (m + 16)) (8 * s) 8, I0 (m + 54), 0) p).2.2.1 →
    (∀ q, q ≠ m + 15 → q ≠ m + 16 → q ≠ m + 54 → q ≠ m + 57 → I q = I0 q) →
    ∃ I' : mm_TI,
    Ev g mX12_hush 35 [some (.ref m), some (.int (nI s)), some (.int sd), some (.int pk), some (.int (nI sb)), some (.int (nI (sp_dz z (p * sb)))), some (.int (nI p)), none] [] B I (sp_up J m 2 (sp_hu (sg (I0 (m + 17)) (8 * s) 8) pk z sb (sg (I0 (m + 15)) (160 * s) 160, sg (I0 (m + 16)) (8 * s) 8, I0 (m + 54), 0) p).2.2.2) P
      (none, B, I', sp_up J m 2 (sp_hu (sg (I0 (m + 17)) (8 * s) 8) pk z sb (sg (I0 (m + 15)) (160 * s) 160, sg (I0 (m + 16)) (8 * s) 8, I0 (m + 54), 0) 4).2.2.2, P) ∧
    I' (m + 15) = sgp (I0 (m + 15)) (160 * s) 160 (sp_hu (sg (I0 (m + 17)) (8 * s) 8) pk z sb (sg (I0 (m + 15)) (160 * s) 160, sg (I0 (m + 16)) (8 * s) 8, I0 (m + 54), 0) 4).1 ∧
    I' (m + 16) = sgp (I0 (m + 16)) (8 * s) 8 (sp_hu (sg (I0 (m + 17)) (8 * s) 8) pk z sb (sg (I0 (m + 15)) (160 * s) 160, sg (I0 (m + 16)) (8 * s) 8, I0 (m + 54), 0) 4).2.1 ∧
    I' (m + 54) = (sp_hu (sg (I0 (m + 17)) (8 * s) 8) pk z sb (sg (I0 (m + 15)) (160 * s) 160, sg (I0 (m + 16)) (8 * s) 8, I0 (m + 54), 0) 4).2.2.1 ∧
    (∀ q, q ≠ m + 15 → q ≠ m + 16 → q ≠ m + 54 → q ≠ m + 57 → I' q = I0 q) := by
  have hzz := sp_hu_z (ix := sg (I0 (m + 17)) (8 * s) 8) (pk := pk) (z := z) (sb := sb) (s := (sg (I0 (m + 15)) (160 * s) 160, sg (I0 (m + 16)) (8 * s) 8, I0 (m + 54), 0)) (by omega) sg_z sg_z
  generalize hqq : sp_hu (sg (I0 (m + 17)) (8 * s) 8) pk z sb (sg (I0 (m + 15)) (160 * s) 160, sg (I0 (m + 16)) (8 * s) 8, I0 (m + 54), 0) = qq at hzz ⊢
  intro d
  induction d with
  | zero =>
    intro p hp I h1 h2 h3 h4
    obtain rfl : p = 4 := by omega
    refine ⟨I, ?_, h1, h2, h3, h4⟩
    refine ev_iload 37 dX12_hush_35 rfl rfl ?_
    refine ev_iconstN 38 4 dX12_hush_37 rfl ?_
    refine ev_icmp_geN 41 104 dX12_hush_38 (by decide) (by omega) (by omega) rfl (fun hbr => ?_) (fun hx => absurd ((Nat.le_refl 4)) hx)
    exact ev_vret dX12_hush_104 rfl (rfl)
  | succ d ih =>
    intro p hp I h1 h2 h3 h4
    have hstep : qq (p + 1) = (sp_sh (qq p).1 (sp_hE pk (sp_dz z (p * sb))) sb,
      (sp_sq (sg (I0 (m + 17)) (8 * s) 8) (sp_hE pk (sp_dz z (p * sb))) (sb * p) ((qq p).2.1, (qq p).2.2.1, 0) sb).1,
      (sp_sq (sg (I0 (m + 17)) (8 * s) 8) (sp_hE pk (sp_dz z (p * sb))) (sb * p) ((qq p).2.1, (qq p).2.2.1, 0) sb).2.1,
      (qq p).2.2.2 + (sp_hT pk (sp_dz z (p * sb)) sb + (sp_sq (sg (I0 (m + 17)) (8 * s) 8) (sp_hE pk (sp_dz z (p * sb))) (sb * p) ((qq p).2.1, (qq p).2.2.1, 0) sb).2.2)) := by rw [← hqq]; rfl
    have hfr : sb * p + sb ≤ 340 := by
      have : sb * p ≤ 80 * 3 := Nat.mul_le_mul hb (by omega)
      omega
    obtain ⟨I2, c2, a1, a2, a3, a4⟩ := cx_X12_sound (g := g) (I := va_up I (m + 57) (sgp (I (m + 57)) 0 sb (sp_hE pk (sp_dz z (p * sb))))) (J := sp_up (sp_up J m 2 (qq p).2.2.2) m 2 (sp_hT pk (sp_dz z (p * sb)) sb)) (s := s) (fr := sb * p) (sb := sb) (E := sp_hE pk (sp_dz z (p * sb))) (H := (qq p).1) (V := (qq p).2.1) hM hs hb hfr
      (fun n hn => by rw [va_up_s]; have e := sgp_in (f := I (m + 57)) (v := sp_hE pk (sp_dz z (p * sb))) (off := 0) hn; rw [Nat.zero_add] at e; exact e)
      (by rw [va_up_n _ _ (by omega), h1]; exact sg_sgp (hzz p).1) (by rw [va_up_n _ _ (by omega), h2]; exact sg_sgp (hzz p).2)
    simp only [va_up_n I (k := m + 57) (j := m + 15) _ (by omega), va_up_n I (k := m + 57) (j := m + 16) _ (by omega), va_up_n I (k := m + 57) (j := m + 17) _ (by omega), va_up_n I (k := m + 57) (j := m + 54) _ (by omega), h1, h2, h3, h4 (m + 17) (by omega) (by omega) (by omega) (by omega), sgp_sgp, sp_up_up] at c2 a1 a2 a3
    obtain ⟨I', e', b1, b2, b3, b4⟩ := ih (p + 1) (by omega) I2 (by rw [a1, hstep]) (by rw [a2, hstep]) (by rw [a3, hstep]) (fun q g1 g2 g3 g4 => by rw [a4 q g1 g2 g3, va_up_n _ _ g4]; exact h4 q g1 g2 g3 g4)
    refine ⟨I', ?_, b1, b2, b3, b4⟩
    refine ev_iload 37 dX12_hush_35 rfl rfl ?_
    refine ev_iconstN 38 4 dX12_hush_37 rfl ?_
    refine ev_icmp_geN 41 104 dX12_hush_38 (by decide) (by omega) (by omega) rfl (fun hx => absurd hx ((by omega))) (fun hbr => ?_)
    refine ev_iconstN 42 0 dX12_hush_41 rfl ?_
    refine ev_istore 44 (lv' := [_, _, _, _, _, _, some (.int _), _]) dX12_hush_42 (Nat.le_of_ble_eq_true rfl) rfl rfl ?_
    have e := lp_X12_hush1 (g := g) (I := I) (J := sp_up J m 2 (qq p).2.2.2) (s := s) (z := sp_dz z (p * sb)) (sb := sb) (p := p) (sd := sd) (pk := pk) (Z := (none, B, I', sp_up J m 2 (qq 4).2.2.2, P)) hM hs hb (sp_dz_lt hz _) (by omega) ?_ sb 0 (by omega)
    · rw [sgp_0, va_up_id, show sp_hT pk (sp_dz z (p * sb)) 0 = 0 from rfl, sp_up_0] at e
      exact e
    rw [sp_up_up]
    refine ev_aload_n 87 dX12_hush_86 rfl rfl ?_
    refine ev_iload_n 88 dX12_hush_87 rfl rfl ?_
    refine ev_iload 90 dX12_hush_88 rfl rfl ?_
    refine ev_iload 92 dX12_hush_90 rfl rfl ?_
    refine ev_imulN 93 dX12_hush_92 rfl ?_
    refine ev_iload 95 dX12_hush_93 rfl rfl ?_
    refine ev_invVv 98 (Mc := mX12_sound) ⟨lk1622, lk80, hdX12_sound, (Nat.le_of_ble_eq_true rfl), (Nat.le_of_ble_eq_true rfl)⟩ lk1619 lk1621 lk45 mm_cl12 rfl dX12_hush_95 (c2) rfl (hM.1 0 _ rfl) (Nat.le_of_ble_eq_true rfl) rfl rfl ?_
    refine ev_iincN 101 (lv' := [_, _, _, _, _, some (.int _), _, _]) 1 dX12_hush_98 rfl (Nat.le_of_ble_eq_true rfl) rfl rfl ?_
    refine ev_goto 35 dX12_hush_101 (by decide) ?_
    refine ev_le (mle_s (mle_s (mle_s (mle_s (mle_s (mle_s (mle_s (mle_n (mle_0))))))))) ?_
    rw [sp_dz_add, show p * sb + sb = (p + 1) * sb by rw [Nat.succ_mul]]
    rw [hstep] at e'
    rw [Int64.add_assoc]
    exact e'
theorem lp_X12_hush0 {s sb : Nat} {sd pk z : Int32} {Z : mm_Z} (hM : lyM B P m) (hs : s < 16)
    (k : Ev g mX12_hush 32 [some (.ref m), some (.int (nI s)), some (.int sd), some (.int pk), some (.int (nI sb)), some (.int z), some (.int (nI 8)), none] [] B (va_up I (m + 17) (sgp (I (m + 17)) (8 * s) 8 (fun _ => nI 0))) J P Z) : ∀ (d n : Nat), n + d = 8 →
    Ev g mX12_hush 6 [some (.ref m), some (.int (nI s)), some (.int sd), some (.int pk), some (.int (nI sb)), some (.int z), some (.int (nI n)), none] [] B (va_up I (m + 17) (sgp (I (m + 17)) (8 * s) n (fun _ => nI 0))) J P Z := by
  intro d
  induction d with
  | zero =>
    intro n hn
    refine ev_iload 8 dX12_hush_6 rfl rfl ?_
    refine ev_bipushN 10 8 dX12_hush_8 (by decide +kernel) rfl ?_
    refine ev_icmp_geN 13 32 dX12_hush_10 (by decide) (by omega) (by omega) rfl (fun hbr => ?_) (fun hx => absurd ((by omega)) hx)
    obtain rfl : n = 8 := by omega
    exact k
  | succ d ih =>
    intro n hn
    refine ev_iload 8 dX12_hush_6 rfl rfl ?_
    refine ev_bipushN 10 8 dX12_hush_8 (by decide +kernel) rfl ?_
    refine ev_icmp_geN 13 32 dX12_hush_10 (by decide) (by omega) (by omega) rfl (fun hx => absurd hx ((by omega))) (fun hbr => ?_)
    refine ev_aload_n 14 dX12_hush_13 rfl rfl ?_
    refine ev_getP 17 mm_cl12 (j := 22) (Nat.le_of_ble_eq_true rfl) dX12_hush_14 lk1307 (fun _ _ _ => rfl) (hM.1 0 _ rfl) (a := (m + 17)) (hM.2.2 16 _ _ _ rfl) rfl ?_
    refine ev_bipushN 19 8 dX12_hush_17 (by decide +kernel) rfl ?_
    refine ev_iload_n 20 dX12_hush_19 rfl rfl ?_
    refine ev_imulN 21 dX12_hush_20 rfl ?_
    refine ev_iload 23 dX12_hush_21 rfl rfl ?_
    refine ev_iaddN 24 dX12_hush_23 rfl ?_
    refine ev_iconstN 25 0 dX12_hush_24 rfl ?_
    refine ev_iast 26 _ dX12_hush_25 (hM.1 17 _ rfl) rfl (by have hNN := hM.2.1 17 _ rfl; omega) rfl ?_
    refine ev_iincN 29 (lv' := [_, _, _, _, _, some (.int _), _, _]) 1 dX12_hush_26 rfl (Nat.le_of_ble_eq_true rfl) rfl rfl ?_
    refine ev_goto 6 dX12_hush_29 (by decide) ?_
    rw [va_up_s, bx_uu, sgp_grow rfl]
    exact ih (n + 1) (by omega)
/-- HUSH of the model: INDEXES 0; H, V, y by sp_hu -/
theorem cx_X12_hush {s z sb : Nat} {pk : Int32} (hM : lyM B P m) (hs : s < 16) (hb : sb ≤ 80) (hz : z < 2 ^ 31) : ∃ I' : mm_TI, Ct g mX12_hush [.ref m, .int (nI s), .int (nI z), .int pk, .int (nI sb)] B I J P
    (none, B, I', sp_up J m 2 (sp_hu (fun _ => 0) pk z sb (sg (I (m + 15)) (160 * s) 160, sg (I (m + 16)) (8 * s) 8, I (m + 54), 0) 4).2.2.2, P) ∧
    I' (m + 15) = sgp (I (m + 15)) (160 * s) 160 (sp_hu (fun _ => 0) pk z sb (sg (I (m + 15)) (160 * s) 160, sg (I (m + 16)) (8 * s) 8, I (m + 54), 0) 4).1 ∧
    I' (m + 16) = sgp (I (m + 16)) (8 * s) 8 (sp_hu (fun _ => 0) pk z sb (sg (I (m + 15)) (160 * s) 160, sg (I (m + 16)) (8 * s) 8, I (m + 54), 0) 4).2.1 ∧
    I' (m + 17) = sgp (I (m + 17)) (8 * s) 8 (fun _ => 0) ∧
    I' (m + 54) = (sp_hu (fun _ => 0) pk z sb (sg (I (m + 15)) (160 * s) 160, sg (I (m + 16)) (8 * s) 8, I (m + 54), 0) 4).2.2.1 ∧
    (∀ q, q ≠ m + 15 → q ≠ m + 16 → q ≠ m + 17 → q ≠ m + 54 → q ≠ m + 57 → I' q = I q) := by
  have e0 : sg (sgp (I (m + 17)) (8 * s) 8 (fun _ => nI 0)) (8 * s) 8 = fun _ => 0 := by rw [sg_sgp (fun _ _ => by rw [nI_0])]; funext _; exact nI_0
  obtain ⟨I', e, b1, b2, b3, b4⟩ := lp_X12_hush2 (g := g) (I0 := va_up I (m + 17) (sgp (I (m + 17)) (8 * s) 8 (fun _ => nI 0))) (J := J) (s := s) (z := z) (sb := sb) (sd := nI z) (pk := pk) hM hs hb hz 4 0 (by omega) (va_up I (m + 17) (sgp (I (m + 17)) (8 * s) 8 (fun _ => nI 0)))
    (by simp only [sp_hu]; rw [sgp_sg]) (by simp only [sp_hu]; rw [sgp_sg]) (by simp only [sp_hu]) (fun _ _ _ _ _ => rfl)
  have n15 := va_up_n I (k := m + 17) (j := m + 15) (sgp (I (m + 17)) (8 * s) 8 (fun _ => nI 0)) (by omega)
  have n16 := va_up_n I (k := m + 17) (j := m + 16) (sgp (I (m + 17)) (8 * s) 8 (fun _ => nI 0)) (by omega)
  have n54 := va_up_n I (k := m + 17) (j := m + 54) (sgp (I (m + 17)) (8 * s) 8 (fun _ => nI 0)) (by omega)
  have n17 := va_up_s I (m + 17) (sgp (I (m + 17)) (8 * s) 8 (fun _ => nI 0))
  rw [n15, n16, n54, n17, e0] at e b1 b2 b3
  refine ⟨I', ?_, b1, b2, ?_, b3, fun q h1 h2 h3 h4 h5 => ?_⟩
  · refine ct_of (lv := [some (.ref m), some (.int (nI s)), some (.int (nI z)), some (.int pk), some (.int (nI sb)), none, none, none]) (by decide +kernel) (Nat.le_of_ble_eq_true rfl) rfl ?_
    refine ev_iload_n 1 dX12_hush_0 rfl rfl ?_
    refine ev_istore 3 (lv' := [_, _, _, _, some (.int _), _, _, _]) dX12_hush_1 (Nat.le_of_ble_eq_true rfl) rfl rfl ?_
    refine ev_iconstN 4 0 dX12_hush_3 rfl ?_
    refine ev_istore 6 (lv' := [_, _, _, _, _, some (.int _), _, _]) dX12_hush_4 (Nat.le_of_ble_eq_true rfl) rfl rfl ?_
    have e1 := lp_X12_hush0 (g := g) (I := I) (J := J) (sb := sb) (sd := nI z) (pk := pk) (z := nI z) (Z := (none, B, I', sp_up J m 2 (sp_hu (fun _ => 0) pk z sb (sg (I (m + 15)) (160 * s) 160, sg (I (m + 16)) (8 * s) 8, I (m + 54), 0) 4).2.2.2, P)) hM hs ?_ 8 0 (by omega)
    · rw [sgp_0, va_up_id] at e1
      exact e1
    refine ev_iconstN 33 0 dX12_hush_32 rfl ?_
    refine ev_istore 35 (lv' := [_, _, _, _, _, some (.int _), _, _]) dX12_hush_33 (Nat.le_of_ble_eq_true rfl) rfl rfl ?_
    rw [show (sp_hu (fun _ => 0) pk z sb (sg (I (m + 15)) (160 * s) 160, sg (I (m + 16)) (8 * s) 8, I (m + 54), 0) 0).2.2.2 = 0 from rfl, sp_up_0, Nat.zero_mul, show sp_dz z 0 = z from rfl] at e
    exact e
  · rw [b4 _ (by omega) (by omega) (by omega) (by omega), n17]
    funext _; rw [nI_0]
  · rw [b4 q h1 h2 h4 h5, va_up_n _ _ h3]
end MO4
