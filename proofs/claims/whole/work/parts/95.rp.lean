/-! repairs -/
def sp_fa (r : Nat) : Int32 := if r < 4 then nI (28 - 8 * r) else nI 0
/-- what a repair leaves in the class: st strength, L lag, from memory I on -/
def RPc (x o sb L t wy : Nat) (st : Int32) (I : mm_TI) (J : mm_TJ) (I' : mm_TI) (J' : mm_TJ) : Prop :=
  I' (o + 30) = gH (ecEs st L) sb (I (o + 30)) 4 ∧ I' (o + 31) = (gV (I (o + 32)) (ecEs st L) (ecTs st L sb) sb (I (o + 30)) (I (o + 31), I (x + 6), 0) 4).1 ∧ I' (x + 6) = (gV (I (o + 32)) (ecEs st L) (ecTs st L sb) sb (I (o + 30)) (I (o + 31), I (x + 6), 0) 4).2.1 ∧ J' = sp_up J (x + 1) 3 (gV (I (o + 32)) (ecEs st L) (ecTs st L sb) sb (I (o + 30)) (I (o + 31), I (x + 6), 0) 4).2.2 ∧
  I' (o + 17) = va_up (I (o + 17)) 17 (I (o + 17) 17 + nI 1) ∧ I' (x + 3) = va_up (I (x + 3)) t (nI (40 + wy)) ∧ I' (x + 1) = va_up (I (x + 1)) 2 (nI (t + 1)) ∧ (∀ q, q ≠ o + 30 → q ≠ o + 31 → q ≠ o + 17 → q ≠ x + 1 → q ≠ x + 3 → q ≠ x + 6 → q ≠ x + 7 → q ≠ x + 9 → I' q = I q)
section VRP
variable {g : mm_G} {B : mm_B} {I : mm_TI} {J : mm_TJ} {P : mm_TP} {m x o f q : Nat}
theorem lx_X1_rp4 {sb L : Nat} {st : Int32} {I0 : mm_TI} {J0 : mm_TJ} {ix H0 V0 Y0 : Nat → Int32} (hV : lyV B P x) (hC : lyC B P x o) (hxo : x + 22 ≤ o) (hs : sb = 40 ∨ sb = 80) (hL : 20 ≤ L) (hL2 : L ≤ 147) (hlag : I0 (o + 29) 3 = nI L) (hix : I0 (o + 32) = ix) (hHz : ∀ n, 160 ≤ n → H0 n = 0) : ∀ (d k : Nat), k + d = 4 → ∀ I : mm_TI,
    I (o + 30) = gH (ecEs st L) sb H0 k → I (o + 31) = (gV ix (ecEs st L) (ecTs st L sb) sb H0 (V0, Y0, 0) k).1 → I (x + 6) = (gV ix (ecEs st L) (ecTs st L sb) sb H0 (V0, Y0, 0) k).2.1 → (∀ q, q ≠ o + 30 → q ≠ o + 31 → q ≠ x + 6 → q ≠ x + 7 → q ≠ x + 9 → I q = I0 q) →
    ∃ I' : mm_TI, I' (o + 30) = gH (ecEs st L) sb H0 4 ∧ I' (o + 31) = (gV ix (ecEs st L) (ecTs st L sb) sb H0 (V0, Y0, 0) 4).1 ∧ I' (x + 6) = (gV ix (ecEs st L) (ecTs st L sb) sb H0 (V0, Y0, 0) 4).2.1 ∧ (∀ q, q ≠ o + 30 → q ≠ o + 31 → q ≠ x + 6 → q ≠ x + 7 → q ≠ x + 9 → I' q = I0 q) ∧
      Ev g mX1_repairFrom 125 [some (.ref (o + 17)), none, some (.int st), some (.int (nI sb)), some (.int (nI k))] [] B I (sp_up J0 (x + 1) 3 (gV ix (ecEs st L) (ecTs st L sb) sb H0 (V0, Y0, 0) k).2.2) P (none, B, I', sp_up J0 (x + 1) 3 (gV ix (ecEs st L) (ecTs st L sb) sb H0 (V0, Y0, 0) 4).2.2, P) := by
  intro d
  induction d with
  | zero =>
    intro k hk I h1 h2 h3 h4
    obtain rfl : k = 4 := by omega
    refine ⟨I, h1, h2, h3, h4, ?_⟩
    refine ev_iload 127 dX1_repairFrom_125 rfl rfl ?_
    refine ev_iconstN 128 4 dX1_repairFrom_127 rfl ?_
    refine ev_icmp_geN 131 150 dX1_repairFrom_128 (by decide) (by omega) (by omega) rfl (fun hbr => ?_) (fun hx => absurd ((by omega)) hx)
    exact ev_vret dX1_repairFrom_150 rfl (rfl)
  | succ d ih =>
    intro k hk I h1 h2 h3 h4
    have hsk : sb * k + sb ≤ 320 := by
      have := Nat.mul_le_mul_left sb (show k + 1 ≤ 4 by omega)
      rw [Nat.mul_add] at this; omega
    have dH : gH (ecEs st L) sb H0 (k + 1) = sp_sh (gH (ecEs st L) sb H0 k) (ecE st (sp_beh (gH (ecEs st L) sb H0 k) L)) sb := rfl
    have dV : gV ix (ecEs st L) (ecTs st L sb) sb H0 (V0, Y0, 0) (k + 1) = ((sp_sq ix (ecE st (sp_beh (gH (ecEs st L) sb H0 k) L)) (sb * k) ((gV ix (ecEs st L) (ecTs st L sb) sb H0 (V0, Y0, 0) k).1, (gV ix (ecEs st L) (ecTs st L sb) sb H0 (V0, Y0, 0) k).2.1, 0) sb).1, (sp_sq ix (ecE st (sp_beh (gH (ecEs st L) sb H0 k) L)) (sb * k) ((gV ix (ecEs st L) (ecTs st L sb) sb H0 (V0, Y0, 0) k).1, (gV ix (ecEs st L) (ecTs st L sb) sb H0 (V0, Y0, 0) k).2.1, 0) sb).2.1, (gV ix (ecEs st L) (ecTs st L sb) sb H0 (V0, Y0, 0) k).2.2 + (ecT st (sp_beh (gH (ecEs st L) sb H0 k) L) sb + (sp_sq ix (ecE st (sp_beh (gH (ecEs st L) sb H0 k) L)) (sb * k) ((gV ix (ecEs st L) (ecTs st L sb) sb H0 (V0, Y0, 0) k).1, (gV ix (ecEs st L) (ecTs st L sb) sb H0 (V0, Y0, 0) k).2.1, 0) sb).2.2)) := rfl
    have zk := gH_z (Es := ecEs st L) (sb := sb) hHz k
    generalize hg2 : gV ix (ecEs st L) (ecTs st L sb) sb H0 (V0, Y0, 0) (k + 1) = VV1 at *
    generalize hg1 : gH (ecEs st L) sb H0 (k + 1) = H1 at *
    generalize gH (ecEs st L) sb H0 k = H at *
    generalize gV ix (ecEs st L) (ecTs st L sb) sb H0 (V0, Y0, 0) k = VV at *
    obtain ⟨I2, c2, y1, y2, y3, y4⟩ := cx_X6_echo (g := g) (B := B) (I := I) (J := sp_up J0 (x + 1) 3 VV.2.2) (P := P) (x := x) (b := o + 29) (sb := sb) (fr := k * sb) (L := L) (st := st) hV (lyK_of29 hC) (by omega) (by omega) (by rw [Nat.mul_comm]; omega) hL hL2 (by rw [h4 _ (by omega) (by omega) (by omega) (by omega) (by omega)]; exact hlag) (by rw [show o + 29 + 1 = o + 30 from rfl, h1]; exact zk)
    simp only [show o + 29 + 1 = o + 30 from rfl, show o + 29 + 2 = o + 31 from rfl, show o + 29 + 3 = o + 32 from rfl, h1, h2, h3, h4 (o + 32) (by omega) (by omega) (by omega) (by omega) (by omega), hix, Nat.mul_comm k sb, sp_up_up] at c2 y1 y2 y3 y4
    rw [show VV.2.2 + (ecT st (sp_beh H L) sb + (sp_sq ix (ecE st (sp_beh H L)) (sb * k) (VV.1, VV.2.1, 0) sb).2.2) = VV1.2.2 by rw [dV]] at c2
    obtain ⟨I', r1, r2, r3, r4, r5⟩ := ih (k + 1) (by omega) I2 (by rw [hg1, y1, dH]) (by rw [hg2, y2, dV]) (by rw [hg2, y3, dV]) (fun q g1 g2 g3 g4 g5 => by rw [y4 q g1 g2 g3 g4 g5]; exact h4 q g1 g2 g3 g4 g5)
    rw [hg2] at r5
    refine ⟨I', r1, r2, r3, r4, ?_⟩
    refine ev_iload 127 dX1_repairFrom_125 rfl rfl ?_
    refine ev_iconstN 128 4 dX1_repairFrom_127 rfl ?_
    refine ev_icmp_geN 131 150 dX1_repairFrom_128 (by decide) (by omega) (by omega) rfl (fun hx => absurd hx ((by omega))) (fun hbr => ?_)
    refine ev_aload_n 132 dX1_repairFrom_131 rfl rfl ?_
    refine ev_getP 135 mm_cl1 (j := 2) (Nat.le_of_ble_eq_true rfl) dX1_repairFrom_132 lk474 (fun _ _ _ => rfl) (hC.1 17 _ rfl) (a := (o + 29)) (hC.2.2.1 13 _ _ _ rfl) rfl ?_
    refine ev_iload_n 136 dX1_repairFrom_135 rfl rfl ?_
    refine ev_iload_n 137 dX1_repairFrom_136 rfl rfl ?_
    refine ev_iload 139 dX1_repairFrom_137 rfl rfl ?_
    refine ev_iload_n 140 dX1_repairFrom_139 rfl rfl ?_
    refine ev_imulN 141 dX1_repairFrom_140 rfl ?_
    rw [Nat.mul_comm k sb]
    refine ev_invVv 144 (Mc := mX6_echo) ⟨lk1120, lk84, hdX6_echo, (Nat.le_of_ble_eq_true rfl), (Nat.le_of_ble_eq_true rfl)⟩ lk1117 lk1118 lk1119 mm_cl6 rfl dX1_repairFrom_141 (c2) rfl (hC.1 29 _ rfl) (Nat.le_of_ble_eq_true rfl) rfl rfl ?_
    refine ev_iincN 147 (lv' := [_, _, _, some (.int _), _]) 1 dX1_repairFrom_144 rfl (Nat.le_of_ble_eq_true rfl) rfl rfl ?_
    refine ev_goto 125 dX1_repairFrom_147 (by decide) ?_
    exact r5
theorem lx_X1_rt {rt L t wy : Nat} {st : Int32} (hV : lyV B P x) (hC : lyC B P x o) (hxo : x + 22 ≤ o) (hrt : rt ≤ 1) (r7 : I (o + 17) 7 = nI rt) (hL : 20 ≤ L) (hL2 : L ≤ 147) (hlag : I (o + 29) 3 = nI L) (hwy : I (o + 17) 13 = nI wy) (hHz : ∀ n, 160 ≤ n → I (o + 30) n = 0) (ht : I (x + 1) 2 = nI t) (h32 : t < 32) :
    ∃ (I' : mm_TI) (J' : mm_TJ), RPc x o (40 * (rt + 1)) L t wy st I J I' J' ∧ Ev g mX1_repairFrom 90 [some (.ref (o + 17)), none, some (.int st), none, none] [] B I J P (none, B, I', J', P) := by
  generalize hI1 : va_up I (o + 17) (va_up (I (o + 17)) 17 (I (o + 17) 17 + nI 1)) = I1
  have a1 : ∀ q, q ≠ o + 17 → I1 q = I q := fun q h => by rw [← hI1, va_up_n _ _ h]
  have e1 : I1 (o + 17) = va_up (I (o + 17)) 17 (I (o + 17) 17 + nI 1) := by rw [← hI1, va_up_s]
  have mk := ct_X10_mark (g := g) (B := B) (I := I1) (J := J) (P := P) (x := x) (a := nI (40 + wy)) (t := t) hV (by rw [a1 _ (by omega)]; exact ht) h32
  generalize hI2 : va_up (va_up I1 (x + 3) (va_up (I1 (x + 3)) t (nI (40 + wy)))) (x + 1) (va_up (I1 (x + 1)) 2 (nI (t + 1))) = I2 at mk
  have a2 : ∀ q, q ≠ x + 3 → q ≠ x + 1 → I2 q = I1 q := fun q h h' => by rw [← hI2, va_up_n _ _ h', va_up_n _ _ h]
  have A2 : ∀ q, q ≠ x + 3 → q ≠ x + 1 → q ≠ o + 17 → I2 q = I q := fun q h h' h'' => by rw [a2 q h h', a1 q h'']
  obtain ⟨I', r1, r2, r3, r4, r5⟩ := lx_X1_rp4 (g := g) (B := B) (P := P) (x := x) (o := o) (sb := 40 * (rt + 1)) (L := L) (st := st) (I0 := I2) (J0 := J) (ix := I (o + 32)) (H0 := I (o + 30)) (V0 := I (o + 31)) (Y0 := I (x + 6)) hV hC hxo (by omega) hL hL2 (by rw [A2 _ (by omega) (by omega) (by omega)]; exact hlag) (A2 _ (by omega) (by omega) (by omega)) hHz 4 0 (by omega) I2 (A2 _ (by omega) (by omega) (by omega)) (A2 _ (by omega) (by omega) (by omega)) (A2 _ (by omega) (by omega) (by omega)) (fun _ _ _ _ _ _ => rfl)
  rw [show sp_up J (x + 1) 3 (gV (I (o + 32)) (ecEs st L) (ecTs st L (40 * (rt + 1))) (40 * (rt + 1)) (I (o + 30)) (I (o + 31), I (x + 6), 0) 0).2.2 = J by show sp_up J (x + 1) 3 0 = J; rw [sp_up_0]] at r5
  refine ⟨I', _, ⟨r1, r2, r3, rfl, ?_, ?_, ?_, fun q h1 h2 h3 h4 h5 h6 h7 h8 => ?_⟩, ?_⟩
  · rw [r4 _ (by omega) (by omega) (by omega) (by omega) (by omega), a2 _ (by omega) (by omega), e1]
  · rw [r4 _ (by omega) (by omega) (by omega) (by omega) (by omega), ← hI2, va_up_n _ _ (by omega), va_up_s, a1 _ (by omega)]
  · rw [r4 _ (by omega) (by omega) (by omega) (by omega) (by omega), ← hI2, va_up_s, a1 _ (by omega)]
  · rw [r4 q h1 h2 h6 h7 h8, A2 q h5 h4 h3]
  · refine ev_aload_n 91 dX1_repairFrom_90 rfl rfl ?_
    refine ev_dup 92 dX1_repairFrom_91 rfl rfl ?_
    refine ev_getI 95 mm_cl1 (j := 17) (Nat.le_of_ble_eq_true rfl) dX1_repairFrom_92 lk500 (fun _ _ _ => rfl) (hC.1 17 _ rfl) rfl ?_
    refine ev_iconstN 96 1 dX1_repairFrom_95 rfl ?_
    refine ev_iadd 97 dX1_repairFrom_96 rfl ?_
    refine ev_putI 100 mm_cl1 (j := 17) (Nat.le_of_ble_eq_true rfl) dX1_repairFrom_97 lk500 rfl (fun _ _ _ => rfl) rfl rfl (hC.1 17 _ rfl) rfl ?_
    rw [hI1]
    refine ev_aload_n 101 dX1_repairFrom_100 rfl rfl ?_
    refine ev_getP 104 mm_cl1 (j := 0) (Nat.le_of_ble_eq_true rfl) dX1_repairFrom_101 lk472 (fun _ _ _ => rfl) (hC.1 17 _ rfl) (a := (x + 1)) (hC.2.2.2 5 _ _ _ rfl) rfl ?_
    refine ev_bipushN 106 40 dX1_repairFrom_104 (by decide +kernel) rfl ?_
    refine ev_aload_n 107 dX1_repairFrom_106 rfl rfl ?_
    refine ev_getI 110 mm_cl1 (j := 13) (Nat.le_of_ble_eq_true rfl) dX1_repairFrom_107 lk493 (fun _ _ _ => rfl) (hC.1 17 _ rfl) rfl ?_
    refine ev_eqI (y := nI (wy)) ((by rw [e1, va_up_n _ _ (by omega)]; exact hwy)) ?_
    refine ev_iaddN 111 dX1_repairFrom_110 rfl ?_
    refine ev_invVv 114 (Mc := mX10_mark) ⟨lk665, lk76, hdX10_mark, (Nat.le_of_ble_eq_true rfl), (Nat.le_of_ble_eq_true rfl)⟩ lk1060 lk663 lk664 mm_cl10 rfl dX1_repairFrom_111 (mk) rfl (hV.1 1 _ rfl) (Nat.le_of_ble_eq_true rfl) rfl rfl ?_
    refine ev_aload_n 115 dX1_repairFrom_114 rfl rfl ?_
    refine ev_getI 118 mm_cl1 (j := 7) (Nat.le_of_ble_eq_true rfl) dX1_repairFrom_115 lk483 (fun _ _ _ => rfl) (hC.1 17 _ rfl) rfl ?_
    refine ev_eqI (y := nI (rt)) ((by rw [a2 _ (by omega) (by omega), e1, va_up_n _ _ (by omega)]; exact r7)) ?_
    refine ev_invSN 121 (Mc := mX11_partOf) ⟨lk910, lk75, hdX11_partOf, (Nat.le_of_ble_eq_true rfl), (Nat.le_of_ble_eq_true rfl)⟩ lk1080 lk909 dX1_repairFrom_118 (ct_X11_partOf (show rt < 2 by omega)) rfl (Nat.le_of_ble_eq_true rfl) rfl rfl ?_
    refine ev_istore_n 122 (lv' := [_, _, some (.int _), _, _]) dX1_repairFrom_121 (Nat.le_of_ble_eq_true rfl) rfl rfl ?_
    refine ev_iconstN 123 0 dX1_repairFrom_122 rfl ?_
    refine ev_istore 125 (lv' := [_, _, _, some (.int _), _]) dX1_repairFrom_123 (Nat.le_of_ble_eq_true rfl) rfl rfl ?_
    exact r5
/-- its head: the strength, the way -/
theorem lx_X1_rp0n {r : Nat} {Z : mm_Z} (hC : lyC B P x o) (hG : ly_G g B) (hc : st_c g I) (hr : r < 2 ^ 31) (r14 : I (o + 17) 14 = nI r) (K : Ev g mX1_repairFrom 29 [some (.ref (o + 17)), some .null, some (.int (sp_fa r)), none, none] [] B (va_up I (o + 17) (va_up (I (o + 17)) 13 (nI 2))) J P Z) : Ct g mX1_repairFrom [.ref (o + 17), .null] B I J P Z := by
  have k23 : Ev g mX1_repairFrom 23 [some (.ref (o + 17)), some .null, none, none, none] [.int (sp_fa r)] B I J P Z := by
    refine ev_istore_n 24 (lv' := [_, some .null, _, _, _]) dX1_repairFrom_23 (Nat.le_of_ble_eq_true rfl) rfl rfl ?_
    refine ev_aload_n 25 dX1_repairFrom_24 rfl rfl ?_
    refine ev_iconstN 26 2 dX1_repairFrom_25 rfl ?_
    refine ev_putI 29 mm_cl1 (j := 13) (Nat.le_of_ble_eq_true rfl) dX1_repairFrom_26 lk493 rfl (fun _ _ _ => rfl) rfl rfl (hC.1 17 _ rfl) rfl ?_
    exact K
  unfold sp_fa at k23
  refine ct_of (lv := [some (.ref (o + 17)), some (.null), none, none, none]) (by decide +kernel) (Nat.le_of_ble_eq_true rfl) rfl ?_
  refine ev_aload_n 1 dX1_repairFrom_0 rfl rfl ?_
  refine ev_getI 4 mm_cl1 (j := 14) (Nat.le_of_ble_eq_true rfl) dX1_repairFrom_1 lk495 (fun _ _ _ => rfl) (hC.1 17 _ rfl) rfl ?_
  refine ev_eqI (y := nI (r)) (r14) ?_
  refine ev_getsN 7 (i := 0) rfl dX1_repairFrom_4 lk1106 rfl ?_
  refine ev_alenR 8 dX1_repairFrom_7 (hG 0 _ rfl).1 rfl ?_
  refine ev_eqI (y := nI 4) (by rw [(hG 0 _ rfl).2]) ?_
  refine ev_icmp_geN 11 22 dX1_repairFrom_8 (by decide) (by omega) (by omega) rfl (fun hz => ?_) (fun hz => ?_)
  · rw [if_neg (by omega)] at k23
    refine ev_iconstN 23 0 dX1_repairFrom_22 rfl ?_
    exact k23
  · rw [if_pos (by omega)] at k23
    refine ev_getsN 14 (i := 0) rfl dX1_repairFrom_11 lk1106 rfl ?_
    refine ev_aload_n 15 dX1_repairFrom_14 rfl rfl ?_
    refine ev_getI 18 mm_cl1 (j := 14) (Nat.le_of_ble_eq_true rfl) dX1_repairFrom_15 lk495 (fun _ _ _ => rfl) (hC.1 17 _ rfl) rfl ?_
    refine ev_eqI (y := nI (r)) (r14) ?_
    refine ev_ialdR 19 _ dX1_repairFrom_18 (hG 0 _ rfl).1 rfl (by have hNN := (hG 0 _ rfl).2; omega) rfl ?_
    refine ev_eqI (y := (nI (28 - 8 * r))) ((hc.1 r (by omega))) ?_
    refine ev_goto 23 dX1_repairFrom_19 (by decide) ?_
    exact k23
theorem lx_X1_rp0f {r : Nat} {Z : mm_Z} (hC : lyC B P x o) (hG : ly_G g B) (hc : st_c g I) (hr : r < 2 ^ 31) (r14 : I (o + 17) 14 = nI r) (K : Ev g mX1_repairFrom 29 [some (.ref (o + 17)), some (.ref f), some (.int (sp_fa r)), none, none] [] B (va_up I (o + 17) (va_up (I (o + 17)) 13 (nI 2))) J P Z) : Ct g mX1_repairFrom [.ref (o + 17), (.ref f)] B I J P Z := by
  have k23 : Ev g mX1_repairFrom 23 [some (.ref (o + 17)), some (.ref f), none, none, none] [.int (sp_fa r)] B I J P Z := by
    refine ev_istore_n 24 (lv' := [_, some (.ref _), _, _, _]) dX1_repairFrom_23 (Nat.le_of_ble_eq_true rfl) rfl rfl ?_
    refine ev_aload_n 25 dX1_repairFrom_24 rfl rfl ?_
    refine ev_iconstN 26 2 dX1_repairFrom_25 rfl ?_
    refine ev_putI 29 mm_cl1 (j := 13) (Nat.le_of_ble_eq_true rfl) dX1_repairFrom_26 lk493 rfl (fun _ _ _ => rfl) rfl rfl (hC.1 17 _ rfl) rfl ?_
    exact K
  unfold sp_fa at k23
  refine ct_of (lv := [some (.ref (o + 17)), some ((.ref f)), none, none, none]) (by decide +kernel) (Nat.le_of_ble_eq_true rfl) rfl ?_
  refine ev_aload_n 1 dX1_repairFrom_0 rfl rfl ?_
  refine ev_getI 4 mm_cl1 (j := 14) (Nat.le_of_ble_eq_true rfl) dX1_repairFrom_1 lk495 (fun _ _ _ => rfl) (hC.1 17 _ rfl) rfl ?_
  refine ev_eqI (y := nI (r)) (r14) ?_
  refine ev_getsN 7 (i := 0) rfl dX1_repairFrom_4 lk1106 rfl ?_
  refine ev_alenR 8 dX1_repairFrom_7 (hG 0 _ rfl).1 rfl ?_
  refine ev_eqI (y := nI 4) (by rw [(hG 0 _ rfl).2]) ?_
  refine ev_icmp_geN 11 22 dX1_repairFrom_8 (by decide) (by omega) (by omega) rfl (fun hz => ?_) (fun hz => ?_)
  · rw [if_neg (by omega)] at k23
    refine ev_iconstN 23 0 dX1_repairFrom_22 rfl ?_
    exact k23
  · rw [if_pos (by omega)] at k23
    refine ev_getsN 14 (i := 0) rfl dX1_repairFrom_11 lk1106 rfl ?_
    refine ev_aload_n 15 dX1_repairFrom_14 rfl rfl ?_
    refine ev_getI 18 mm_cl1 (j := 14) (Nat.le_of_ble_eq_true rfl) dX1_repairFrom_15 lk495 (fun _ _ _ => rfl) (hC.1 17 _ rfl) rfl ?_
    refine ev_eqI (y := nI (r)) (r14) ?_
    refine ev_ialdR 19 _ dX1_repairFrom_18 (hG 0 _ rfl).1 rfl (by have hNN := (hG 0 _ rfl).2; omega) rfl ?_
    refine ev_eqI (y := (nI (28 - 8 * r))) ((hc.1 r (by omega))) ?_
    refine ev_goto 23 dX1_repairFrom_19 (by decide) ?_
    exact k23
theorem cx_X1_repN {r rt L t : Nat} (hV : lyV B P x) (hC : lyC B P x o) (hG : ly_G g B) (hc : st_c g I) (hxo : x + 22 ≤ o) (hr : r < 2 ^ 31) (r14 : I (o + 17) 14 = nI r) (hrt : rt ≤ 1) (r7 : I (o + 17) 7 = nI rt) (hL : 20 ≤ L) (hL2 : L ≤ 147) (hlag : I (o + 29) 3 = nI L) (hHz : ∀ n, 160 ≤ n → I (o + 30) n = 0) (ht : I (x + 1) 2 = nI t) (h32 : t < 32) :
    ∃ (I' : mm_TI) (J' : mm_TJ), Ct g mX1_repairFrom [.ref (o + 17), .null] B I J P (none, B, I', J', P) ∧ RPc x o (40 * (rt + 1)) L t 2 (sp_fa r) (va_up I (o + 17) (va_up (I (o + 17)) 13 (nI 2))) J I' J' := by
  obtain ⟨I', J', hR, e⟩ := lx_X1_rt (g := g) (B := B) (I := va_up I (o + 17) (va_up (I (o + 17)) 13 (nI 2))) (J := J) (P := P) (x := x) (o := o) (rt := rt) (L := L) (t := t) (wy := 2) (st := sp_fa r) hV hC hxo hrt (by rw [va_up_s, va_up_n _ _ (by omega)]; exact r7) hL hL2 (by rw [va_up_n _ _ (by omega)]; exact hlag) (by rw [va_up_s, va_up_s]) (by rw [va_up_n _ _ (by omega)]; exact hHz) (by rw [va_up_n _ _ (by omega)]; exact ht) h32
  refine ⟨I', J', lx_X1_rp0n hC hG hc hr r14 ?_, hR⟩
  refine ev_aload_nN 30 dX1_repairFrom_29 rfl rfl ?_
  refine ev_ifnull_n 90 dX1_repairFrom_30 (by decide) ?_
  refine ev_le (mle_s (mle_n (mle_s (mle_n (mle_n (mle_0)))))) ?_
  exact e
/-- what opening it leaves -/
def OPc (x t w : Nat) (I : mm_TI) : mm_TI := va_up (va_up (va_up I (x + 2) (if w = 0 then I (x + 2) else va_up (I (x + 2)) w (I (x + 2) w + nI 1))) (x + 3) (va_up (va_up (I (x + 3)) t (nI 20)) (t + 1) (nI 21))) (x + 1) (va_up (I (x + 1)) 2 (nI (t + 2)))
theorem OPc_o {x t w q : Nat} {I : mm_TI} (h1 : q ≠ x + 1) (h2 : q ≠ x + 2) (h3 : q ≠ x + 3) : OPc x t w I q = I q := by
  unfold OPc
  rw [va_up_n _ _ h1, va_up_n _ _ h3, va_up_n _ _ h2]
theorem OPc_1 {x t w : Nat} {I : mm_TI} : OPc x t w I (x + 1) = va_up (I (x + 1)) 2 (nI (t + 2)) := by unfold OPc; rw [va_up_s]
/-- the frame ahead is of no use -/
theorem cx_X1_repU {r rt L t w n : Nat} {bt : Nat → Nat} (hV : lyV B P x) (hC : lyC B P x o) (hG : ly_G g B) (hc : st_c g I) (hxo : x + 22 ≤ o) (hr : r < 2 ^ 31) (r14 : I (o + 17) 14 = nI r) (hrt : rt ≤ 1) (r7 : I (o + 17) 7 = nI rt) (hL : 20 ≤ L) (hL2 : L ≤ 147) (hlag : I (o + 29) 3 = nI L) (hHz : ∀ n, 160 ≤ n → I (o + 30) n = 0) (ht : I (x + 1) 2 = nI t) (h32 : t + 2 < 32)
    (tf : mm_T B f = 104) (hw : w ≤ 6) (hop : ∀ I0 : mm_TI, (∀ q, q ≠ x + 1 → q ≠ x + 3 → q ≠ o + 17 → I0 q = I q) → Ct g mX4_openingFinding [.ref f] B I0 J P (some (.int (nI w)), B, I0, J, P))
    (hsp : w = 0 → mm_T B q = 201 ∧ mm_N B q = n ∧ n ≤ 64 ∧ 6 ≤ n ∧ P f 1 = some q ∧ (∀ k, k < n → ub (I q k) = bt k) ∧ bt 5 < 2 ∧ x + 22 ≤ q ∧ q ≠ o + 17) :
    ∃ (I' : mm_TI) (J' : mm_TJ), Ct g mX1_repairFrom [.ref (o + 17), .ref f] B I J P (none, B, I', J', P) ∧ RPc x o (40 * (rt + 1)) L (t + 2) 2 (sp_fa r) (OPc x t w (va_up I (o + 17) (va_up (I (o + 17)) 13 (nI 2)))) J I' J' := by
  generalize hI1 : va_up I (o + 17) (va_up (I (o + 17)) 13 (nI 2)) = I1
  have a1 : ∀ q, q ≠ o + 17 → I1 q = I q := fun q h => by rw [← hI1, va_up_n _ _ h]
  have e1 : I1 (o + 17) = va_up (I (o + 17)) 13 (nI 2) := by rw [← hI1, va_up_s]
  have ow := ct_X1_openedWith (g := g) (B := B) (I := I1) (J := J) (P := P) (x := x) (o := o) (f := f) (w := w) (t := t) hV hC hxo tf hw (by rw [a1 _ (by omega)]; exact ht) (by omega) (fun I0 h => hop I0 (fun q h1 h2 h3 => by rw [h q h1 h2, a1 q h3]))
  rw [show va_up (va_up (va_up I1 (x + 2) (if w = 0 then I1 (x + 2) else va_up (I1 (x + 2)) w (I1 (x + 2) w + nI 1))) (x + 3) (va_up (va_up (I1 (x + 3)) t (nI 20)) (t + 1) (nI 21))) (x + 1) (va_up (I1 (x + 1)) 2 (nI (t + 2))) = OPc x t w I1 from rfl] at ow
  generalize hI2 : OPc x t w I1 = I2 at ow ⊢
  have a2 : ∀ q, q ≠ x + 1 → q ≠ x + 2 → q ≠ x + 3 → I2 q = I1 q := fun q h1 h2 h3 => by rw [← hI2, OPc_o h1 h2 h3]
  have e2 : I2 (o + 17) = va_up (I (o + 17)) 13 (nI 2) := by rw [a2 _ (by omega) (by omega) (by omega), e1]
  obtain ⟨I', J', hR, e⟩ := lx_X1_rt (g := g) (B := B) (I := I2) (J := J) (P := P) (x := x) (o := o) (rt := rt) (L := L) (t := t + 2) (wy := 2) (st := sp_fa r) hV hC hxo hrt (by rw [e2, va_up_n _ _ (by omega)]; exact r7) hL hL2 (by rw [a2 _ (by omega) (by omega) (by omega), a1 _ (by omega)]; exact hlag) (by rw [e2, va_up_s]) (by rw [a2 _ (by omega) (by omega) (by omega), a1 _ (by omega)]; exact hHz) (by rw [← hI2, OPc_1, va_up_s]) (by omega)
  refine ⟨I', J', lx_X1_rp0f hC hG hc hr r14 ?_, hR⟩
  rw [hI1]
  refine ev_aload_n 30 dX1_repairFrom_29 rfl rfl ?_
  refine ev_ifnull_r 33 dX1_repairFrom_30 rfl ?_
  refine ev_aload_n 34 dX1_repairFrom_33 rfl rfl ?_
  refine ev_aload_n 35 dX1_repairFrom_34 rfl rfl ?_
  refine ev_invV 38 (Mc := mX1_openedWith) ⟨lk1059, lk85, hdX1_openedWith, (Nat.le_of_ble_eq_true rfl), (Nat.le_of_ble_eq_true rfl)⟩ lk1056 lk1058 lk25 mm_cl1 rfl dX1_repairFrom_35 (ow) rfl (hC.1 17 _ rfl) (Nat.le_of_ble_eq_true rfl) rfl rfl ?_
  by_cases cz : w = 0
  · obtain ⟨tq, nq, hn, hn6, hp, hbt, hb5, hq1, hq2⟩ := hsp cz
    have sb := ct_X4_atN (g := g) (B := B) (I := I2) (J := J) (P := P) (f := f) (q := q) (k := 5) (bt := bt) tf tq nq hn hp (by omega) (fun k hk => by rw [a2 q (by omega) (by omega) (by omega), a1 q hq2]; exact hbt k hk)
    have sp : Ct g mX4_spareBytes [.ref f] B I2 J P (some (.int (nI (bt 5))), B, I2, J, P) := by
      refine ct_of (lv := [some (.ref f)]) (by decide +kernel) (Nat.le_of_ble_eq_true rfl) rfl ?_
      refine ev_aload_n 1 dX4_spareBytes_0 rfl rfl ?_
      refine ev_iconstN 2 5 dX4_spareBytes_1 rfl ?_
      refine ev_invV 5 (Mc := mX4_at) ⟨lk1073, lk89, hdX4_at, (Nat.le_of_ble_eq_true rfl), (Nat.le_of_ble_eq_true rfl)⟩ lk1070 lk1071 lk1072 mm_cl4 rfl dX4_spareBytes_2 (sb) rfl tf (Nat.le_of_ble_eq_true rfl) rfl rfl ?_
      exact ev_iret dX4_spareBytes_5 rfl (rfl)
    refine ev_if_neN 41 90 dX1_repairFrom_38 (by decide) (by omega) rfl (fun hx => absurd ((by omega)) hx) (fun hbr => ?_)
    refine ev_aload_n 42 dX1_repairFrom_41 rfl rfl ?_
    refine ev_invV 45 (Mc := mX4_spareBytes) ⟨lk1111, lk89, hdX4_spareBytes, (Nat.le_of_ble_eq_true rfl), (Nat.le_of_ble_eq_true rfl)⟩ lk1108 lk1109 lk1110 mm_cl4 rfl dX1_repairFrom_42 (sp) rfl tf (Nat.le_of_ble_eq_true rfl) rfl rfl ?_
    refine ev_iconstN 46 2 dX1_repairFrom_45 rfl ?_
    refine ev_icmp_ltN 49 90 dX1_repairFrom_46 (by decide) (by omega) (by omega) rfl (fun hbr => ?_) (fun hx => absurd ((by omega)) hx)
    refine ev_le (mle_s (mle_n (mle_s (mle_n (mle_n (mle_0)))))) ?_
    exact e
  · refine ev_if_neN 41 90 dX1_repairFrom_38 (by decide) (by omega) rfl (fun hbr => ?_) (fun hx => absurd hx ((by omega)))
    refine ev_le (mle_s (mle_n (mle_s (mle_n (mle_n (mle_0)))))) ?_
    exact e
/-- the frame ahead mends -/
theorem cx_X1_repM {r rt t n bd : Nat} {F : Nat → Int32} {bt : Nat → Nat} (hV : lyV B P x) (hC : lyC B P x o) (hG : ly_G g B) (hc : st_c g I) (hxo : x + 22 ≤ o) (hr : r < 2 ^ 31) (r14 : I (o + 17) 14 = nI r) (hrt : rt ≤ 1) (r7 : I (o + 17) 7 = nI rt) (hHz : ∀ n, 160 ≤ n → I (o + 30) n = 0) (ht : I (x + 1) 2 = nI t) (h32 : t + 2 < 32)
    (tf : mm_T B f = 104) (hop : ∀ I0 : mm_TI, (∀ q, q ≠ x + 1 → q ≠ x + 3 → q ≠ o + 17 → I0 q = I q) → Ct g mX4_openingFinding [.ref f] B I0 J P (some (.int (nI 0)), B, I0, J, P))
    (tq : mm_T B q = 201) (nq : mm_N B q = n) (hn : n ≤ 64) (hn6 : 6 ≤ n) (hp : P f 1 = some q) (hbt : ∀ k, k < n → ub (I q k) = bt k) (hb5 : 2 ≤ bt 5) (hb2 : bt 2 = bd) (hbn : 6 + bd + 2 ≤ n) (hq1 : x + 22 ≤ q) (hq2 : q ≠ o + 17) (hq3 : q ≠ o + 29) :
    ∃ (I' : mm_TI) (J' : mm_TJ), Ct g mX1_repairFrom [.ref (o + 17), .ref f] B I J P (none, B, I', J', P) ∧
      RPc x o (40 * (rt + 1)) (20 + bt (6 + bd) % 128) (t + 2) 3 (nI (5 * (bt (6 + bd + 1) % 8))) (va_up (va_up (OPc x t 0 I) (o + 29) (va_up (I (o + 29)) 3 (nI (20 + bt (6 + bd) % 128)))) (o + 17) (va_up (va_up (I (o + 17)) 13 (nI 3)) 18 (I (o + 17) 18 + nI 1))) J I' J' := by
  generalize hI1 : va_up I (o + 17) (va_up (I (o + 17)) 13 (nI 2)) = I1
  have a1 : ∀ q, q ≠ o + 17 → I1 q = I q := fun q h => by rw [← hI1, va_up_n _ _ h]
  have ow := ct_X1_openedWith (g := g) (B := B) (I := I1) (J := J) (P := P) (x := x) (o := o) (f := f) (w := 0) (t := t) hV hC hxo tf (by omega) (by rw [a1 _ (by omega)]; exact ht) (by omega) (fun I0 h => hop I0 (fun q h1 h2 h3 => by rw [h q h1 h2, a1 q h3]))
  rw [show va_up (va_up (va_up I1 (x + 2) (if 0 = 0 then I1 (x + 2) else va_up (I1 (x + 2)) 0 (I1 (x + 2) 0 + nI 1))) (x + 3) (va_up (va_up (I1 (x + 3)) t (nI 20)) (t + 1) (nI 21))) (x + 1) (va_up (I1 (x + 1)) 2 (nI (t + 2))) = OPc x t 0 I1 from rfl] at ow
  have e17 : OPc x t 0 I1 = va_up (OPc x t 0 I) (o + 17) (va_up (I (o + 17)) 13 (nI 2)) := by
    funext k
    by_cases k17 : k = o + 17
    · subst k17; rw [va_up_s, OPc_o (by omega) (by omega) (by omega), ← hI1, va_up_s]
    · rw [va_up_n _ _ k17]
      unfold OPc
      rw [if_pos rfl, if_pos rfl, a1 _ (show x + 2 ≠ o + 17 by omega), a1 _ (show x + 3 ≠ o + 17 by omega), a1 _ (show x + 1 ≠ o + 17 by omega)]
      by_cases k1 : k = x + 1
      · subst k1; rw [va_up_s, va_up_s]
      · rw [va_up_n _ _ k1, va_up_n _ _ k1]
        by_cases k3 : k = x + 3
        · subst k3; rw [va_up_s, va_up_s]
        · rw [va_up_n _ _ k3, va_up_n _ _ k3]
          by_cases k2 : k = x + 2
          · subst k2; rw [va_up_s, va_up_s]
          · rw [va_up_n _ _ k2, va_up_n _ _ k2, a1 k k17]
  rw [e17] at ow
  generalize hIo : OPc x t 0 I = Io at ow ⊢
  have ao : ∀ q, q ≠ x + 1 → q ≠ x + 2 → q ≠ x + 3 → Io q = I q := fun q h1 h2 h3 => by rw [← hIo, OPc_o h1 h2 h3]
  generalize hI2 : va_up Io (o + 17) (va_up (I (o + 17)) 13 (nI 2)) = I2 at ow
  have a2 : ∀ q, q ≠ o + 17 → I2 q = Io q := fun q h => by rw [← hI2, va_up_n _ _ h]
  have e2 : I2 (o + 17) = va_up (I (o + 17)) 13 (nI 2) := by rw [← hI2, va_up_s]
  have hb5l : bt 5 < 256 := by rw [← hbt 5 (by omega)]; exact ub_l _
  generalize hL : 20 + bt (6 + bd) % 128 = L
  have hbt2 : ∀ (F : Nat → Int32) k, k < n → ub (va_up I2 (o + 29) F q k) = bt k := fun F k hk => by rw [va_up_n _ _ hq3, a2 q hq2, ao q (by omega) (by omega) (by omega)]; exact hbt k hk
  have hbt0 : ∀ k, k < n → ub (I2 q k) = bt k := fun k hk => by rw [a2 q hq2, ao q (by omega) (by omega) (by omega)]; exact hbt k hk
  have sp5 : Ct g mX4_spareBytes [.ref f] B I2 J P (some (.int (nI (bt 5))), B, I2, J, P) := by
    have sb := ct_X4_atN (g := g) (B := B) (I := I2) (J := J) (P := P) (f := f) (q := q) (k := 5) (bt := bt) tf tq nq hn hp (by omega) hbt0
    refine ct_of (lv := [some (.ref f)]) (by decide +kernel) (Nat.le_of_ble_eq_true rfl) rfl ?_
    refine ev_aload_n 1 dX4_spareBytes_0 rfl rfl ?_
    refine ev_iconstN 2 5 dX4_spareBytes_1 rfl ?_
    refine ev_invV 5 (Mc := mX4_at) ⟨lk1073, lk89, hdX4_at, (Nat.le_of_ble_eq_true rfl), (Nat.le_of_ble_eq_true rfl)⟩ lk1070 lk1071 lk1072 mm_cl4 rfl dX4_spareBytes_2 (sb) rfl tf (Nat.le_of_ble_eq_true rfl) rfl rfl ?_
    exact ev_iret dX4_spareBytes_5 rfl (rfl)
  have spr : ∀ (I0 : mm_TI) (k : Nat), k < 2 → (∀ k, k < n → ub (I0 q k) = bt k) → Ct g mX4_spare [.ref f, .int (nI k)] B I0 J P (some (.int (nI (bt (6 + bd + k)))), B, I0, J, P) := by
    intro I0 k hk h0
    have s2 := ct_X4_atN (g := g) (B := B) (I := I0) (J := J) (P := P) (f := f) (q := q) (k := 2) (bt := bt) tf tq nq hn hp (by omega) h0
    have s6 := ct_X4_atN (g := g) (B := B) (I := I0) (J := J) (P := P) (f := f) (q := q) (k := 6 + bd + k) (bt := bt) tf tq nq hn hp (by omega) h0
    rw [hb2] at s2
    refine ct_of (lv := [some (.ref f), some (.int (nI k))]) (by decide +kernel) (Nat.le_of_ble_eq_true rfl) rfl ?_
    refine ev_aload_n 1 dX4_spare_0 rfl rfl ?_
    refine ev_bipushN 3 6 dX4_spare_1 (by decide +kernel) rfl ?_
    refine ev_aload_n 4 dX4_spare_3 rfl rfl ?_
    refine ev_iconstN 5 2 dX4_spare_4 rfl ?_
    refine ev_invV 8 (Mc := mX4_at) ⟨lk1073, lk89, hdX4_at, (Nat.le_of_ble_eq_true rfl), (Nat.le_of_ble_eq_true rfl)⟩ lk1070 lk1071 lk1072 mm_cl4 rfl dX4_spare_5 (s2) rfl tf (Nat.le_of_ble_eq_true rfl) rfl rfl ?_
    refine ev_iaddN 9 dX4_spare_8 rfl ?_
    refine ev_iload_n 10 dX4_spare_9 rfl rfl ?_
    refine ev_iaddN 11 dX4_spare_10 rfl ?_
    refine ev_invV 14 (Mc := mX4_at) ⟨lk1073, lk89, hdX4_at, (Nat.le_of_ble_eq_true rfl), (Nat.le_of_ble_eq_true rfl)⟩ lk1070 lk1071 lk1072 mm_cl4 rfl dX4_spare_11 (s6) rfl tf (Nat.le_of_ble_eq_true rfl) rfl rfl ?_
    exact ev_iret dX4_spare_14 rfl (rfl)
  have lg := ct_X11_lagOf (g := g) (B := B) (I := I2) (J := J) (P := P) (b := bt (6 + bd))
  rw [hL] at lg
  have e29 : I2 (o + 29) = I (o + 29) := by rw [a2 _ (by omega), ao _ (by omega) (by omega) (by omega)]
  generalize hI3 : va_up I2 (o + 29) (va_up (I (o + 29)) 3 (nI L)) = I3
  have e3 : I3 (o + 17) = va_up (I (o + 17)) 13 (nI 2) := by rw [← hI3, va_up_n _ _ (by omega), e2]
  have fin : va_up I3 (o + 17) (va_up (va_up (I (o + 17)) 13 (nI 3)) 18 (I (o + 17) 18 + nI 1)) = va_up (va_up Io (o + 29) (va_up (I (o + 29)) 3 (nI L))) (o + 17) (va_up (va_up (I (o + 17)) 13 (nI 3)) 18 (I (o + 17) 18 + nI 1)) := by
    rw [← hI3, ← hI2, va_comm _ _ _ (show o + 17 ≠ o + 29 by omega), bx_uu]
  generalize hI4 : va_up (va_up Io (o + 29) (va_up (I (o + 29)) 3 (nI L))) (o + 17) (va_up (va_up (I (o + 17)) 13 (nI 3)) 18 (I (o + 17) 18 + nI 1)) = I4 at fin ⊢
  have a4 : ∀ q, q ≠ o + 17 → q ≠ o + 29 → I4 q = Io q := fun q h h' => by rw [← hI4, va_up_n _ _ h, va_up_n _ _ h']
  have e4 : I4 (o + 17) = va_up (va_up (I (o + 17)) 13 (nI 3)) 18 (I (o + 17) 18 + nI 1) := by rw [← hI4, va_up_s]
  obtain ⟨I', J', hR, e⟩ := lx_X1_rt (g := g) (B := B) (I := I4) (J := J) (P := P) (x := x) (o := o) (rt := rt) (L := L) (t := t + 2) (wy := 3) (st := nI (5 * (bt (6 + bd + 1) % 8))) hV hC hxo hrt (by rw [e4, va_up_n _ _ (by omega), va_up_n _ _ (by omega)]; exact r7) (by omega) (by omega) (by rw [← hI4, va_up_n _ _ (by omega), va_up_s, va_up_s]) (by rw [e4, va_up_n _ _ (by omega), va_up_s]) (by rw [a4 _ (by omega) (by omega), ao _ (by omega) (by omega) (by omega)]; exact hHz) (by rw [a4 _ (by omega) (by omega), ← hIo, OPc_1, va_up_s]) (by omega)
  refine ⟨I', J', lx_X1_rp0f hC hG hc hr r14 ?_, hR⟩
  rw [hI1]
  refine ev_aload_n 30 dX1_repairFrom_29 rfl rfl ?_
  refine ev_ifnull_r 33 dX1_repairFrom_30 rfl ?_
  refine ev_aload_n 34 dX1_repairFrom_33 rfl rfl ?_
  refine ev_aload_n 35 dX1_repairFrom_34 rfl rfl ?_
  refine ev_invV 38 (Mc := mX1_openedWith) ⟨lk1059, lk85, hdX1_openedWith, (Nat.le_of_ble_eq_true rfl), (Nat.le_of_ble_eq_true rfl)⟩ lk1056 lk1058 lk25 mm_cl1 rfl dX1_repairFrom_35 (ow) rfl (hC.1 17 _ rfl) (Nat.le_of_ble_eq_true rfl) rfl rfl ?_
  refine ev_if_neN 41 90 dX1_repairFrom_38 (by decide) (by omega) rfl (fun hx => absurd ((by omega)) hx) (fun hbr => ?_)
  refine ev_aload_n 42 dX1_repairFrom_41 rfl rfl ?_
  refine ev_invV 45 (Mc := mX4_spareBytes) ⟨lk1111, lk89, hdX4_spareBytes, (Nat.le_of_ble_eq_true rfl), (Nat.le_of_ble_eq_true rfl)⟩ lk1108 lk1109 lk1110 mm_cl4 rfl dX1_repairFrom_42 (sp5) rfl tf (Nat.le_of_ble_eq_true rfl) rfl rfl ?_
  refine ev_iconstN 46 2 dX1_repairFrom_45 rfl ?_
  refine ev_icmp_ltN 49 90 dX1_repairFrom_46 (by decide) (by omega) (by omega) rfl (fun hx => absurd hx ((by omega))) (fun hbr => ?_)
  refine ev_aload_n 50 dX1_repairFrom_49 rfl rfl ?_
  refine ev_getP 53 mm_cl1 (j := 2) (Nat.le_of_ble_eq_true rfl) dX1_repairFrom_50 lk474 (fun _ _ _ => rfl) (hC.1 17 _ rfl) (a := (o + 29)) (hC.2.2.1 13 _ _ _ rfl) rfl ?_
  refine ev_aload_n 54 dX1_repairFrom_53 rfl rfl ?_
  refine ev_iconstN 55 0 dX1_repairFrom_54 rfl ?_
  refine ev_invV 58 (Mc := mX4_spare) ⟨lk1115, lk89, hdX4_spare, (Nat.le_of_ble_eq_true rfl), (Nat.le_of_ble_eq_true rfl)⟩ lk1112 lk1113 lk1114 mm_cl4 rfl dX1_repairFrom_55 (spr I2 0 (by omega) hbt0) rfl tf (Nat.le_of_ble_eq_true rfl) rfl rfl ?_
  refine ev_invSN 61 (Mc := mX11_lagOf) ⟨lk1090, lk75, hdX11_lagOf, (Nat.le_of_ble_eq_true rfl), (Nat.le_of_ble_eq_true rfl)⟩ lk1116 lk1089 dX1_repairFrom_58 (lg) rfl (Nat.le_of_ble_eq_true rfl) rfl rfl ?_
  refine ev_putI 64 mm_cl6 (j := 3) (Nat.le_of_ble_eq_true rfl) dX1_repairFrom_61 lk351 rfl (fun _ _ _ => rfl) rfl rfl (hC.1 29 _ rfl) rfl ?_
  rw [e29, hI3]
  refine ev_iconstN 65 5 dX1_repairFrom_64 rfl ?_
  refine ev_aload_n 66 dX1_repairFrom_65 rfl rfl ?_
  refine ev_iconstN 67 1 dX1_repairFrom_66 rfl ?_
  refine ev_invV 70 (Mc := mX4_spare) ⟨lk1115, lk89, hdX4_spare, (Nat.le_of_ble_eq_true rfl), (Nat.le_of_ble_eq_true rfl)⟩ lk1112 lk1113 lk1114 mm_cl4 rfl dX1_repairFrom_67 (spr I3 1 (by omega) (by rw [← hI3]; exact hbt2 _)) rfl tf (Nat.le_of_ble_eq_true rfl) rfl rfl ?_
  refine ev_bipushN 72 7 dX1_repairFrom_70 (by decide +kernel) rfl ?_
  refine ev_iand 73 dX1_repairFrom_72 rfl ?_
  refine ev_eqI (y := nI ((bt (6+bd+1)%8))) ((nI_m7 _)) ?_
  refine ev_imulN 74 dX1_repairFrom_73 rfl ?_
  refine ev_istore_n 75 (lv' := [_, some (.ref _), _, _, _]) dX1_repairFrom_74 (Nat.le_of_ble_eq_true rfl) rfl rfl ?_
  refine ev_aload_n 76 dX1_repairFrom_75 rfl rfl ?_
  refine ev_iconstN 77 3 dX1_repairFrom_76 rfl ?_
  refine ev_putI 80 mm_cl1 (j := 13) (Nat.le_of_ble_eq_true rfl) dX1_repairFrom_77 lk493 rfl (fun _ _ _ => rfl) rfl rfl (hC.1 17 _ rfl) rfl ?_
  rw [e3, bx_uu]
  refine ev_aload_n 81 dX1_repairFrom_80 rfl rfl ?_
  refine ev_dup 82 dX1_repairFrom_81 rfl rfl ?_
  refine ev_getI 85 mm_cl1 (j := 18) (Nat.le_of_ble_eq_true rfl) dX1_repairFrom_82 lk502 (fun _ _ _ => rfl) (hC.1 17 _ rfl) rfl ?_
  refine ev_eqI (y := (I (o + 17) 18)) ((by rw [va_up_s, va_up_n _ _ (by omega)])) ?_
  refine ev_iconstN 86 1 dX1_repairFrom_85 rfl ?_
  refine ev_iadd 87 dX1_repairFrom_86 rfl ?_
  refine ev_putI 90 mm_cl1 (j := 18) (Nat.le_of_ble_eq_true rfl) dX1_repairFrom_87 lk502 rfl (fun _ _ _ => rfl) rfl rfl (hC.1 17 _ rfl) rfl ?_
  rw [va_up_s, bx_uu, fin]
  refine ev_le (mle_s (mle_n (mle_s (mle_n (mle_n (mle_0)))))) ?_
  exact e
end VRP
