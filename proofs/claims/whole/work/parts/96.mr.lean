/-! repairs, the model's -/
def RPm (m c sb L t wy : Nat) (st : Int32) (I : mm_TI) (J : mm_TJ) (I' : mm_TI) (J' : mm_TJ) : Prop :=
  (sg (I' (m + 15)) (160 * (2 * c + 1)) 160 = gH (ecEs st L) sb (sg (I (m + 15)) (160 * (2 * c + 1)) 160) 4 ∧ ∀ j, j < 160 * (2 * c + 1) ∨ 160 * (2 * c + 1) + 160 ≤ j → I' (m + 15) j = I (m + 15) j) ∧
  (sg (I' (m + 16)) (8 * (2 * c + 1)) 8 = (gV (sg (I (m + 17)) (8 * (2 * c + 1)) 8) (ecEs st L) (ecTs st L sb) sb (sg (I (m + 15)) (160 * (2 * c + 1)) 160) (sg (I (m + 16)) (8 * (2 * c + 1)) 8, I (m + 54), 0) 4).1 ∧ ∀ j, j < 8 * (2 * c + 1) ∨ 8 * (2 * c + 1) + 8 ≤ j → I' (m + 16) j = I (m + 16) j) ∧
  I' (m + 54) = (gV (sg (I (m + 17)) (8 * (2 * c + 1)) 8) (ecEs st L) (ecTs st L sb) sb (sg (I (m + 15)) (160 * (2 * c + 1)) 160) (sg (I (m + 16)) (8 * (2 * c + 1)) 8, I (m + 54), 0) 4).2.1 ∧ J' = sp_up J m 2 (gV (sg (I (m + 17)) (8 * (2 * c + 1)) 8) (ecEs st L) (ecTs st L sb) sb (sg (I (m + 15)) (160 * (2 * c + 1)) 160) (sg (I (m + 16)) (8 * (2 * c + 1)) 8, I (m + 54), 0) 4).2.2 ∧
  I' (m + 43) = va_up (I (m + 43)) c (nI wy) ∧ I' (m + 2) = va_up (I (m + 2)) t (nI (40 + wy)) ∧ I' m = va_up (I m) 5 (nI (t + 1)) ∧ (∀ q, q ≠ m + 15 → q ≠ m + 16 → q < m + 54 ∨ m + 57 < q → q ≠ m + 43 → q ≠ m + 2 → q ≠ m → I' q = I q)
section MRP
variable {g : mm_G} {B : mm_B} {I : mm_TI} {J : mm_TJ} {P : mm_TP} {m : Nat}
theorem lx_X12_rt {c lb rt L t mn : Nat} {st v : Int32} (hM : lyM B P m) (hc8 : c < 8) (hrt : rt ≤ 1) (hmn : mn ≤ 1) (hL : 20 ≤ L) (hL2 : L ≤ 147) (hlag : I (m + 18) (2 * c + 1) = nI L) (ht : I m 5 = nI t) (h64 : t < 64) :
    ∃ (I' : mm_TI) (J' : mm_TJ), RPm m c (40 * (rt + 1)) L t (2 + mn) st I J I' J' ∧ Ev g mX12_repair0 159 [some (.ref m), some (.int (nI c)), some (.int (nI lb)), some (.int (nI (2 * c + 1))), some (.int (nI (40 * (rt + 1)))), some (.int v), some (.int st), some (.int (nI mn)), none, none] [] B I J P (none, B, I', J', P) := by
  generalize hI1 : va_up I (m + 43) (va_up (I (m + 43)) c (nI (2 + mn))) = I1
  have a1 : ∀ q, q ≠ m + 43 → I1 q = I q := fun q h => by rw [← hI1, va_up_n _ _ h]
  have mk := ct_X12_tell (g := g) (B := B) (I := I1) (J := J) (P := P) (m := m) (a := nI (40 + (2 + mn))) (t := t) hM (by rw [a1 _ (by omega)]; exact ht) h64
  generalize hI2 : va_up (va_up I1 (m + 2) (va_up (I1 (m + 2)) t (nI (40 + (2 + mn))))) m (va_up (I1 m) 5 (nI (t + 1))) = I2 at mk
  have a2 : ∀ q, q ≠ m → q ≠ m + 2 → I2 q = I1 q := fun q h h' => by rw [← hI2, va_up_n _ _ h, va_up_n _ _ h']
  have A2 : ∀ q, q ≠ m → q ≠ m + 2 → q ≠ m + 43 → I2 q = I q := fun q h h' h'' => by rw [a2 q h h', a1 q h'']
  obtain ⟨I', p1, p2, p3, p4, p5⟩ := lx_X12_ech4 (g := g) (B := B) (P := P) (m := m) (c := c) (lb := lb) (s := 2 * c + 1) (sb := 40 * (rt + 1)) (wy := mn) (L := L) (st := st) (v := v) (I0 := I2) (J0 := J) (ix := sg (I (m + 17)) (8 * (2 * c + 1)) 8) (H0 := sg (I (m + 15)) (160 * (2 * c + 1)) 160) (V0 := sg (I (m + 16)) (8 * (2 * c + 1)) 8) (Y0 := I (m + 54)) hM (by omega) (by omega) hL hL2 (by rw [A2 _ (by omega) (by omega) (by omega)]; exact hlag) (by rw [A2 _ (by omega) (by omega) (by omega)]) sg_z sg_z 4 0 (by omega) I2 (by rw [A2 _ (by omega) (by omega) (by omega)]; rfl) (fun _ _ => rfl) (by rw [A2 _ (by omega) (by omega) (by omega)]; rfl) (fun _ _ => rfl) (A2 _ (by omega) (by omega) (by omega)) (fun _ _ _ _ => rfl)
  rw [show sp_up J m 2 (gV (sg (I (m + 17)) (8 * (2 * c + 1)) 8) (ecEs st L) (ecTs st L (40 * (rt + 1))) (40 * (rt + 1)) (sg (I (m + 15)) (160 * (2 * c + 1)) 160) (sg (I (m + 16)) (8 * (2 * c + 1)) 8, I (m + 54), 0) 0).2.2 = J by show sp_up J m 2 0 = J; rw [sp_up_0]] at p5
  refine ⟨I', _, ⟨⟨p1.1, fun j hj => ?_⟩, ⟨p2.1, fun j hj => ?_⟩, p3, rfl, ?_, ?_, ?_, fun q h1 h2 h3 h4 h5 h6 => ?_⟩, ?_⟩
  · rw [p1.2 j hj, A2 _ (by omega) (by omega) (by omega)]
  · rw [p2.2 j hj, A2 _ (by omega) (by omega) (by omega)]
  · rw [p4 _ (by omega) (by omega) (by omega), a2 _ (by omega) (by omega), ← hI1, va_up_s]
  · rw [p4 _ (by omega) (by omega) (by omega), ← hI2, va_up_n _ _ (by omega), va_up_s, a1 _ (by omega)]
  · rw [p4 _ (by omega) (by omega) (by omega), ← hI2, va_up_s, a1 _ (by omega)]
  · rw [p4 q h1 h2 h3, A2 q h6 h5 h4]
  · have k188 : Ev g mX12_repair0 188 [some (.ref m), some (.int (nI c)), some (.int (nI lb)), some (.int (nI (2 * c + 1))), some (.int (nI (40 * (rt + 1)))), some (.int v), some (.int st), some (.int (nI mn)), none, none] [.int (nI (40 + (2 + mn))), .ref m] B I1 J P (none, B, I', sp_up J m 2 (gV (sg (I (m + 17)) (8 * (2 * c + 1)) 8) (ecEs st L) (ecTs st L (40 * (rt + 1))) (40 * (rt + 1)) (sg (I (m + 15)) (160 * (2 * c + 1)) 160) (sg (I (m + 16)) (8 * (2 * c + 1)) 8, I (m + 54), 0) 4).2.2, P) := by
      refine ev_invVv 191 (Mc := mX12_tell) ⟨lk1599, lk80, hdX12_tell, (Nat.le_of_ble_eq_true rfl), (Nat.le_of_ble_eq_true rfl)⟩ lk1596 lk1598 lk41 mm_cl12 rfl dX12_repair0_188 (mk) rfl (hM.1 0 _ rfl) (Nat.le_of_ble_eq_true rfl) rfl rfl ?_
      refine ev_iconstN 192 0 dX12_repair0_191 rfl ?_
      refine ev_istore 194 (lv' := [_, _, _, _, _, _, _, some (.int _), _, _]) dX12_repair0_192 (Nat.le_of_ble_eq_true rfl) rfl rfl ?_
      exact p5
    rcases (show mn = 0 ∨ mn = 1 by omega) with rfl | rfl
    · refine ev_aload_n 160 dX12_repair0_159 rfl rfl ?_
      refine ev_getP 163 mm_cl12 (j := 49) (Nat.le_of_ble_eq_true rfl) dX12_repair0_160 lk1334 (fun _ _ _ => rfl) (hM.1 0 _ rfl) (a := (m + 43)) (hM.2.2 42 _ _ _ rfl) rfl ?_
      refine ev_iload_n 164 dX12_repair0_163 rfl rfl ?_
      refine ev_iload 166 dX12_repair0_164 rfl rfl ?_
      refine ev_if_eqN 169 173 dX12_repair0_166 (by decide) (by omega) rfl (fun hbr => ?_) (fun hx => absurd (rfl) hx)
      refine ev_iconstN 174 2 dX12_repair0_173 rfl ?_
      refine ev_iast 175 _ dX12_repair0_174 (hM.1 43 _ rfl) rfl (by have hNN := hM.2.1 43 _ rfl; omega) rfl ?_
      rw [hI1]
      refine ev_aload_n 176 dX12_repair0_175 rfl rfl ?_
      refine ev_iload 178 dX12_repair0_176 rfl rfl ?_
      refine ev_if_eqN 181 186 dX12_repair0_178 (by decide) (by omega) rfl (fun hbr => ?_) (fun hx => absurd (rfl) hx)
      refine ev_bipushN 188 42 dX12_repair0_186 (by decide +kernel) rfl ?_
      exact k188
    · refine ev_aload_n 160 dX12_repair0_159 rfl rfl ?_
      refine ev_getP 163 mm_cl12 (j := 49) (Nat.le_of_ble_eq_true rfl) dX12_repair0_160 lk1334 (fun _ _ _ => rfl) (hM.1 0 _ rfl) (a := (m + 43)) (hM.2.2 42 _ _ _ rfl) rfl ?_
      refine ev_iload_n 164 dX12_repair0_163 rfl rfl ?_
      refine ev_iload 166 dX12_repair0_164 rfl rfl ?_
      refine ev_if_eqN 169 173 dX12_repair0_166 (by decide) (by omega) rfl (fun hx => absurd hx ((by omega))) (fun hbr => ?_)
      refine ev_iconstN 170 3 dX12_repair0_169 rfl ?_
      refine ev_goto 174 dX12_repair0_170 (by decide) ?_
      refine ev_iast 175 _ dX12_repair0_174 (hM.1 43 _ rfl) rfl (by have hNN := hM.2.1 43 _ rfl; omega) rfl ?_
      rw [hI1]
      refine ev_aload_n 176 dX12_repair0_175 rfl rfl ?_
      refine ev_iload 178 dX12_repair0_176 rfl rfl ?_
      refine ev_if_eqN 181 186 dX12_repair0_178 (by decide) (by omega) rfl (fun hx => absurd hx ((by omega))) (fun hbr => ?_)
      refine ev_bipushN 183 43 dX12_repair0_181 (by decide +kernel) rfl ?_
      refine ev_goto 188 dX12_repair0_183 (by decide) ?_
      exact k188
theorem lx_X12_rp0 {c lb rt r : Nat} {v : Int32} {Z : mm_Z} (hM : lyM B P m) (hc8 : c < 8) (hrt : rt ≤ 1) (r7 : I (m + 34) c = nI rt) (hr : r < 2 ^ 31) (r14 : I (m + 37) c = nI r) (hf : Ct g mX12_firstWith [.ref m, .int (nI c), .int (nI ((lb + 1) % 65536))] B I J P (some (.int v), B, I, J, P))
    (K : Ev g mX12_repair0 65 [some (.ref m), some (.int (nI c)), some (.int (nI lb)), some (.int (nI (2 * c + 1))), some (.int (nI (40 * (rt + 1)))), some (.int v), some (.int (sp_fa r)), none, none, none] [] B I J P Z) : Ct g mX12_repair0 [.ref m, .int (nI c), .int (nI lb)] B I J P Z := by
  have k63 : Ev g mX12_repair0 63 [some (.ref m), some (.int (nI c)), some (.int (nI lb)), some (.int (nI (2 * c + 1))), some (.int (nI (40 * (rt + 1)))), some (.int v), none, none, none, none] [.int (sp_fa r)] B I J P Z := by
    refine ev_istore 65 (lv' := [_, _, _, _, _, some (.int _), _, _, _, _]) dX12_repair0_63 (Nat.le_of_ble_eq_true rfl) rfl rfl ?_
    exact K
  unfold sp_fa at k63
  have k22 : Ev g mX12_repair0 22 [some (.ref m), some (.int (nI c)), some (.int (nI lb)), some (.int (nI (2 * c + 1))), none, none, none, none, none, none] [.int (nI (40 * (rt + 1)))] B I J P Z := by
    refine ev_istore 24 (lv' := [_, _, _, some (.int _), _, _, _, _, _, _]) dX12_repair0_22 (Nat.le_of_ble_eq_true rfl) rfl rfl ?_
    refine ev_aload_n 25 dX12_repair0_24 rfl rfl ?_
    refine ev_iload_n 26 dX12_repair0_25 rfl rfl ?_
    refine ev_iload_n 27 dX12_repair0_26 rfl rfl ?_
    refine ev_iconstN 28 1 dX12_repair0_27 rfl ?_
    refine ev_iaddN 29 dX12_repair0_28 rfl ?_
    refine ev_ldc 31 dX12_repair0_29 lk1574 rfl ?_
    refine ev_eqI (y := nI 65535) (by decide +kernel) ?_
    refine ev_iand 32 dX12_repair0_31 rfl ?_
    refine ev_eqI (y := nI (((lb+1)%65536))) (nI_and) ?_
    refine ev_invV 35 (Mc := mX12_firstWith) ⟨lk1789, lk80, hdX12_firstWith, (Nat.le_of_ble_eq_true rfl), (Nat.le_of_ble_eq_true rfl)⟩ lk1786 lk1788 lk64 mm_cl12 rfl dX12_repair0_32 (hf) rfl (hM.1 0 _ rfl) (Nat.le_of_ble_eq_true rfl) rfl rfl ?_
    refine ev_istore 37 (lv' := [_, _, _, _, some (.int _), _, _, _, _, _]) dX12_repair0_35 (Nat.le_of_ble_eq_true rfl) rfl rfl ?_
    refine ev_aload_n 38 dX12_repair0_37 rfl rfl ?_
    refine ev_getP 41 mm_cl12 (j := 43) (Nat.le_of_ble_eq_true rfl) dX12_repair0_38 lk1328 (fun _ _ _ => rfl) (hM.1 0 _ rfl) (a := (m + 37)) (hM.2.2 36 _ _ _ rfl) rfl ?_
    refine ev_iload_n 42 dX12_repair0_41 rfl rfl ?_
    refine ev_iald 43 _ dX12_repair0_42 (hM.1 37 _ rfl) rfl (by have hNN := hM.2.1 37 _ rfl; omega) rfl ?_
    refine ev_eqI (y := nI (r)) (r14) ?_
    refine ev_iconstN 44 4 dX12_repair0_43 rfl ?_
    refine ev_icmp_geN 47 62 dX12_repair0_44 (by decide) (by omega) (by omega) rfl (fun hz => ?_) (fun hz => ?_)
    · rw [if_neg (by omega)] at k63
      refine ev_iconstN 63 0 dX12_repair0_62 rfl ?_
      exact k63
    · rw [if_pos (by omega)] at k63
      refine ev_bipushN 49 28 dX12_repair0_47 (by decide +kernel) rfl ?_
      refine ev_bipushN 51 8 dX12_repair0_49 (by decide +kernel) rfl ?_
      refine ev_aload_n 52 dX12_repair0_51 rfl rfl ?_
      refine ev_getP 55 mm_cl12 (j := 43) (Nat.le_of_ble_eq_true rfl) dX12_repair0_52 lk1328 (fun _ _ _ => rfl) (hM.1 0 _ rfl) (a := (m + 37)) (hM.2.2 36 _ _ _ rfl) rfl ?_
      refine ev_iload_n 56 dX12_repair0_55 rfl rfl ?_
      refine ev_iald 57 _ dX12_repair0_56 (hM.1 37 _ rfl) rfl (by have hNN := hM.2.1 37 _ rfl; omega) rfl ?_
      refine ev_eqI (y := nI (r)) (r14) ?_
      refine ev_imulN 58 dX12_repair0_57 rfl ?_
      refine ev_isubN 59 dX12_repair0_58 (by omega) rfl ?_
      refine ev_goto 63 dX12_repair0_59 (by decide) ?_
      exact k63
  refine ct_of (lv := [some (.ref m), some (.int (nI c)), some (.int (nI lb)), none, none, none, none, none, none, none]) (by decide +kernel) (Nat.le_of_ble_eq_true rfl) rfl ?_
  refine ev_iconstN 1 2 dX12_repair0_0 rfl ?_
  refine ev_iload_n 2 dX12_repair0_1 rfl rfl ?_
  refine ev_imulN 3 dX12_repair0_2 rfl ?_
  refine ev_iconstN 4 1 dX12_repair0_3 rfl ?_
  refine ev_iaddN 5 dX12_repair0_4 rfl ?_
  refine ev_istore_n 6 (lv' := [_, _, some (.int _), _, _, _, _, _, _, _]) dX12_repair0_5 (Nat.le_of_ble_eq_true rfl) rfl rfl ?_
  refine ev_aload_n 7 dX12_repair0_6 rfl rfl ?_
  refine ev_getP 10 mm_cl12 (j := 40) (Nat.le_of_ble_eq_true rfl) dX12_repair0_7 lk1325 (fun _ _ _ => rfl) (hM.1 0 _ rfl) (a := (m + 34)) (hM.2.2 33 _ _ _ rfl) rfl ?_
  refine ev_iload_n 11 dX12_repair0_10 rfl rfl ?_
  refine ev_iald 12 _ dX12_repair0_11 (hM.1 34 _ rfl) rfl (by have hNN := hM.2.1 34 _ rfl; omega) rfl ?_
  refine ev_eqI (y := nI (rt)) (r7) ?_
  refine ev_if_neN 15 20 dX12_repair0_12 (by decide) (by omega) rfl (fun hz => ?_) (fun hz => ?_)
  · rw [show 40 * (rt + 1) = 80 by omega] at k22
    refine ev_bipushN 22 80 dX12_repair0_20 (by decide +kernel) rfl ?_
    exact k22
  · rw [show 40 * (rt + 1) = 40 by omega] at k22
    refine ev_bipushN 17 40 dX12_repair0_15 (by decide +kernel) rfl ?_
    refine ev_goto 22 dX12_repair0_17 (by decide) ?_
    exact k22
theorem cx_X12_repN {c lb rt r L t : Nat} (hM : lyM B P m) (hc8 : c < 8) (hrt : rt ≤ 1) (r7 : I (m + 34) c = nI rt) (hr : r < 2 ^ 31) (r14 : I (m + 37) c = nI r) (hf : Ct g mX12_firstWith [.ref m, .int (nI c), .int (nI ((lb + 1) % 65536))] B I J P (some (.int (-1)), B, I, J, P)) (hL : 20 ≤ L) (hL2 : L ≤ 147) (hlag : I (m + 18) (2 * c + 1) = nI L) (ht : I m 5 = nI t) (h64 : t < 64) :
    ∃ (I' : mm_TI) (J' : mm_TJ), Ct g mX12_repair0 [.ref m, .int (nI c), .int (nI lb)] B I J P (none, B, I', J', P) ∧ RPm m c (40 * (rt + 1)) L t 2 (sp_fa r) I J I' J' := by
  obtain ⟨I', J', hR, e⟩ := lx_X12_rt (g := g) (B := B) (I := I) (J := J) (P := P) (m := m) (c := c) (lb := lb) (rt := rt) (L := L) (t := t) (mn := 0) (st := sp_fa r) (v := -1) hM hc8 hrt (by omega) hL hL2 hlag ht h64
  refine ⟨I', J', lx_X12_rp0 hM hc8 hrt r7 hr r14 hf ?_, hR⟩
  refine ev_iload 67 dX12_repair0_65 rfl rfl ?_
  refine ev_if_lt 70 104 dX12_repair0_67 (by decide) rfl (fun hbr => ?_) (fun hx => absurd ((by decide)) hx)
  refine ev_iconstN 105 0 dX12_repair0_104 rfl ?_
  refine ev_istore 107 (lv' := [_, _, _, _, _, _, some (.int _), _, _, _]) dX12_repair0_105 (Nat.le_of_ble_eq_true rfl) rfl rfl ?_
  refine ev_iload 109 dX12_repair0_107 rfl rfl ?_
  refine ev_if_eqN 112 159 dX12_repair0_109 (by decide) (by omega) rfl (fun hbr => ?_) (fun hx => absurd (rfl) hx)
  exact e
theorem cx_X12_repU {c lb rt r L t i w : Nat} {mo : Int32} {I1 : mm_TI} (hM : lyM B P m) (hc8 : c < 8) (hrt : rt ≤ 1) (r7 : I (m + 34) c = nI rt) (hr : r < 2 ^ 31) (r14 : I (m + 37) c = nI r) (hi : i < 250) (hf : Ct g mX12_firstWith [.ref m, .int (nI c), .int (nI ((lb + 1) % 65536))] B I J P (some (.int (nI i)), B, I, J, P)) (hw : w ≤ 6)
    (hop : Ct g mX12_open [.ref m, .int (I (m + 30) (250 * c + i) - nI 1)] B I J P (some (.int (nI w)), B, I1, J, P)) (hm : w = 0 → I1 m 80 = mo ∧ mo < nI 2)
    (hL : 20 ≤ L) (hL2 : L ≤ 147) (hlag : I1 (m + 18) (2 * c + 1) = nI L) (ht : I1 m 5 = nI t) (h64 : t < 64) :
    ∃ (I' : mm_TI) (J' : mm_TJ), Ct g mX12_repair0 [.ref m, .int (nI c), .int (nI lb)] B I J P (none, B, I', J', P) ∧ RPm m c (40 * (rt + 1)) L t 2 (sp_fa r) I1 J I' J' := by
  obtain ⟨I', J', hR, e⟩ := lx_X12_rt (g := g) (B := B) (I := I1) (J := J) (P := P) (m := m) (c := c) (lb := lb) (rt := rt) (L := L) (t := t) (mn := 0) (st := sp_fa r) (v := nI i) hM hc8 hrt (by omega) hL hL2 hlag ht h64
  refine ⟨I', J', lx_X12_rp0 hM hc8 hrt r7 hr r14 hf ?_, hR⟩
  have k104 : Ev g mX12_repair0 104 [some (.ref m), some (.int (nI c)), some (.int (nI lb)), some (.int (nI (2 * c + 1))), some (.int (nI (40 * (rt + 1)))), some (.int (nI i)), some (.int (sp_fa r)), none, none, none] [] B I1 J P (none, B, I', J', P) := by
    refine ev_iconstN 105 0 dX12_repair0_104 rfl ?_
    refine ev_istore 107 (lv' := [_, _, _, _, _, _, some (.int _), _, _, _]) dX12_repair0_105 (Nat.le_of_ble_eq_true rfl) rfl rfl ?_
    refine ev_iload 109 dX12_repair0_107 rfl rfl ?_
    refine ev_if_eqN 112 159 dX12_repair0_109 (by decide) (by omega) rfl (fun hbr => ?_) (fun hx => absurd (rfl) hx)
    exact e
  refine ev_iload 67 dX12_repair0_65 rfl rfl ?_
  refine ev_if_ltN 70 104 dX12_repair0_67 (by decide) (by omega) rfl (fun hx => absurd hx (not_false)) (fun hbr => ?_)
  refine ev_aload_n 71 dX12_repair0_70 rfl rfl ?_
  refine ev_aload_n 72 dX12_repair0_71 rfl rfl ?_
  refine ev_getP 75 mm_cl12 (j := 35) (Nat.le_of_ble_eq_true rfl) dX12_repair0_72 lk1320 (fun _ _ _ => rfl) (hM.1 0 _ rfl) (a := (m + 30)) (hM.2.2 29 _ _ _ rfl) rfl ?_
  refine ev_sipushN 78 250 dX12_repair0_75 (by decide +kernel) rfl ?_
  refine ev_iload_n 79 dX12_repair0_78 rfl rfl ?_
  refine ev_imulN 80 dX12_repair0_79 rfl ?_
  refine ev_iload 82 dX12_repair0_80 rfl rfl ?_
  refine ev_iaddN 83 dX12_repair0_82 rfl ?_
  refine ev_iald 84 _ dX12_repair0_83 (hM.1 30 _ rfl) rfl (by have hNN := hM.2.1 30 _ rfl; omega) rfl ?_
  refine ev_iconstN 85 1 dX12_repair0_84 rfl ?_
  refine ev_isub 86 dX12_repair0_85 rfl ?_
  refine ev_invV 89 (Mc := mX12_open) ⟨lk1793, lk80, hdX12_open, (Nat.le_of_ble_eq_true rfl), (Nat.le_of_ble_eq_true rfl)⟩ lk1790 lk1792 lk65 mm_cl12 rfl dX12_repair0_86 (hop) rfl (hM.1 0 _ rfl) (Nat.le_of_ble_eq_true rfl) rfl rfl ?_
  by_cases cz : w = 0
  · obtain ⟨h1, h2⟩ := hm cz
    refine ev_if_neN 92 104 dX12_repair0_89 (by decide) (by omega) rfl (fun hx => absurd ((by omega)) hx) (fun hbr => ?_)
    refine ev_aload_n 93 dX12_repair0_92 rfl rfl ?_
    refine ev_getI 96 mm_cl12 (j := 80) (Nat.le_of_ble_eq_true rfl) dX12_repair0_93 lk1365 (fun _ _ _ => rfl) (hM.1 0 _ rfl) rfl ?_
    refine ev_eqI (y := (mo)) (h1) ?_
    refine ev_iconstN 97 2 dX12_repair0_96 rfl ?_
    refine ev_icmp_lt 100 104 dX12_repair0_97 (by decide) rfl (fun hbr => ?_) (fun hx => absurd (h2) hx)
    exact k104
  · refine ev_if_neN 92 104 dX12_repair0_89 (by decide) (by omega) rfl (fun hbr => ?_) (fun hx => absurd hx ((by omega)))
    exact k104
theorem cx_X12_repM {c lb rt r t i bd mo n R : Nat} {bt : Nat → Nat} {I1 : mm_TI} (hM : lyM B P m) (hc8 : c < 8) (hrt : rt ≤ 1) (r7 : I (m + 34) c = nI rt) (hr : r < 2 ^ 31) (r14 : I (m + 37) c = nI r) (hi : i < 250) (hf : Ct g mX12_firstWith [.ref m, .int (nI c), .int (nI ((lb + 1) % 65536))] B I J P (some (.int (nI i)), B, I, J, P))
    (hop : Ct g mX12_open [.ref m, .int (I (m + 30) (250 * c + i) - nI 1)] B I J P (some (.int (nI 0)), B, I1, J, P)) (hR : I1 m 78 = nI R) (h43 : R < 4300) (h79 : I1 m 79 = nI bd) (h80 : I1 m 80 = nI mo) (hmo : 2 ≤ mo) (hmo2 : mo < 256) (hn : n ≤ 64) (hbn : 6 + bd + 2 ≤ n) (hB : ∀ k, k < n → ub (I1 (m + 33) (64 * R + k)) = bt k)
    (ht : I1 m 5 = nI t) (h64 : t < 64) :
    ∃ (I' : mm_TI) (J' : mm_TJ), Ct g mX12_repair0 [.ref m, .int (nI c), .int (nI lb)] B I J P (none, B, I', J', P) ∧
      RPm m c (40 * (rt + 1)) (20 + bt (6 + bd) % 128) t 3 (nI (5 * (bt (6 + bd + 1) % 8))) (va_up (va_up I1 (m + 18) (va_up (I1 (m + 18)) (2 * c + 1) (nI (20 + bt (6 + bd) % 128)))) (m + 41) (va_up (I1 (m + 41)) c (I1 (m + 41) c + nI 1))) J I' J' := by
  generalize hL : 20 + bt (6 + bd) % 128 = L
  generalize hI2 : va_up I1 (m + 18) (va_up (I1 (m + 18)) (2 * c + 1) (nI L)) = I2
  have a2 : ∀ q, q ≠ m + 18 → I2 q = I1 q := fun q h => by rw [← hI2, va_up_n _ _ h]
  generalize hI3 : va_up I2 (m + 41) (va_up (I1 (m + 41)) c (I1 (m + 41) c + nI 1)) = I3
  have a3 : ∀ q, q ≠ m + 41 → I3 q = I2 q := fun q h => by rw [← hI3, va_up_n _ _ h]
  obtain ⟨I', J', hR', e⟩ := lx_X12_rt (g := g) (B := B) (I := I3) (J := J) (P := P) (m := m) (c := c) (lb := lb) (rt := rt) (L := L) (t := t) (mn := 1) (st := nI (5 * (bt (6 + bd + 1) % 8))) (v := nI i) hM hc8 hrt (by omega) (by omega) (by omega) (by rw [a3 _ (by omega), ← hI2, va_up_s, va_up_s]) (by rw [a3 _ (by omega), a2 _ (by omega)]; exact ht) h64
  refine ⟨I', J', lx_X12_rp0 hM hc8 hrt r7 hr r14 hf ?_, hR'⟩
  have b1 := ct_X12_bodyN (g := g) (B := B) (I := I1) (J := J) (P := P) (m := m) (k := bd) (j := 6 + bd) (bt := bt) hM hR h43 hn rfl (by omega) hB
  have b2 := ct_X12_bodyN (g := g) (B := B) (I := I2) (J := J) (P := P) (m := m) (k := bd + 1) (j := 6 + bd + 1) (bt := bt) hM (by rw [a2 _ (by omega)]; exact hR) h43 hn (by omega) (by omega) (fun k hk => by rw [a2 _ (by omega)]; exact hB k hk)
  refine ev_iload 67 dX12_repair0_65 rfl rfl ?_
  refine ev_if_ltN 70 104 dX12_repair0_67 (by decide) (by omega) rfl (fun hx => absurd hx (not_false)) (fun hbr => ?_)
  refine ev_aload_n 71 dX12_repair0_70 rfl rfl ?_
  refine ev_aload_n 72 dX12_repair0_71 rfl rfl ?_
  refine ev_getP 75 mm_cl12 (j := 35) (Nat.le_of_ble_eq_true rfl) dX12_repair0_72 lk1320 (fun _ _ _ => rfl) (hM.1 0 _ rfl) (a := (m + 30)) (hM.2.2 29 _ _ _ rfl) rfl ?_
  refine ev_sipushN 78 250 dX12_repair0_75 (by decide +kernel) rfl ?_
  refine ev_iload_n 79 dX12_repair0_78 rfl rfl ?_
  refine ev_imulN 80 dX12_repair0_79 rfl ?_
  refine ev_iload 82 dX12_repair0_80 rfl rfl ?_
  refine ev_iaddN 83 dX12_repair0_82 rfl ?_
  refine ev_iald 84 _ dX12_repair0_83 (hM.1 30 _ rfl) rfl (by have hNN := hM.2.1 30 _ rfl; omega) rfl ?_
  refine ev_iconstN 85 1 dX12_repair0_84 rfl ?_
  refine ev_isub 86 dX12_repair0_85 rfl ?_
  refine ev_invV 89 (Mc := mX12_open) ⟨lk1793, lk80, hdX12_open, (Nat.le_of_ble_eq_true rfl), (Nat.le_of_ble_eq_true rfl)⟩ lk1790 lk1792 lk65 mm_cl12 rfl dX12_repair0_86 (hop) rfl (hM.1 0 _ rfl) (Nat.le_of_ble_eq_true rfl) rfl rfl ?_
  refine ev_if_neN 92 104 dX12_repair0_89 (by decide) (by omega) rfl (fun hx => absurd ((by omega)) hx) (fun hbr => ?_)
  refine ev_aload_n 93 dX12_repair0_92 rfl rfl ?_
  refine ev_getI 96 mm_cl12 (j := 80) (Nat.le_of_ble_eq_true rfl) dX12_repair0_93 lk1365 (fun _ _ _ => rfl) (hM.1 0 _ rfl) rfl ?_
  refine ev_eqI (y := nI (mo)) (h80) ?_
  refine ev_iconstN 97 2 dX12_repair0_96 rfl ?_
  refine ev_icmp_ltN 100 104 dX12_repair0_97 (by decide) (by omega) (by omega) rfl (fun hx => absurd hx ((by omega))) (fun hbr => ?_)
  refine ev_iconstN 101 1 dX12_repair0_100 rfl ?_
  refine ev_goto 105 dX12_repair0_101 (by decide) ?_
  refine ev_istore 107 (lv' := [_, _, _, _, _, _, some (.int _), _, _, _]) dX12_repair0_105 (Nat.le_of_ble_eq_true rfl) rfl rfl ?_
  refine ev_iload 109 dX12_repair0_107 rfl rfl ?_
  refine ev_if_eqN 112 159 dX12_repair0_109 (by decide) (by omega) rfl (fun hx => absurd hx ((by omega))) (fun hbr => ?_)
  refine ev_aload_n 113 dX12_repair0_112 rfl rfl ?_
  refine ev_getP 116 mm_cl12 (j := 23) (Nat.le_of_ble_eq_true rfl) dX12_repair0_113 lk1308 (fun _ _ _ => rfl) (hM.1 0 _ rfl) (a := (m + 18)) (hM.2.2 17 _ _ _ rfl) rfl ?_
  refine ev_iload_n 117 dX12_repair0_116 rfl rfl ?_
  refine ev_bipushN 119 20 dX12_repair0_117 (by decide +kernel) rfl ?_
  refine ev_aload_n 120 dX12_repair0_119 rfl rfl ?_
  refine ev_aload_n 121 dX12_repair0_120 rfl rfl ?_
  refine ev_getI 124 mm_cl12 (j := 79) (Nat.le_of_ble_eq_true rfl) dX12_repair0_121 lk1364 (fun _ _ _ => rfl) (hM.1 0 _ rfl) rfl ?_
  refine ev_eqI (y := nI (bd)) (h79) ?_
  refine ev_invV 127 (Mc := mX12_body) ⟨lk1809, lk80, hdX12_body, (Nat.le_of_ble_eq_true rfl), (Nat.le_of_ble_eq_true rfl)⟩ lk1806 lk1808 lk69 mm_cl12 rfl dX12_repair0_124 (b1) rfl (hM.1 0 _ rfl) (Nat.le_of_ble_eq_true rfl) rfl rfl ?_
  refine ev_bipushN 129 127 dX12_repair0_127 (by decide +kernel) rfl ?_
  refine ev_iand 130 dX12_repair0_129 rfl ?_
  refine ev_eqI (y := nI ((bt (6+bd)%128))) ((nI_m127 _)) ?_
  refine ev_iaddN 131 dX12_repair0_130 rfl ?_
  refine ev_iast 132 _ dX12_repair0_131 (hM.1 18 _ rfl) rfl (by have hNN := hM.2.1 18 _ rfl; omega) rfl ?_
  rw [hL, hI2]
  refine ev_iconstN 133 5 dX12_repair0_132 rfl ?_
  refine ev_aload_n 134 dX12_repair0_133 rfl rfl ?_
  refine ev_aload_n 135 dX12_repair0_134 rfl rfl ?_
  refine ev_getI 138 mm_cl12 (j := 79) (Nat.le_of_ble_eq_true rfl) dX12_repair0_135 lk1364 (fun _ _ _ => rfl) (hM.1 0 _ rfl) rfl ?_
  refine ev_eqI (y := nI (bd)) ((by rw [a2 _ (by omega)]; exact h79)) ?_
  refine ev_iconstN 139 1 dX12_repair0_138 rfl ?_
  refine ev_iaddN 140 dX12_repair0_139 rfl ?_
  refine ev_invV 143 (Mc := mX12_body) ⟨lk1809, lk80, hdX12_body, (Nat.le_of_ble_eq_true rfl), (Nat.le_of_ble_eq_true rfl)⟩ lk1806 lk1808 lk69 mm_cl12 rfl dX12_repair0_140 (b2) rfl (hM.1 0 _ rfl) (Nat.le_of_ble_eq_true rfl) rfl rfl ?_
  refine ev_bipushN 145 7 dX12_repair0_143 (by decide +kernel) rfl ?_
  refine ev_iand 146 dX12_repair0_145 rfl ?_
  refine ev_eqI (y := nI ((bt (6+bd+1)%8))) ((nI_m7 _)) ?_
  refine ev_imulN 147 dX12_repair0_146 rfl ?_
  refine ev_istore 149 (lv' := [_, _, _, _, _, some (.int _), _, _, _, _]) dX12_repair0_147 (Nat.le_of_ble_eq_true rfl) rfl rfl ?_
  refine ev_aload_n 150 dX12_repair0_149 rfl rfl ?_
  refine ev_getP 153 mm_cl12 (j := 47) (Nat.le_of_ble_eq_true rfl) dX12_repair0_150 lk1332 (fun _ _ _ => rfl) (hM.1 0 _ rfl) (a := (m + 41)) (hM.2.2 40 _ _ _ rfl) rfl ?_
  refine ev_iload_n 154 dX12_repair0_153 rfl rfl ?_
  refine ev_dup2_11 155 dX12_repair0_154 rfl rfl rfl ?_
  refine ev_iald 156 _ dX12_repair0_155 (hM.1 41 _ rfl) rfl (by have hNN := hM.2.1 41 _ rfl; omega) rfl ?_
  refine ev_iconstN 157 1 dX12_repair0_156 rfl ?_
  refine ev_iadd 158 dX12_repair0_157 rfl ?_
  refine ev_iast 159 _ dX12_repair0_158 (hM.1 41 _ rfl) rfl (by have hNN := hM.2.1 41 _ rfl; omega) rfl ?_
  rw [a2 (m + 41) (by omega), hI3]
  exact e
end MRP
