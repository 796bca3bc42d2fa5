/-! the decoder's tail -/
theorem sp_gs_cg {Y Y' : Nat → Int32} : ∀ k, (∀ n, n ≤ k → Y n = Y' n) → sp_gs Y k = sp_gs Y' k := by
  intro k
  induction k with
  | zero => intro _; rfl
  | succ k ih =>
    intro h
    show i_max (sp_gs Y k) (i_abs (Y (k + 1) - Y k)) = i_max (sp_gs Y' k) (i_abs (Y' (k + 1) - Y' k))
    rw [ih (fun n hn => h n (by omega)), h (k + 1) (Nat.le_refl _), h k (by omega)]
theorem jv_cg {b s : Int32} {Y Y' : Nat → Int32} : ∀ k, (∀ n, n < k → Y n = Y' n) → jv b s Y k = jv b s Y' k := by
  intro k
  induction k with
  | zero => intro _; rfl
  | succ k ih =>
    intro h
    show jn (jv b s Y k) s (Y k) = jn (jv b s Y' k) s (Y' k)
    rw [ih (fun n hn => h n (by omega)), h k (by omega)]
/-- joined, where jo = 1 -/
def joS (bd : Int32) (Y O : Nat → Int32) (N ot : Nat) : Int32 := i_max bd (i_max (sp_gs Y (N - 1)) (sp_gs O (ot - 1)))
def joB (O : Nat → Int32) (ot : Nat) : Int32 := if ot = 0 then 0 else O (ot - 1)
def joY (jo : Nat) (bd : Int32) (Y O : Nat → Int32) (N ot : Nat) : Nat → Int32 := if jo = 1 then (fun k => jv (joB O ot) (joS bd Y O N ot) Y (k + 1)) else Y
def joM (jo t : Nat) (F : Nat → Int32) : Nat → Int32 := if jo = 1 then va_up F t (nI 60) else F
section VDT
variable {g : mm_G} {B : mm_B} {I : mm_TI} {J : mm_TJ} {P : mm_TP} {m x o : Nat}
theorem joY_e {bd : Int32} {Y Y' O : Nat → Int32} {N ot : Nat} (hN : 1 ≤ N) (h : ∀ n, n < N → Y' n = Y n) : ∀ k, k < N → jv (joB O ot) (joS bd Y' O N ot) Y' (k + 1) = joY 1 bd Y O N ot k := fun k hk => by
  unfold joY joS
  rw [if_pos rfl, sp_gs_cg (N - 1) (fun n hn => h n (by omega)), jv_cg (k + 1) (fun n hn => h n (by omega))]
theorem cx_X1_dt {rt N L t jo ot dr nx : Nat} {ga bd de : Int32} {fl ks zs : Nat → Nat} {cs gs : Nat → Int32} {Ks : Nat → Nat → Int32} {Y O : Nat → Int32} (hV : lyV B P x) (hC : lyC B P x o) (hxo : x + 22 ≤ o) (hrt : rt ≤ 1) (hN : N = 160 * (rt + 1)) (r7 : I (o + 17) 7 = nI rt) (hL : 20 ≤ L) (hL2 : L ≤ 147) (r8 : I (o + 17) 8 = ga) (hlag : I (o + 29) 3 = nI L) (hP : ∀ i, i < 4 → P (o + 19) i = some (fl i))
    (hfl : ∀ i, i < 4 → x + 22 ≤ fl i ∧ fl i ≠ o + 17 ∧ fl i + 1 ≠ o + 17 ∧ fl i ≠ o + 29 ∧ fl i + 1 ≠ o + 29 ∧ fl i ≠ o + 28 ∧ fl i + 1 ≠ o + 28) (hfd : ∀ i j, i < 4 → j < 4 → i ≠ j → fl i ≠ fl j ∧ fl i ≠ fl j + 1) (ht : I (x + 1) 2 = nI t) (ht32 : t + 9 < 32) (hjo : jo ≤ 1)
    (hY : ∀ n, n < N → I (x + 6) n = Y n) (hF : ∀ j, j < 4 → FSc B I J P (fl j) (ks j) (zs j) (cs j) (gs j) (Ks j)) (r10 : I (o + 17) 10 = bd) (r6 : I (o + 17) 6 = nI ot) (hot : ot ≤ 321) (hO : ∀ n, n < ot → I (o + 28) n = O n) (hdr : dr ≤ 2) (r11 : I (o + 17) 11 = oD dr) (r15 : I (o + 17) 15 = de) (r9 : I (o + 17) 9 = nI nx) (hnx : nx < 65536) :
    ∃ (I' : mm_TI) (J' : mm_TJ), Ev g mX1_decodeNext 139 [some (.ref (o + 17)), none, none, some (.int (nI jo)), none] [] B I J P (none, B, I', J', P) ∧
      (∀ k, k < oN dr N → I' (o + 28) k = oY dr (joY jo bd (chY ks zs cs gs Ks ga L N Y 4) O N ot) N k) ∧ J' (x + 1) 3 = J (x + 1) 3 + chT ks zs cs gs Ks ga L N Y 4 ∧
      I' (x + 3) = joM jo (t + chN ks 4) (chM ks t (I (x + 3)) 4) ∧ I' (x + 1) = va_up (I (x + 1)) 2 (nI (t + chN ks 4 + jo)) ∧
      (∀ j, j < 4 → FSc B I' J' P (fl j) (ks j) (fsZ (ks j) (zs j) N) (fsC (ks j) (cs j) (chY ks zs cs gs Ks ga L N Y j) N) (fsG (ks j) (gs j) (chY ks zs cs gs Ks ga L N Y j) N) (fun k => chY ks zs cs gs Ks ga L N Y (j + 1) (N - 160 + k))) ∧
      I' (o + 17) = va_up (va_up (va_up (va_up (I (o + 17)) 6 (nI (oN dr N))) 11 (nI 0)) 15 (de + nI 1)) 9 (nI ((nx + 1) % 65536)) ∧
      (∀ k, 5 ≤ k → k ≤ 14 → I' (x + k) = fun _ => 0) ∧ (∀ n, n < 9 → J' (x + 15) n = 0) ∧ (∀ n, n < 8 → J' (x + 16) n = 0) ∧
      (∀ q, q ≠ x + 1 → q ≠ x + 3 → q < x + 5 ∨ x + 14 < q → q ≠ o + 17 → q ≠ o + 28 → (∀ j, j < 4 → q ≠ fl j ∧ q ≠ fl j + 1) → I' q = I q) ∧ (∀ q, q ≠ x + 1 → q ≠ x + 15 → q ≠ x + 16 → (∀ j, j < 4 → q ≠ fl j) → J' q = J q) := by
  have hn0 : ∀ j, j < 4 → ¬ j < 0 := fun j _ => Nat.not_lt_zero j
  obtain ⟨I1, J1, p1, p2, p3, p4, p5, p6, p7, p8⟩ := lx_X1_fall (g := g) (B := B) (P := P) (x := x) (o := o) (N := N) (L := L) (t := t) (ga := ga) (fl := fl) (ks := ks) (zs := zs) (cs := cs) (gs := gs) (Ks := Ks) (Y := Y) (I0 := I) (J0 := J) hV hC hxo (by omega) hL hL2 r8 hlag hP (fun i hi => by have := hfl i hi; exact ⟨this.1, this.2.1, this.2.2.1, this.2.2.2.1, this.2.2.2.2.1⟩) hfd (by omega) 4 0 (by omega) I J hY (by show _ = _ + (0 : Int64); rw [Int64.add_zero]) rfl (by show I (x + 1) = va_up (I (x + 1)) 2 (nI t); rw [← ht, va_up_id]) (fun j hj => by simp only [if_neg (hn0 j hj)]; exact hF j hj) (fun _ _ _ _ _ => rfl) (fun _ _ _ => rfl)
  have fq : ∀ q, q = o + 17 ∨ q = o + 28 ∨ q = o + 29 → I1 q = I q := fun q hq => p6 q (by omega) (by omega) (by omega) (fun j hj => by
    obtain ⟨m1, m2, m3, m4, m5, m6, m7⟩ := hfl j hj
    rcases hq with rfl | rfl | rfl
    · exact ⟨fun e => m2 e.symm, fun e => m3 e.symm⟩
    · exact ⟨fun e => m6 e.symm, fun e => m7 e.symm⟩
    · exact ⟨fun e => m4 e.symm, fun e => m5 e.symm⟩)
  have cl := chN_l ks 4
  have e17 : I1 (o + 17) = I (o + 17) := fq _ (by omega)
  generalize hY4 : chY ks zs cs gs Ks ga L N Y 4 = Y4 at *
  -- behind the join
  obtain ⟨I2, j1, j2, j3, j4, j5⟩ : ∃ I2 : mm_TI, (∀ Z : mm_Z, Ev g mX1_decodeNext 173 [some (.ref (o + 17)), none, none, some (.int (nI jo)), some (.int (nI N))] [] B I2 J1 P Z → Ev g mX1_decodeNext 154 [some (.ref (o + 17)), none, none, some (.int (nI jo)), some (.int (nI N))] [] B I1 J1 P Z) ∧ (∀ n, n < N → I2 (x + 6) n = joY jo bd Y4 O N ot n) ∧ I2 (x + 3) = joM jo (t + chN ks 4) (chM ks t (I (x + 3)) 4) ∧ I2 (x + 1) = va_up (I (x + 1)) 2 (nI (t + chN ks 4 + jo)) ∧ (∀ q, q ≠ x + 1 → q ≠ x + 3 → q ≠ x + 6 → I2 q = I1 q) := by
    rcases (show jo = 0 ∨ jo = 1 by omega) with rfl | rfl
    · refine ⟨I1, fun Z e => ?_, p1, p3, p4, fun _ _ _ _ => rfl⟩
      refine ev_iload_n 155 dX1_decodeNext_154 rfl rfl ?_
      refine ev_if_eqN 158 173 dX1_decodeNext_155 (by decide) (by omega) rfl (fun hbr => ?_) (fun hx => absurd (rfl) hx)
      exact e
    · have mk := ct_X10_mark (g := g) (B := B) (I := I1) (J := J1) (P := P) (x := x) (a := nI 60) (t := t + chN ks 4) hV (by rw [p4, va_up_s]) (by omega)
      generalize hIm : va_up (va_up I1 (x + 3) (va_up (I1 (x + 3)) (t + chN ks 4) (nI 60))) (x + 1) (va_up (I1 (x + 1)) 2 (nI (t + chN ks 4 + 1))) = Im at mk
      have am : ∀ q, q ≠ x + 3 → q ≠ x + 1 → Im q = I1 q := fun q h h' => by rw [← hIm, va_up_n _ _ h', va_up_n _ _ h]
      have jc := ct_X1_join (g := g) (B := B) (I := Im) (J := J1) (P := P) (x := x) (o := o) (N := N) (ot := ot) (bd := bd) (O := O) hV hC (by omega) (by rw [am _ (by omega) (by omega), e17]; exact r10) (by rw [am _ (by omega) (by omega), e17]; exact r6) hot (fun n hn => by rw [am _ (by omega) (by omega), fq _ (by omega)]; exact hO n hn)
      refine ⟨va_up Im (x + 6) (sgp (Im (x + 6)) 0 N (fun k => jv (if ot = 0 then 0 else O (ot - 1)) (i_max bd (i_max (sp_gs (Im (x + 6)) (N - 1)) (sp_gs O (ot - 1)))) (Im (x + 6)) (k + 1))), fun Z e => ?_, fun n hn => ?_, ?_, ?_, fun q h1 h2 h3 => ?_⟩
      · refine ev_iload_n 155 dX1_decodeNext_154 rfl rfl ?_
        refine ev_if_eqN 158 173 dX1_decodeNext_155 (by decide) (by omega) rfl (fun hx => absurd hx ((by omega))) (fun hbr => ?_)
        refine ev_aload_n 159 dX1_decodeNext_158 rfl rfl ?_
        refine ev_getP 162 mm_cl1 (j := 0) (Nat.le_of_ble_eq_true rfl) dX1_decodeNext_159 lk472 (fun _ _ _ => rfl) (hC.1 17 _ rfl) (a := (x + 1)) (hC.2.2.2 5 _ _ _ rfl) rfl ?_
        refine ev_bipushN 164 60 dX1_decodeNext_162 (by decide +kernel) rfl ?_
        refine ev_invVv 167 (Mc := mX10_mark) ⟨lk665, lk76, hdX10_mark, (Nat.le_of_ble_eq_true rfl), (Nat.le_of_ble_eq_true rfl)⟩ lk1060 lk663 lk664 mm_cl10 rfl dX1_decodeNext_164 (mk) rfl (hV.1 1 _ rfl) (Nat.le_of_ble_eq_true rfl) rfl rfl ?_
        refine ev_aload_n 168 dX1_decodeNext_167 rfl rfl ?_
        refine ev_iload 170 dX1_decodeNext_168 rfl rfl ?_
        refine ev_invVv 173 (Mc := mX1_joinOn) ⟨lk1158, lk85, hdX1_joinOn, (Nat.le_of_ble_eq_true rfl), (Nat.le_of_ble_eq_true rfl)⟩ lk1155 lk1157 lk33 mm_cl1 rfl dX1_decodeNext_170 (jc) rfl (hC.1 17 _ rfl) (Nat.le_of_ble_eq_true rfl) rfl rfl ?_
        exact e
      · rw [va_up_s, sg0_in hn]
        exact joY_e (by omega) (fun k hk => by rw [am _ (by omega) (by omega)]; exact p1 k hk) n hn
      · rw [va_up_n _ _ (by omega), ← hIm, va_up_n _ _ (by omega), va_up_s, p3]; rfl
      · rw [va_up_n _ _ (by omega), ← hIm, va_up_s, p4, bx_uu]
      · rw [va_up_n _ _ h3, am q h2 h1]
  have e217 : I2 (o + 17) = I (o + 17) := by rw [j5 _ (by omega) (by omega) (by omega), e17]
  obtain ⟨O', bo, ho⟩ := cx_X1_bringOut (g := g) (B := B) (I := I2) (J := J1) (P := P) (x := x) (o := o) (N := N) (dr := dr) (Y := joY jo bd Y4 O N ot) hV hC hxo (by omega) hdr (by rw [e217]; exact r11) j2
  rw [e217] at bo
  generalize hI3 : va_up (va_up I2 (o + 28) O') (o + 17) (va_up (va_up (I (o + 17)) 6 (nI (oN dr N))) 11 (nI 0)) = I3 at bo
  have a3 : ∀ q, q ≠ o + 28 → q ≠ o + 17 → I3 q = I2 q := fun q h h' => by rw [← hI3, va_up_n _ _ h', va_up_n _ _ h]
  have e3 : I3 (o + 17) = va_up (va_up (I (o + 17)) 6 (nI (oN dr N))) 11 (nI 0) := by rw [← hI3, va_up_s]
  generalize hI4 : va_up I3 (o + 17) (va_up (va_up (va_up (va_up (I (o + 17)) 6 (nI (oN dr N))) 11 (nI 0)) 15 (de + nI 1)) 9 (nI ((nx + 1) % 65536))) = I4
  have a4 : ∀ q, q ≠ o + 17 → I4 q = I3 q := fun q h => by rw [← hI4, va_up_n _ _ h]
  obtain ⟨I5, J5, c5, w1, w2, w3, w4, w5⟩ := cx_X8_wipe (g := g) (B := B) (I := I4) (J := J1) (P := P) (x := x) hV
  have fs : ∀ j, j < 4 → I5 (fl j) = I1 (fl j) ∧ I5 (fl j + 1) = I1 (fl j + 1) ∧ J5 (fl j) = J1 (fl j) := fun j hj => by
    obtain ⟨m1, m2, m3, m4, m5, m6, m7⟩ := hfl j hj
    refine ⟨?_, ?_, w5 _ (by omega) (by omega)⟩
    · rw [w2 _ (by omega), a4 _ m2, a3 _ m6 m2, j5 _ (by omega) (by omega) (by omega)]
    · rw [w2 _ (by omega), a4 _ m3, a3 _ m7 m3, j5 _ (by omega) (by omega) (by omega)]
  refine ⟨I5, J5, ?_, fun k hk => ?_, ?_, ?_, ?_, fun j hj => ?_, ?_, w1, w3, w4, fun q h1 h2 h3 h4 h5 h6 => ?_, fun q h1 h2 h3 h4 => ?_⟩
  · have p8' : Ct g mX1_filterAll [.ref (o + 17), .int (nI N)] B I J P (none, B, I1, J1, P) := by
      refine ct_of (lv := [some (.ref (o + 17)), some (.int (nI N)), none]) (by decide +kernel) (Nat.le_of_ble_eq_true rfl) rfl ?_
      refine ev_iconstN 1 0 dX1_filterAll_0 rfl ?_
      refine ev_istore_n 2 (lv' := [_, some (.int _), _]) dX1_filterAll_1 (Nat.le_of_ble_eq_true rfl) rfl rfl ?_
      exact p8
    refine ev_aload_n 140 dX1_decodeNext_139 rfl rfl ?_
    refine ev_getI 143 mm_cl1 (j := 7) (Nat.le_of_ble_eq_true rfl) dX1_decodeNext_140 lk483 (fun _ _ _ => rfl) (hC.1 17 _ rfl) rfl ?_
    refine ev_eqI (y := nI (rt)) (r7) ?_
    refine ev_invSN 146 (Mc := mX11_frameOf) ⟨lk639, lk75, hdX11_frameOf, (Nat.le_of_ble_eq_true rfl), (Nat.le_of_ble_eq_true rfl)⟩ lk1121 lk638 dX1_decodeNext_143 (ct_X11_frameOf (show rt < 2 by omega)) rfl (Nat.le_of_ble_eq_true rfl) rfl rfl ?_
    rw [← hN]
    refine ev_istore 148 (lv' := [_, _, _, some (.int _), _]) dX1_decodeNext_146 (Nat.le_of_ble_eq_true rfl) rfl rfl ?_
    refine ev_aload_n 149 dX1_decodeNext_148 rfl rfl ?_
    refine ev_iload 151 dX1_decodeNext_149 rfl rfl ?_
    refine ev_invVv 154 (Mc := mX1_filterAll) ⟨lk1125, lk85, hdX1_filterAll, (Nat.le_of_ble_eq_true rfl), (Nat.le_of_ble_eq_true rfl)⟩ lk1122 lk1124 lk28 mm_cl1 rfl dX1_decodeNext_151 (p8') rfl (hC.1 17 _ rfl) (Nat.le_of_ble_eq_true rfl) rfl rfl ?_
    refine j1 _ ?_
    refine ev_aload_n 174 dX1_decodeNext_173 rfl rfl ?_
    refine ev_iload 176 dX1_decodeNext_174 rfl rfl ?_
    refine ev_invVv 179 (Mc := mX1_bringOut) ⟨lk1167, lk85, hdX1_bringOut, (Nat.le_of_ble_eq_true rfl), (Nat.le_of_ble_eq_true rfl)⟩ lk1164 lk1166 lk34 mm_cl1 rfl dX1_decodeNext_176 (bo) rfl (hC.1 17 _ rfl) (Nat.le_of_ble_eq_true rfl) rfl rfl ?_
    refine ev_aload_n 180 dX1_decodeNext_179 rfl rfl ?_
    refine ev_dup 181 dX1_decodeNext_180 rfl rfl ?_
    refine ev_getI 184 mm_cl1 (j := 15) (Nat.le_of_ble_eq_true rfl) dX1_decodeNext_181 lk496 (fun _ _ _ => rfl) (hC.1 17 _ rfl) rfl ?_
    refine ev_eqI (y := (de)) ((by rw [e3, va_up_n _ _ (by omega), va_up_n _ _ (by omega)]; exact r15)) ?_
    refine ev_iconstN 185 1 dX1_decodeNext_184 rfl ?_
    refine ev_iadd 186 dX1_decodeNext_185 rfl ?_
    refine ev_putI 189 mm_cl1 (j := 15) (Nat.le_of_ble_eq_true rfl) dX1_decodeNext_186 lk496 rfl (fun _ _ _ => rfl) rfl rfl (hC.1 17 _ rfl) rfl ?_
    rw [e3]
    refine ev_aload_n 190 dX1_decodeNext_189 rfl rfl ?_
    refine ev_aload_n 191 dX1_decodeNext_190 rfl rfl ?_
    refine ev_getI 194 mm_cl1 (j := 9) (Nat.le_of_ble_eq_true rfl) dX1_decodeNext_191 lk485 (fun _ _ _ => rfl) (hC.1 17 _ rfl) rfl ?_
    refine ev_eqI (y := nI (nx)) ((by rw [va_up_s, va_up_n _ _ (by omega), va_up_n _ _ (by omega), va_up_n _ _ (by omega)]; exact r9)) ?_
    refine ev_iconstN 195 1 dX1_decodeNext_194 rfl ?_
    refine ev_iaddN 196 dX1_decodeNext_195 rfl ?_
    refine ev_ldc 198 dX1_decodeNext_196 lk1097 rfl ?_
    refine ev_eqI (y := nI 65536) (by decide +kernel) ?_
    refine ev_iremN 199 dX1_decodeNext_198 (by omega) (by omega) (by omega) rfl ?_
    refine ev_putI 202 mm_cl1 (j := 9) (Nat.le_of_ble_eq_true rfl) dX1_decodeNext_199 lk485 rfl (fun _ _ _ => rfl) rfl rfl (hC.1 17 _ rfl) rfl ?_
    rw [va_up_s, bx_uu, hI4]
    refine ev_aload_n 203 dX1_decodeNext_202 rfl rfl ?_
    refine ev_getP 206 mm_cl1 (j := 1) (Nat.le_of_ble_eq_true rfl) dX1_decodeNext_203 lk473 (fun _ _ _ => rfl) (hC.1 17 _ rfl) (a := (x + 4)) (hC.2.2.2 6 _ _ _ rfl) rfl ?_
    refine ev_invVv 209 (Mc := mX8_wipe) ⟨lk851, lk77, hdX8_wipe, (Nat.le_of_ble_eq_true rfl), (Nat.le_of_ble_eq_true rfl)⟩ lk1169 lk849 lk850 mm_cl8 rfl dX1_decodeNext_206 (c5) rfl (hV.1 4 _ rfl) (Nat.le_of_ble_eq_true rfl) rfl rfl ?_
    exact ev_vret dX1_decodeNext_209 rfl (rfl)
  · rw [w2 _ (by omega), a4 _ (by omega), ← hI3, va_up_n _ _ (by omega), va_up_s]; exact ho k hk
  · rw [w5 _ (by omega) (by omega)]; exact p2
  · rw [w2 _ (by omega), a4 _ (by omega), a3 _ (by omega) (by omega)]; exact j3
  · rw [w2 _ (by omega), a4 _ (by omega), a3 _ (by omega) (by omega)]; exact j4
  · obtain ⟨q1, q2, q3⟩ := fs j hj
    exact FSc_cg (p5 j hj) q1 q2 q3
  · rw [w2 _ (by omega), ← hI4, va_up_s]
  · rw [w2 q h3, a4 q h4, a3 q h5 h4, j5 q h1 h2 (by omega), p6 q h1 h2 (by omega) h6]
  · rw [w5 q h2 h3, p7 q h1 h4]
theorem lp_X12_dto {c lb f jo N : Nat} {v : Int32} {F0 V : Nat → Int32} {Z : mm_Z} (hM : lyM B P m) (hc8 : c < 8) (hN : N ≤ 321) (hV : ∀ n, n < N → I (m + 54) n = V n)
    (K : Ev g mX12_decode 368 [some (.ref m), some (.int (nI c)), some (.int (nI lb)), some (.int (nI f)), some (.int v), some (.int (nI jo)), some (.int (nI N)), none] [] B (va_up I (m + 45) (sgp F0 (322 * c) N V)) J P Z) : ∀ (d i : Nat), i + d = N →
    Ev g mX12_decode 335 [some (.ref m), some (.int (nI c)), some (.int (nI lb)), some (.int (nI f)), some (.int v), some (.int (nI jo)), some (.int (nI N)), some (.int (nI i))] [] B (va_up I (m + 45) (sgp F0 (322 * c) i V)) J P Z := by
  intro d
  induction d with
  | zero =>
    intro i hi
    obtain rfl : i = N := by omega
    refine ev_iload 337 dX12_decode_335 rfl rfl ?_
    refine ev_iload 339 dX12_decode_337 rfl rfl ?_
    refine ev_icmp_geN 342 368 dX12_decode_339 (by decide) (by omega) (by omega) rfl (fun hbr => ?_) (fun hx => absurd ((by omega)) hx)
    refine ev_le (mle_s (mle_s (mle_s (mle_s (mle_s (mle_s (mle_s (mle_n (mle_0))))))))) ?_
    exact K
  | succ d ih =>
    intro i hi
    have e := ih (i + 1) (by omega)
    rw [← sgp_grow (x := V i) rfl] at e
    refine ev_iload 337 dX12_decode_335 rfl rfl ?_
    refine ev_iload 339 dX12_decode_337 rfl rfl ?_
    refine ev_icmp_geN 342 368 dX12_decode_339 (by decide) (by omega) (by omega) rfl (fun hx => absurd hx ((by omega))) (fun hbr => ?_)
    refine ev_aload_n 343 dX12_decode_342 rfl rfl ?_
    refine ev_getP 346 mm_cl12 (j := 51) (Nat.le_of_ble_eq_true rfl) dX12_decode_343 lk1336 (fun _ _ _ => rfl) (hM.1 0 _ rfl) (a := (m + 45)) (hM.2.2 44 _ _ _ rfl) rfl ?_
    refine ev_sipushN 349 322 dX12_decode_346 (by decide +kernel) rfl ?_
    refine ev_iload_n 350 dX12_decode_349 rfl rfl ?_
    refine ev_imulN 351 dX12_decode_350 rfl ?_
    refine ev_iload 353 dX12_decode_351 rfl rfl ?_
    refine ev_iaddN 354 dX12_decode_353 rfl ?_
    refine ev_aload_n 355 dX12_decode_354 rfl rfl ?_
    refine ev_getP 358 mm_cl12 (j := 60) (Nat.le_of_ble_eq_true rfl) dX12_decode_355 lk1345 (fun _ _ _ => rfl) (hM.1 0 _ rfl) (a := (m + 54)) (hM.2.2 53 _ _ _ rfl) rfl ?_
    refine ev_iload 360 dX12_decode_358 rfl rfl ?_
    refine ev_iald 361 _ dX12_decode_360 (hM.1 54 _ rfl) rfl (by have hNN := hM.2.1 54 _ rfl; omega) rfl ?_
    refine ev_eqI (y := (V i)) ((by rw [va_up_n _ _ (by omega)]; exact hV i (by omega))) ?_
    refine ev_iast 362 _ dX12_decode_361 (hM.1 45 _ rfl) rfl (by have hNN := hM.2.1 45 _ rfl; omega) rfl ?_
    refine ev_iincN 365 (lv' := [_, _, _, _, _, _, some (.int _), _]) 1 dX12_decode_362 rfl (Nat.le_of_ble_eq_true rfl) rfl rfl ?_
    refine ev_goto 335 dX12_decode_365 (by decide) ?_
    rw [va_up_s, bx_uu]
    exact e
theorem cx_X12_dt {c lb f rt N L t jo ot dr rn : Nat} {v ga bd de : Int32} {ks zs : Nat → Nat} {cs gs : Nat → Int32} {Ks : Nat → Nat → Int32} {Y O : Nat → Int32} (hM : lyM B P m) (hc8 : c < 8) (hf : f ≤ 7) (hrt : rt ≤ 1) (hN : N = 160 * (rt + 1)) (r7 : I (m + 34) c = nI rt) (hL : 20 ≤ L) (hL2 : L ≤ 147) (r8 : I (m + 35) c = ga) (hlag : I (m + 18) (2 * c + 1) = nI L) (ht : I m 5 = nI t) (ht64 : t + 9 < 64) (hrn : rn ≤ 1) (hjo : jo = if 0 < f ∨ rn = 1 then 1 else 0)
    (hY : ∀ n, n < N → I (m + 54) n = Y n) (hYr : ∀ n, n < N → r16 (Y n)) (hF : ∀ j, j < 4 → FSm I m (4 * c + j) (ks j) (zs j) (cs j) (gs j) (Ks j)) (r10 : I (m + 46) c = bd) (hbd : 0 ≤ bd.toInt) (hbd2 : bd.toInt ≤ 32767) (r6 : I (m + 44) c = nI ot) (hot : ot ≤ 321) (hO : ∀ n, n < ot → I (m + 45) (322 * c + n) = O n) (hOr : ∀ n, n < ot → r16 (O n)) (hdr : dr ≤ 2) (r11 : I (m + 47) c = oD dr) (r15 : I (m + 38) c = de) (hlb : lb < 65536) :
    ∃ (I' : mm_TI) (J' : mm_TJ), Ev g mX12_decode 253 [some (.ref m), some (.int (nI c)), some (.int (nI lb)), some (.int (nI f)), some (.int v), some (.int (nI rn)), none, none] [] B I J P (some (.int (nI (oN dr N))), B, I', J', P) ∧
      I' (m + 45) = sgp (I (m + 45)) (322 * c) (oN dr N) (oY dr (joY jo bd (chY ks zs cs gs Ks ga L N Y 4) O N ot) N) ∧ J' = sp_up J m 2 (chT ks zs cs gs Ks ga L N Y 4) ∧
      I' (m + 2) = joM jo (t + chN ks 4) (chM ks t (I (m + 2)) 4) ∧ I' m = va_up (va_up (I m) 5 (nI (t + chN ks 4 + jo))) 1 (nI 0) ∧
      (∀ j, j < 4 → FSm I' m (4 * c + j) (ks j) (fsZ (ks j) (zs j) N) (fsC (ks j) (cs j) (chY ks zs cs gs Ks ga L N Y j) N) (fsG (ks j) (gs j) (chY ks zs cs gs Ks ga L N Y j) N) (fun k => chY ks zs cs gs Ks ga L N Y (j + 1) (N - 160 + k))) ∧
      I' (m + 44) = va_up (I (m + 44)) c (nI (oN dr N)) ∧ I' (m + 47) = va_up (I (m + 47)) c (nI 0) ∧ I' (m + 38) = va_up (I (m + 38)) c (de + nI 1) ∧ I' (m + 36) = va_up (I (m + 36)) c (nI ((lb + 1) % 65536)) ∧
      (∀ q j, q = m + 49 ∨ q = m + 50 ∨ q = m + 51 → j < 4 * c ∨ 4 * c + 4 ≤ j → I' q j = I q j) ∧ (∀ j, j < 640 * c ∨ 640 * c + 640 ≤ j → I' (m + 52) j = I (m + 52) j) ∧
      (∀ q, q ≠ m → q ≠ m + 2 → q < m + 49 ∨ m + 54 < q ∨ q = m + 53 → q ≠ m + 44 → q ≠ m + 45 → q ≠ m + 47 → q ≠ m + 38 → q ≠ m + 36 → I' q = I q) := by
  have hn0 : ∀ j, j < 4 → ¬ j < 0 := fun j _ => Nat.not_lt_zero j
  have hks : ∀ j, j < 4 → ks j ≤ 4 := fun j hj => (hF j hj).1
  obtain ⟨I1, p1, p3, p4, p5, p6, p7, p8, p9⟩ := lx_X12_fall (g := g) (B := B) (P := P) (m := m) (c := c) (lb := lb) (f := f) (jo := rn) (N := N) (L := L) (t := t) (v := v) (ga := ga) (ks := ks) (zs := zs) (cs := cs) (gs := gs) (Ks := Ks) (Y := Y) (I0 := I) (J0 := J) (Z := (none, B, I, J, P)) hM hc8 (by omega) hL hL2 r8 hlag (by omega) 4 0 (by omega) I hY rfl (by show I m = va_up (I m) 5 (nI t); rw [← ht, va_up_id]) (fun j hj => by simp only [if_neg (hn0 j hj)]; exact hF j hj) (fun _ _ _ _ => rfl) (fun _ _ _ _ => rfl) (fun _ _ => rfl)
  have y4r := chY_r (ks := ks) (zs := zs) (cs := cs) (gs := gs) (Ks := Ks) (ga := ga) (L := L) hYr 4 hks
  have cl := chN_l ks 4
  have z0 : sp_up J m 2 (chT ks zs cs gs Ks ga L N Y 0) = J := by show sp_up J m 2 0 = J; rw [sp_up_0]
  rw [z0] at p9
  generalize hT4 : chT ks zs cs gs Ks ga L N Y 4 = T4 at *
  generalize hY4 : chY ks zs cs gs Ks ga L N Y 4 = Y4 at *
  generalize hJ1 : sp_up J m 2 T4 = J1 at p9 ⊢
  obtain ⟨I2, j1, j2, j3, j4, j5⟩ : ∃ I2 : mm_TI, (∀ Z : mm_Z, Ev g mX12_decode 323 [some (.ref m), some (.int (nI c)), some (.int (nI lb)), some (.int (nI f)), some (.int v), some (.int (nI rn)), some (.int (nI N)), none] [] B I2 J1 P Z → Ev g mX12_decode 301 [some (.ref m), some (.int (nI c)), some (.int (nI lb)), some (.int (nI f)), some (.int v), some (.int (nI rn)), some (.int (nI N)), none] [] B I1 J1 P Z) ∧ (∀ n, n < N → I2 (m + 54) n = joY jo bd Y4 O N ot n) ∧ I2 (m + 2) = joM jo (t + chN ks 4) (chM ks t (I (m + 2)) 4) ∧ I2 m = va_up (I m) 5 (nI (t + chN ks 4 + jo)) ∧ (∀ q, q ≠ m → q ≠ m + 2 → q ≠ m + 54 → I2 q = I1 q) := by
    by_cases hj : 0 < f ∨ rn = 1
    · rw [if_pos hj] at hjo
      subst hjo
      have mk := ct_X12_tell (g := g) (B := B) (I := I1) (J := J1) (P := P) (m := m) (a := nI 60) (t := t + chN ks 4) hM (by rw [p4, va_up_s]) (by omega)
      generalize hIm : va_up (va_up I1 (m + 2) (va_up (I1 (m + 2)) (t + chN ks 4) (nI 60))) m (va_up (I1 m) 5 (nI (t + chN ks 4 + 1))) = Im at mk
      have am : ∀ q, q ≠ m → q ≠ m + 2 → Im q = I1 q := fun q h h' => by rw [← hIm, va_up_n _ _ h, va_up_n _ _ h']
      have jc := ct_X12_join (g := g) (B := B) (I := Im) (J := J1) (P := P) (m := m) (c := c) (N := N) (ot := ot) (bd := bd) (O := O) hM hc8 (by omega) (by rw [am _ (by omega) (by omega), p6 _ (by omega) (by omega) (by omega)]; exact r10) hbd hbd2 (by rw [am _ (by omega) (by omega), p6 _ (by omega) (by omega) (by omega)]; exact r6) hot (fun n hn => by rw [am _ (by omega) (by omega), p6 _ (by omega) (by omega) (by omega)]; exact hO n hn) hOr (fun n hn => by rw [am _ (by omega) (by omega), p1 n hn]; exact y4r n hn) (by omega)
      refine ⟨va_up Im (m + 54) (sgp (Im (m + 54)) 0 N (fun k => jv (if ot = 0 then 0 else O (ot - 1)) (i_max bd (i_max (sp_gs (Im (m + 54)) (N - 1)) (sp_gs O (ot - 1)))) (Im (m + 54)) (k + 1))), fun Z e => ?_, fun n hn => ?_, ?_, ?_, fun q h1 h2 h3 => ?_⟩
      · have k310 : Ev g mX12_decode 310 [some (.ref m), some (.int (nI c)), some (.int (nI lb)), some (.int (nI f)), some (.int v), some (.int (nI rn)), some (.int (nI N)), none] [] B I1 J1 P Z := by
          refine ev_aload_n 311 dX12_decode_310 rfl rfl ?_
          refine ev_bipushN 313 60 dX12_decode_311 (by decide +kernel) rfl ?_
          refine ev_invVv 316 (Mc := mX12_tell) ⟨lk1599, lk80, hdX12_tell, (Nat.le_of_ble_eq_true rfl), (Nat.le_of_ble_eq_true rfl)⟩ lk1596 lk1598 lk41 mm_cl12 rfl dX12_decode_313 (mk) rfl (hM.1 0 _ rfl) (Nat.le_of_ble_eq_true rfl) rfl rfl ?_
          refine ev_aload_n 317 dX12_decode_316 rfl rfl ?_
          refine ev_iload_n 318 dX12_decode_317 rfl rfl ?_
          refine ev_iload 320 dX12_decode_318 rfl rfl ?_
          refine ev_invVv 323 (Mc := mX12_join0) ⟨lk1823, lk80, hdX12_join0, (Nat.le_of_ble_eq_true rfl), (Nat.le_of_ble_eq_true rfl)⟩ lk1820 lk1822 lk72 mm_cl12 rfl dX12_decode_320 (jc) rfl (hM.1 0 _ rfl) (Nat.le_of_ble_eq_true rfl) rfl rfl ?_
          exact e
        refine ev_iload_n 302 dX12_decode_301 rfl rfl ?_
        by_cases hf0 : 0 < f
        · refine ev_if_gtN 305 310 dX12_decode_302 (by decide) (by omega) rfl (fun hbr => ?_) (fun hx => absurd (hf0) hx)
          exact k310
        · refine ev_if_gtN 305 310 dX12_decode_302 (by decide) (by omega) rfl (fun hx => absurd hx (hf0)) (fun hbr => ?_)
          refine ev_iload 307 dX12_decode_305 rfl rfl ?_
          refine ev_if_eqN 310 323 dX12_decode_307 (by decide) (by omega) rfl (fun hx => absurd hx ((by omega))) (fun hbr => ?_)
          exact k310
      · rw [va_up_s, sg0_in hn]
        exact joY_e (by omega) (fun k hk => by rw [am _ (by omega) (by omega)]; exact p1 k hk) n hn
      · rw [va_up_n _ _ (by omega), ← hIm, va_up_n _ _ (by omega), va_up_s, p3]; rfl
      · rw [va_up_n _ _ (by omega), ← hIm, va_up_s, p4, bx_uu]
      · rw [va_up_n _ _ h3, am q h1 h2]
    · rw [if_neg hj] at hjo
      subst hjo
      refine ⟨I1, fun Z e => ?_, p1, p3, p4, fun _ _ _ _ => rfl⟩
      refine ev_iload_n 302 dX12_decode_301 rfl rfl ?_
      refine ev_if_gtN 305 310 dX12_decode_302 (by decide) (by omega) rfl (fun hx => absurd hx ((by omega))) (fun hbr => ?_)
      refine ev_iload 307 dX12_decode_305 rfl rfl ?_
      refine ev_if_eqN 310 323 dX12_decode_307 (by decide) (by omega) rfl (fun hbr => ?_) (fun hx => absurd ((by omega)) hx)
      exact e
  have q2 : ∀ q, q ≠ m → q ≠ m + 2 → q < m + 49 ∨ m + 54 < q ∨ q = m + 53 → I2 q = I q := fun q h1 h2 h3 => by rw [j5 q h1 h2 (by omega), p6 q h1 h2 h3]
  obtain ⟨O', dc, ho⟩ := cx_X12_drift (g := g) (B := B) (I := I2) (J := J1) (P := P) (m := m) (c := c) (N := N) (dr := dr) (Y := joY jo bd Y4 O N ot) hM hc8 (by omega) hdr (by rw [q2 _ (by omega) (by omega) (by omega)]; exact r11) j2
  rw [q2 (m + 47) (by omega) (by omega) (by omega)] at dc
  generalize hI3 : va_up (va_up I2 (m + 47) (va_up (I (m + 47)) c (nI 0))) (m + 54) O' = I3 at dc
  have a3 : ∀ q, q ≠ m + 47 → q ≠ m + 54 → I3 q = I2 q := fun q h h' => by rw [← hI3, va_up_n _ _ h', va_up_n _ _ h]
  have hoN : oN dr N ≤ 321 := by unfold oN; split <;> (try split) <;> omega
  generalize hON : oN dr N = M at *
  have e345 : I3 (m + 45) = I (m + 45) := by rw [a3 _ (by omega) (by omega), q2 _ (by omega) (by omega) (by omega)]
  generalize hOY : oY dr (joY jo bd Y4 O N ot) N = OY at *
  generalize hI4 : va_up I3 (m + 45) (sgp (I (m + 45)) (322 * c) M OY) = I4
  have a4 : ∀ q, q ≠ m + 45 → I4 q = I3 q := fun q h => by rw [← hI4, va_up_n _ _ h]
  have f4 : ∀ q, q ≠ m → q ≠ m + 2 → q < m + 49 ∨ m + 54 < q ∨ q = m + 53 → q ≠ m + 45 → q ≠ m + 47 → I4 q = I q := fun q h1 h2 h3 h4 h5 => by rw [a4 q h4, a3 q h5 (by omega), q2 q h1 h2 h3]
  generalize hI5 : va_up I4 (m + 44) (va_up (I (m + 44)) c (nI M)) = I5
  have a5 : ∀ q, q ≠ m + 44 → I5 q = I4 q := fun q h => by rw [← hI5, va_up_n _ _ h]
  generalize hI6 : va_up I5 (m + 36) (va_up (I (m + 36)) c (nI ((lb + 1) % 65536))) = I6
  have a6 : ∀ q, q ≠ m + 36 → I6 q = I5 q := fun q h => by rw [← hI6, va_up_n _ _ h]
  generalize hI7 : va_up I6 (m + 38) (va_up (I (m + 38)) c (de + nI 1)) = I7
  have a7 : ∀ q, q ≠ m + 38 → I7 q = I6 q := fun q h => by rw [← hI7, va_up_n _ _ h]
  have A7 : ∀ q, q ≠ m + 38 → q ≠ m + 36 → q ≠ m + 44 → I7 q = I4 q := fun q h1 h2 h3 => by rw [a7 q h1, a6 q h2, a5 q h3]
  have dn := ct_X12_done (g := g) (B := B) (I := I7) (J := J1) (P := P) (m := m) (a := nI M) hM
  have em : I7 m = va_up (I m) 5 (nI (t + chN ks 4 + jo)) := by rw [A7 _ (by omega) (by omega) (by omega), a4 _ (by omega), a3 _ (by omega) (by omega), j4]
  have lay : ∀ q, q ≠ m → q ≠ m + 38 → q ≠ m + 36 → q ≠ m + 44 → q ≠ m + 45 → q ≠ m + 47 → q ≠ m + 54 → mo_st I7 m (nI 0) q = I2 q := fun q h0 h1 h2 h3 h4 h5 h6 => by
    show va_up I7 m _ q = _
    rw [va_up_n _ _ h0, A7 q h1 h2 h3, a4 q h4, a3 q h5 h6]
  refine ⟨mo_st I7 m (nI 0), J1, ?_, ?_, rfl, ?_, ?_, fun j hj => ?_, ?_, ?_, ?_, ?_, fun q j h1 h2 => ?_, fun j hj => ?_, fun q h1 h2 h3 h4 h5 h6 h7 h8 => ?_⟩
  · have e368 : Ev g mX12_decode 368 [some (.ref m), some (.int (nI c)), some (.int (nI lb)), some (.int (nI f)), some (.int v), some (.int (nI rn)), some (.int (nI M)), none] [] B (va_up I3 (m + 45) (sgp (I (m + 45)) (322 * c) M OY)) J1 P (some (.int (nI M)), B, mo_st I7 m (nI 0), J1, P) := by
      rw [hI4]
      refine ev_aload_n 369 dX12_decode_368 rfl rfl ?_
      refine ev_getP 372 mm_cl12 (j := 50) (Nat.le_of_ble_eq_true rfl) dX12_decode_369 lk1335 (fun _ _ _ => rfl) (hM.1 0 _ rfl) (a := (m + 44)) (hM.2.2 43 _ _ _ rfl) rfl ?_
      refine ev_iload_n 373 dX12_decode_372 rfl rfl ?_
      refine ev_iload 375 dX12_decode_373 rfl rfl ?_
      refine ev_iast 376 _ dX12_decode_375 (hM.1 44 _ rfl) rfl (by have hNN := hM.2.1 44 _ rfl; omega) rfl ?_
      rw [f4 (m + 44) (by omega) (by omega) (by omega) (by omega) (by omega), hI5]
      refine ev_aload_n 377 dX12_decode_376 rfl rfl ?_
      refine ev_getP 380 mm_cl12 (j := 42) (Nat.le_of_ble_eq_true rfl) dX12_decode_377 lk1327 (fun _ _ _ => rfl) (hM.1 0 _ rfl) (a := (m + 36)) (hM.2.2 35 _ _ _ rfl) rfl ?_
      refine ev_iload_n 381 dX12_decode_380 rfl rfl ?_
      refine ev_iload_n 382 dX12_decode_381 rfl rfl ?_
      refine ev_iconstN 383 1 dX12_decode_382 rfl ?_
      refine ev_iaddN 384 dX12_decode_383 rfl ?_
      refine ev_ldc 386 dX12_decode_384 lk1574 rfl ?_
      refine ev_eqI (y := nI 65535) (by decide +kernel) ?_
      refine ev_iand 387 dX12_decode_386 rfl ?_
      refine ev_eqI (y := nI (((lb+1)%65536))) (nI_and) ?_
      refine ev_iast 388 _ dX12_decode_387 (hM.1 36 _ rfl) rfl (by have hNN := hM.2.1 36 _ rfl; omega) rfl ?_
      rw [show I5 (m + 36) = I (m + 36) by rw [a5 _ (by omega), f4 _ (by omega) (by omega) (by omega) (by omega) (by omega)], hI6]
      refine ev_aload_n 389 dX12_decode_388 rfl rfl ?_
      refine ev_getP 392 mm_cl12 (j := 44) (Nat.le_of_ble_eq_true rfl) dX12_decode_389 lk1329 (fun _ _ _ => rfl) (hM.1 0 _ rfl) (a := (m + 38)) (hM.2.2 37 _ _ _ rfl) rfl ?_
      refine ev_iload_n 393 dX12_decode_392 rfl rfl ?_
      refine ev_dup2_11 394 dX12_decode_393 rfl rfl rfl ?_
      refine ev_iald 395 _ dX12_decode_394 (hM.1 38 _ rfl) rfl (by have hNN := hM.2.1 38 _ rfl; omega) rfl ?_
      refine ev_eqI (y := (de)) ((by rw [a6 _ (by omega), a5 _ (by omega), f4 _ (by omega) (by omega) (by omega) (by omega) (by omega)]; exact r15)) ?_
      refine ev_iconstN 396 1 dX12_decode_395 rfl ?_
      refine ev_iadd 397 dX12_decode_396 rfl ?_
      refine ev_iast 398 _ dX12_decode_397 (hM.1 38 _ rfl) rfl (by have hNN := hM.2.1 38 _ rfl; omega) rfl ?_
      rw [show I6 (m + 38) = I (m + 38) by rw [a6 _ (by omega), a5 _ (by omega), f4 _ (by omega) (by omega) (by omega) (by omega) (by omega)], hI7]
      refine ev_aload_n 399 dX12_decode_398 rfl rfl ?_
      refine ev_iload 401 dX12_decode_399 rfl rfl ?_
      refine ev_invV 404 (Mc := mX12_done) ⟨lk1544, lk80, hdX12_done, (Nat.le_of_ble_eq_true rfl), (Nat.le_of_ble_eq_true rfl)⟩ lk1541 lk1543 lk39 mm_cl12 rfl dX12_decode_401 (dn) rfl (hM.1 0 _ rfl) (Nat.le_of_ble_eq_true rfl) rfl rfl ?_
      exact ev_iret dX12_decode_404 rfl (rfl)
    have e335 := lp_X12_dto (g := g) (B := B) (I := I3) (J := J1) (P := P) (m := m) (c := c) (lb := lb) (f := f) (jo := rn) (N := M) (v := v) (F0 := I (m + 45)) (V := OY) (Z := (some (.int (nI M)), B, mo_st I7 m (nI 0), J1, P)) hM hc8 hoN (fun n hn => by rw [← hI3, va_up_s]; exact ho n hn) e368 M 0 (by omega)
    rw [sgp_0, ← e345, va_up_id] at e335
    have k323 : Ev g mX12_decode 323 [some (.ref m), some (.int (nI c)), some (.int (nI lb)), some (.int (nI f)), some (.int v), some (.int (nI rn)), some (.int (nI N)), none] [] B I2 J1 P (some (.int (nI M)), B, mo_st I7 m (nI 0), J1, P) := by
      refine ev_aload_n 324 dX12_decode_323 rfl rfl ?_
      refine ev_iload_n 325 dX12_decode_324 rfl rfl ?_
      refine ev_iload 327 dX12_decode_325 rfl rfl ?_
      refine ev_invV 330 (Mc := mX12_drift0) ⟨lk1827, lk80, hdX12_drift0, (Nat.le_of_ble_eq_true rfl), (Nat.le_of_ble_eq_true rfl)⟩ lk1824 lk1826 lk73 mm_cl12 rfl dX12_decode_327 (dc) rfl (hM.1 0 _ rfl) (Nat.le_of_ble_eq_true rfl) rfl rfl ?_
      refine ev_istore 332 (lv' := [_, _, _, _, _, some (.int _), _, _]) dX12_decode_330 (Nat.le_of_ble_eq_true rfl) rfl rfl ?_
      refine ev_iconstN 333 0 dX12_decode_332 rfl ?_
      refine ev_istore 335 (lv' := [_, _, _, _, _, _, some (.int _), _]) dX12_decode_333 (Nat.le_of_ble_eq_true rfl) rfl rfl ?_
      exact e335
    have k276 := p9 _ (j1 _ k323)
    have k271 : Ev g mX12_decode 271 [some (.ref m), some (.int (nI c)), some (.int (nI lb)), some (.int (nI f)), some (.int v), some (.int (nI rn)), none, none] [.int (nI N)] B I J P (some (.int (nI M)), B, mo_st I7 m (nI 0), J1, P) := by
      refine ev_istore 273 (lv' := [_, _, _, _, _, some (.int _), _, _]) dX12_decode_271 (Nat.le_of_ble_eq_true rfl) rfl rfl ?_
      refine ev_iconstN 274 0 dX12_decode_273 rfl ?_
      refine ev_istore 276 (lv' := [_, _, _, _, _, _, some (.int _), _]) dX12_decode_274 (Nat.le_of_ble_eq_true rfl) rfl rfl ?_
      exact k276
    refine ev_aload_n 254 dX12_decode_253 rfl rfl ?_
    refine ev_getP 257 mm_cl12 (j := 40) (Nat.le_of_ble_eq_true rfl) dX12_decode_254 lk1325 (fun _ _ _ => rfl) (hM.1 0 _ rfl) (a := (m + 34)) (hM.2.2 33 _ _ _ rfl) rfl ?_
    refine ev_iload_n 258 dX12_decode_257 rfl rfl ?_
    refine ev_iald 259 _ dX12_decode_258 (hM.1 34 _ rfl) rfl (by have hNN := hM.2.1 34 _ rfl; omega) rfl ?_
    refine ev_eqI (y := nI (rt)) (r7) ?_
    refine ev_if_neN 262 268 dX12_decode_259 (by decide) (by omega) rfl (fun hz => ?_) (fun hz => ?_)
    · rw [show N = 320 by omega] at k271
      refine ev_sipushN 271 320 dX12_decode_268 (by decide +kernel) rfl ?_
      exact k271
    · rw [show N = 160 by omega] at k271
      refine ev_sipushN 265 160 dX12_decode_262 (by decide +kernel) rfl ?_
      refine ev_goto 271 dX12_decode_265 (by decide) ?_
      exact k271
  · show va_up I7 m _ (m + 45) = _
    rw [va_up_n _ _ (by omega), A7 _ (by omega) (by omega) (by omega), ← hI4, va_up_s]
  · rw [lay _ (by omega) (by omega) (by omega) (by omega) (by omega) (by omega) (by omega)]; exact j3
  · show va_up I7 m (va_up (I7 m) 1 (nI 0)) m = _
    rw [va_up_s, em]
  · have hh := p5 j hj
    unfold FSm at hh ⊢
    rw [lay (m + 48) (by omega) (by omega) (by omega) (by omega) (by omega) (by omega) (by omega), lay (m + 49) (by omega) (by omega) (by omega) (by omega) (by omega) (by omega) (by omega), lay (m + 50) (by omega) (by omega) (by omega) (by omega) (by omega) (by omega) (by omega), lay (m + 51) (by omega) (by omega) (by omega) (by omega) (by omega) (by omega) (by omega), lay (m + 52) (by omega) (by omega) (by omega) (by omega) (by omega) (by omega) (by omega), j5 (m + 48) (by omega) (by omega) (by omega), j5 (m + 49) (by omega) (by omega) (by omega), j5 (m + 50) (by omega) (by omega) (by omega), j5 (m + 51) (by omega) (by omega) (by omega), j5 (m + 52) (by omega) (by omega) (by omega)]
    exact hh
  · show va_up I7 m _ (m + 44) = _
    rw [va_up_n _ _ (by omega), a7 _ (by omega), a6 _ (by omega), ← hI5, va_up_s]
  · show va_up I7 m _ (m + 47) = _
    rw [va_up_n _ _ (by omega), A7 _ (by omega) (by omega) (by omega), a4 _ (by omega), ← hI3, va_up_n _ _ (by omega), va_up_s]
  · show va_up I7 m _ (m + 38) = _
    rw [va_up_n _ _ (by omega), ← hI7, va_up_s]
  · show va_up I7 m _ (m + 36) = _
    rw [va_up_n _ _ (by omega), a7 _ (by omega), ← hI6, va_up_s]
  · rw [lay q (by omega) (by omega) (by omega) (by omega) (by omega) (by omega) (by omega), j5 q (by omega) (by omega) (by omega)]; exact p7 q j h1 h2
  · rw [lay _ (by omega) (by omega) (by omega) (by omega) (by omega) (by omega) (by omega), j5 _ (by omega) (by omega) (by omega)]; exact p8 j hj
  · rw [lay q h1 h7 h8 h4 h5 h6 (by omega), q2 q h1 h2 h3]
end VDT
