/-! a frame is decoded, the model's side -/
section C12
variable {p : Program} {l : Launch} {e : Env} {R : Room} {s : State} {m : MethodId} {args : Array Value} {below : List Frame} {meth : Method} {c : Code} {H : Heap} {locs : List Loc} {cells slots : Nat} {y : MethodName} {bytes cc : ByteArray} {maxL nL mc ms n index : Nat} {ret : Option FieldType} {ws : List Cond} {rm : Room} {Pc : Array Value → State → Prop} {Qc : Array Value → State → Outcome → State → Prop} {free : Addr → Prop} {Ts : List Cond} {own C : String} {b : Addr} {As rest : List Value} {g : JFrame}
/-- a call over a stack of up to 12 words -/
theorem mm_run12 (S : CallFix p m c cc nL s args Ts own) (hM : Met l y ws rm Pc Qc mc ms free) (cw : CallW R s args own C index y bytes maxL ret ws rm mc ms n) (h12 : 12 + (maxL + 11) + rm.locals ≤ R.locals) (hp : PreV s H C b Pc As) (hg : g.method = m) (hn : As.length = n) (hz : g.locals.size = nL) (hs : g.stack = As.reverse ++ .ref b :: rest) (hW : 2 * g.monitorRoom + (rest.map fun v => v.category).sum ≤ 12) (hdg : decode cc g.pc = .ok (.invokevirtual index, 3)) (hf : cells + mc ≤ R.cells ∧ slots + ms ≤ R.slots) :
    va_Run p l e R s m args below meth c H locs cells slots mc ms g rest (Qc (Value.ref b :: As).toArray) free := by
  obtain ⟨⟨q1, q2, q3, -, q5, q6, q7, q8, q9, q10, q11⟩, hin, hse⟩ := cw
  have hK : Back l R p e below s args y 3 12 (PreOf R mc ms Pc) (PostOf Qc mc ms free) := back_of hM hp.1 q1 q2 q3 h12 q5 q6 (fun _ _ hw => word_at hw (Or.inl (by first | rfl | simp [Cond.onTables, Cond.keeps, Cond.steady])) q8)
  obtain ⟨cB, hB1, hB2, hB3⟩ := hp.2.1
  intro T hT X
  have hcl := callV X S.1 S.2.2.2.1 q11 hin hse q7 q9 hK (by rw [hT]; exact hB1) hB2 hB3 hg (hz.trans S.2.2.1.symm) (argsL := As) (rest := rest) (fun sig h => hn.trans (q10 sig h)) hs hW (by rw [S.2.1]; exact hdg) (fun vm hw => ⟨hf.1, hf.2, hp.2.2 (T.setVm vm) hT hw⟩)
  obtain ⟨v, vm, ⟨U, l2, c2, s2⟩, -, X', ⟨g', mk, t, L, e1, e2, hq, h1, hL, h2, h3⟩, st⟩ := hcl
  dsimp only [Pt.U, Pt.locs, Pt.cells, Pt.slots] at X' e1 e2 h1 h2 h3 st
  subst h1 h2 h3
  exact ⟨v, (T.setVm vm).calling g' mk (Value.ref b :: As).toArray, t, U, L, hT, X', hL, e1, e2, hq, st⟩
end C12
section E12
variable {g : mm_G} {M Mc : mm_M} {pc n idx : Nat} {lv : mm_L} {st rest As : List Value} {B B1 : mm_B} {I I1 : mm_TI} {J J1 : mm_TJ} {P P1 : mm_TP} {Z Zc : mm_Z} {v : Value}
theorem ev_invV120 (pc' : Nat) {ci o : Nat} {C : String} {T : u_T} {N : Nat} (hc : mm_CB M Mc n) (hlk : Cond.methodLink M.1.cls idx Mc.1 ∈ lw_all) (hi : Cond.instanceMethod Mc.1 ∈ lw_all) (hse : Cond.selects C Mc.1 Mc.1 ∈ lw_all) (hcl : mm_Cl ci C T N) (hC : Mc.1.cls = C) (hd : decode M.2.1 pc = .ok (.invokevirtual idx, 3)) (hk : Ct g Mc (.ref o :: As) B I J P Zc) (hst : st = As.reverse ++ .ref o :: rest) (ht : mm_T B o = 100 + ci) (hw : (rest.map fun v => v.category).sum ≤ 12) (hlen : As.length = n) (hp : pc + 3 = pc') (h : Ev g M pc' lv (Zc.1.toList ++ rest) Zc.2.1 Zc.2.2.1 Zc.2.2.2.1 Zc.2.2.2.2 Z) (h12 : 12 + (Mc.2.2.1 + 11) + Mc.2.2.2.2.2 ≤ M.2.2.2.2.2) : Ev g M pc lv st B I J P Z := by
  subst hp
  subst hst
  have hm := hk.1
  refine ⟨⟨Nat.le_trans hm.1 h.1.1, Nat.le_trans hm.2 h.1.2⟩, fun p l e R s m args below meth c H locs ls n0 s0 hX hn hR hS hl => ?_⟩
  have h1 := h.1
  exact mm_back hm h hX hn hS hl (mm_run12 (C := C) (b := o) ⟨hX.1, hX.2.1, hX.2.2.1, hX.2.2.2.2.2.1, hX.2.2.2.2.2.2.2.1⟩ (hk.2 l) ⟨mm_cb hc hlk hX, hX.2.2.2.2.2.2.2.1 _ hi, hX.2.2.2.2.2.2.2.1 _ hse⟩ (Nat.le_trans h12 hX.2.2.2.2.2.2.2.2.2.2.1) ⟨mm_blind, mm_recv hcl hX.2.2.2.2.2.2.2.2.1 hR ht, mm_pre (As := .ref o :: As) hX.2.2.2.2.2.2.2.2.1 hX.2.2.2.2.2.2.2.2.2.2.2 hR hS⟩ rfl hlen hl.1 rfl (by show 2 * 0 + _ ≤ 12; omega) hd ⟨by have := hm.1; have := h.1.1; omega, by have := hm.2; have := h.1.2; omega⟩)
theorem ev_invV12 (pc' : Nat) {ci o : Nat} {C : String} {T : u_T} {N : Nat} (hc : mm_CB M Mc n) (hlk : Cond.methodLink M.1.cls idx Mc.1 ∈ lw_all) (hi : Cond.instanceMethod Mc.1 ∈ lw_all) (hse : Cond.selects C Mc.1 Mc.1 ∈ lw_all) (hcl : mm_Cl ci C T N) (hC : Mc.1.cls = C) (hd : decode M.2.1 pc = .ok (.invokevirtual idx, 3)) (hk : Ct g Mc (.ref o :: As) B I J P (some v, B1, I1, J1, P1)) (hst : st = As.reverse ++ .ref o :: rest) (ht : mm_T B o = 100 + ci) (hw : (rest.map fun v => v.category).sum ≤ 12) (hlen : As.length = n) (hp : pc + 3 = pc') (h : Ev g M pc' lv (v :: rest) B1 I1 J1 P1 Z) (h12 : 12 + (Mc.2.2.1 + 11) + Mc.2.2.2.2.2 ≤ M.2.2.2.2.2 := by exact Nat.le_of_ble_eq_true rfl) : Ev g M pc lv st B I J P Z := by
  subst hp
  exact ev_invV120 _ hc hlk hi hse hcl hC hd hk hst ht hw hlen rfl h h12
end E12
section MPL
variable {g : mm_G} {B : mm_B} {I : mm_TI} {J : mm_TJ} {P : mm_TP} {m : Nat}
theorem ct_X12_bodyN {R k j n : Nat} {bt : Nat → Nat} (hM : lyM B P m) (hR : I m 78 = nI R) (h43 : R < 4300) (hn : n ≤ 64) (hj : 6 + k = j) (hjn : j < n) (hB : ∀ k, k < n → ub (I (m + 33) (64 * R + k)) = bt k) : Ct g mX12_body [.ref m, .int (nI k)] B I J P (some (.int (nI (bt j))), B, I, J, P) := by
  have e := ct_X12_body (g := g) (B := B) (I := I) (J := J) (P := P) (k := k) hM hR h43 (by omega)
  rw [ub_e, show 64 * R + 6 + k = 64 * R + j by omega, hB j hjn] at e
  exact e
theorem lx_X12_pl0 {c lb n R vo rt : Nat} {F : Nat → Int32} {bt : Nat → Nat} (hM : lyM B P m) (hc8 : c < 8) (hR : I m 78 = nI R) (h43 : R < 4300) (hn : n ≤ 64) (hn6 : 6 ≤ n) (hF : ∀ k, k < n → I (m + 33) (64 * R + k) = F k) (hB : ∀ k, k < n → ub (I (m + 33) (64 * R + k)) = bt k) (hvo : sp_vo F = vo) (hrt : rt = bt 1 % 2) (Z : mm_Z)
    (K : Ev g mX12_play 50 [some (.ref m), some (.int (nI c)), some (.int (nI lb)), some (.int (nI (2 * c + 1))), some (.int (nI (40 * (rt + 1)))), none, none, none, none, none, none] [.int (nI vo)] B (va_up I (m + 34) (va_up (I (m + 34)) c (nI rt))) J P Z) : Ct g mX12_play [.ref m, .int (nI c), .int (nI lb)] B I J P Z := by
  have e1 : I (m + 33) (64 * R + 1) &&& nI 1 = nI rt := by
    have h := hB 1 (by omega)
    have h2 := ub_e (I (m + 33) (64 * R + 1))
    rw [h] at h2
    rw [hrt, ← nI_m1', ← h2, Int32.and_assoc]; rfl
  generalize hI1 : va_up I (m + 34) (va_up (I (m + 34)) c (nI rt)) = I1 at K
  have a1 : ∀ q, q ≠ m + 34 → I1 q = I q := fun q h => by rw [← hI1, va_up_n _ _ h]
  have iv := ct_X12_isVoice (g := g) (B := B) (I := I1) (J := J) (P := P) (m := m) (R := R) (F := F) hM (by rw [a1 _ (by omega)]; exact hR) h43 (by rw [a1 _ (by omega)]; have := hF 0 (by omega); rw [Nat.add_zero] at this; exact this)
  rw [hvo] at iv
  have k44 : Ev g mX12_play 44 [some (.ref m), some (.int (nI c)), some (.int (nI lb)), some (.int (nI (2 * c + 1))), none, none, none, none, none, none, none] [.int (nI (40 * (rt + 1)))] B I1 J P Z := by
    refine ev_istore 46 (lv' := [_, _, _, some (.int _), _, _, _, _, _, _, _]) dX12_play_44 (Nat.le_of_ble_eq_true rfl) rfl rfl ?_
    refine ev_aload_n 47 dX12_play_46 rfl rfl ?_
    refine ev_invV 50 (Mc := mX12_isVoice) ⟨lk1801, lk80, hdX12_isVoice, (Nat.le_of_ble_eq_true rfl), (Nat.le_of_ble_eq_true rfl)⟩ lk1798 lk1800 lk67 mm_cl12 rfl dX12_play_47 (iv) rfl (hM.1 0 _ rfl) (Nat.le_of_ble_eq_true rfl) rfl rfl ?_
    exact K
  refine ct_of (lv := [some (.ref m), some (.int (nI c)), some (.int (nI lb)), none, none, none, none, none, none, none, none]) (by decide +kernel) (Nat.le_of_ble_eq_true rfl) rfl ?_
  refine ev_iconstN 1 2 dX12_play_0 rfl ?_
  refine ev_iload_n 2 dX12_play_1 rfl rfl ?_
  refine ev_imulN 3 dX12_play_2 rfl ?_
  refine ev_iconstN 4 1 dX12_play_3 rfl ?_
  refine ev_iaddN 5 dX12_play_4 rfl ?_
  refine ev_istore_n 6 (lv' := [_, _, some (.int _), _, _, _, _, _, _, _, _]) dX12_play_5 (Nat.le_of_ble_eq_true rfl) rfl rfl ?_
  refine ev_aload_n 7 dX12_play_6 rfl rfl ?_
  refine ev_getP 10 mm_cl12 (j := 40) (Nat.le_of_ble_eq_true rfl) dX12_play_7 lk1325 (fun _ _ _ => rfl) (hM.1 0 _ rfl) (a := (m + 34)) (hM.2.2 33 _ _ _ rfl) rfl ?_
  refine ev_iload_n 11 dX12_play_10 rfl rfl ?_
  refine ev_aload_n 12 dX12_play_11 rfl rfl ?_
  refine ev_getP 15 mm_cl12 (j := 39) (Nat.le_of_ble_eq_true rfl) dX12_play_12 lk1324 (fun _ _ _ => rfl) (hM.1 0 _ rfl) (a := (m + 33)) (hM.2.2 32 _ _ _ rfl) rfl ?_
  refine ev_bipushN 17 64 dX12_play_15 (by decide +kernel) rfl ?_
  refine ev_aload_n 18 dX12_play_17 rfl rfl ?_
  refine ev_getI 21 mm_cl12 (j := 78) (Nat.le_of_ble_eq_true rfl) dX12_play_18 lk1363 (fun _ _ _ => rfl) (hM.1 0 _ rfl) rfl ?_
  refine ev_eqI (y := nI (R)) (hR) ?_
  refine ev_imulN 22 dX12_play_21 rfl ?_
  refine ev_iconstN 23 1 dX12_play_22 rfl ?_
  refine ev_iaddN 24 dX12_play_23 rfl ?_
  refine ev_iald 25 _ dX12_play_24 (hM.1 33 _ rfl) rfl (by have hNN := hM.2.1 33 _ rfl; omega) rfl ?_
  refine ev_iconstN 26 1 dX12_play_25 rfl ?_
  refine ev_iand 27 dX12_play_26 rfl ?_
  refine ev_eqI (y := nI (rt)) (e1) ?_
  refine ev_iast 28 _ dX12_play_27 (hM.1 34 _ rfl) rfl (by have hNN := hM.2.1 34 _ rfl; omega) rfl ?_
  rw [hI1]
  refine ev_aload_n 29 dX12_play_28 rfl rfl ?_
  refine ev_getP 32 mm_cl12 (j := 40) (Nat.le_of_ble_eq_true rfl) dX12_play_29 lk1325 (fun _ _ _ => rfl) (hM.1 0 _ rfl) (a := (m + 34)) (hM.2.2 33 _ _ _ rfl) rfl ?_
  refine ev_iload_n 33 dX12_play_32 rfl rfl ?_
  refine ev_iald 34 _ dX12_play_33 (hM.1 34 _ rfl) rfl (by have hNN := hM.2.1 34 _ rfl; omega) rfl ?_
  refine ev_eqI (y := nI (rt)) ((by rw [← hI1, va_up_s, va_up_s])) ?_
  refine ev_if_neN 37 42 dX12_play_34 (by decide) (by omega) rfl (fun hz => ?_) (fun hz => ?_)
  · rw [show 40 * (rt + 1) = 80 by omega] at k44
    refine ev_bipushN 44 80 dX12_play_42 (by decide +kernel) rfl ?_
    exact k44
  · rw [show 40 * (rt + 1) = 40 by omega] at k44
    refine ev_bipushN 39 40 dX12_play_37 (by decide +kernel) rfl ?_
    refine ev_goto 44 dX12_play_39 (by decide) ?_
    exact k44
theorem cx_X12_plS {c lb n R rt t : Nat} {F : Nat → Int32} {bt : Nat → Nat} (hM : lyM B P m) (hc8 : c < 8) (hR : I m 78 = nI R) (h43 : R < 4300) (hn : n ≤ 64) (hn6 : 8 ≤ n) (hF : ∀ k, k < n → I (m + 33) (64 * R + k) = F k) (hB : ∀ k, k < n → ub (I (m + 33) (64 * R + k)) = bt k) (hvo : sp_vo F = 0) (hrt : rt = bt 1 % 2) (hlb : lb < 65536) (ht : I m 5 = nI t) (h64 : t < 64) :
    ∃ (I' : mm_TI) (J' : mm_TJ), Ct g mX12_play [.ref m, .int (nI c), .int (nI lb)] B I J P (none, B, I', J', P) ∧
      I' (m + 15) = sgp (I (m + 15)) (160 * (2 * c + 1)) 160 (sp_hu (fun _ => 0) (nI (256 * bt 6 + bt 7)) lb (40 * (rt + 1)) (sg (I (m + 15)) (160 * (2 * c + 1)) 160, sg (I (m + 16)) (8 * (2 * c + 1)) 8, I (m + 54), 0) 4).1 ∧ I' (m + 16) = sgp (I (m + 16)) (8 * (2 * c + 1)) 8 (sp_hu (fun _ => 0) (nI (256 * bt 6 + bt 7)) lb (40 * (rt + 1)) (sg (I (m + 15)) (160 * (2 * c + 1)) 160, sg (I (m + 16)) (8 * (2 * c + 1)) 8, I (m + 54), 0) 4).2.1 ∧ I' (m + 17) = sgp (I (m + 17)) (8 * (2 * c + 1)) 8 (fun _ => 0) ∧ I' (m + 54) = (sp_hu (fun _ => 0) (nI (256 * bt 6 + bt 7)) lb (40 * (rt + 1)) (sg (I (m + 15)) (160 * (2 * c + 1)) 160, sg (I (m + 16)) (8 * (2 * c + 1)) 8, I (m + 54), 0) 4).2.2.1 ∧
      J' = sp_up J m 2 (sp_hu (fun _ => 0) (nI (256 * bt 6 + bt 7)) lb (40 * (rt + 1)) (sg (I (m + 15)) (160 * (2 * c + 1)) 160, sg (I (m + 16)) (8 * (2 * c + 1)) 8, I (m + 54), 0) 4).2.2.2 ∧
      I' (m + 34) = va_up (I (m + 34)) c (nI rt) ∧ I' (m + 43) = va_up (I (m + 43)) c (nI 1) ∧ I' (m + 35) = va_up (I (m + 35)) c (nI 0) ∧ I' (m + 2) = va_up (I (m + 2)) t (nI 41) ∧ I' m = va_up (I m) 5 (nI (t + 1)) ∧
      (∀ q, q ≠ m + 15 → q ≠ m + 16 → q ≠ m + 17 → q ≠ m + 54 → q ≠ m + 57 → q ≠ m + 34 → q ≠ m + 43 → q ≠ m + 35 → q ≠ m + 2 → q ≠ m → I' q = I q) := by
  generalize hI1 : va_up I (m + 34) (va_up (I (m + 34)) c (nI rt)) = I1
  have a1 : ∀ q, q ≠ m + 34 → I1 q = I q := fun q h => by rw [← hI1, va_up_n _ _ h]
  generalize hI2 : va_up I1 (m + 43) (va_up (I (m + 43)) c (nI 1)) = I2
  have a2 : ∀ q, q ≠ m + 43 → I2 q = I1 q := fun q h => by rw [← hI2, va_up_n _ _ h]
  have mk := ct_X12_tell (g := g) (B := B) (I := I2) (J := J) (P := P) (m := m) (a := nI 41) (t := t) hM (by rw [a2 _ (by omega), a1 _ (by omega)]; exact ht) h64
  generalize hI3 : va_up (va_up I2 (m + 2) (va_up (I2 (m + 2)) t (nI 41))) m (va_up (I2 m) 5 (nI (t + 1))) = I3 at mk
  have a3 : ∀ q, q ≠ m → q ≠ m + 2 → I3 q = I2 q := fun q h h' => by rw [← hI3, va_up_n _ _ h, va_up_n _ _ h']
  generalize hI4 : va_up I3 (m + 35) (va_up (I3 (m + 35)) c (nI 0)) = I4
  have a4 : ∀ q, q ≠ m + 35 → I4 q = I3 q := fun q h => by rw [← hI4, va_up_n _ _ h]
  have A4 : ∀ q, q ≠ m + 34 → q ≠ m + 43 → q ≠ m → q ≠ m + 2 → q ≠ m + 35 → I4 q = I q := fun q h1 h2 h3 h4 h5 => by rw [a4 q h5, a3 q h3 h4, a2 q h2, a1 q h1]
  have e78 : I4 m 78 = nI R := by rw [a4 _ (by omega), ← hI3, va_up_s, va_up_n _ _ (by omega), a2 _ (by omega), a1 _ (by omega)]; exact hR
  have hB4 : ∀ k, k < n → ub (I4 (m + 33) (64 * R + k)) = bt k := fun k hk => by rw [A4 _ (by omega) (by omega) (by omega) (by omega) (by omega)]; exact hB k hk
  have b6 := ct_X12_bodyN (g := g) (B := B) (I := I4) (J := J) (P := P) (m := m) (k := 0) (j := 6) (bt := bt) hM e78 h43 hn rfl (by omega) hB4
  have b7 := ct_X12_bodyN (g := g) (B := B) (I := I4) (J := J) (P := P) (m := m) (k := 1) (j := 7) (bt := bt) hM e78 h43 hn rfl (by omega) hB4
  obtain ⟨I5, c5, u1, u2, u3, u4, u5⟩ := cx_X12_hush (g := g) (B := B) (I := I4) (J := J) (P := P) (m := m) (s := 2 * c + 1) (z := lb) (sb := 40 * (rt + 1)) (pk := nI (256 * bt 6 + bt 7)) hM (by omega) (by omega) (by omega)
  simp only [A4 (m + 15) (by omega) (by omega) (by omega) (by omega) (by omega), A4 (m + 16) (by omega) (by omega) (by omega) (by omega) (by omega), A4 (m + 17) (by omega) (by omega) (by omega) (by omega) (by omega), A4 (m + 54) (by omega) (by omega) (by omega) (by omega) (by omega)] at c5 u1 u2 u3 u4
  refine ⟨I5, _, lx_X12_pl0 (n := n) (F := F) (bt := bt) hM hc8 hR h43 hn (by omega) hF hB hvo hrt _ ?_, u1, u2, u3, u4, rfl, ?_, ?_, ?_, ?_, ?_, fun q h1 h2 h3 h4 h5 h6 h7 h8 h9 h10 => ?_⟩
  · rw [hI1]
    refine ev_if_neN 53 97 dX12_play_50 (by decide) (by omega) rfl (fun hx => absurd ((by omega)) hx) (fun hbr => ?_)
    refine ev_aload_n 54 dX12_play_53 rfl rfl ?_
    refine ev_getP 57 mm_cl12 (j := 49) (Nat.le_of_ble_eq_true rfl) dX12_play_54 lk1334 (fun _ _ _ => rfl) (hM.1 0 _ rfl) (a := (m + 43)) (hM.2.2 42 _ _ _ rfl) rfl ?_
    refine ev_iload_n 58 dX12_play_57 rfl rfl ?_
    refine ev_iconstN 59 1 dX12_play_58 rfl ?_
    refine ev_iast 60 _ dX12_play_59 (hM.1 43 _ rfl) rfl (by have hNN := hM.2.1 43 _ rfl; omega) rfl ?_
    rw [a1 (m + 43) (by omega), hI2]
    refine ev_aload_n 61 dX12_play_60 rfl rfl ?_
    refine ev_bipushN 63 41 dX12_play_61 (by decide +kernel) rfl ?_
    refine ev_invVv 66 (Mc := mX12_tell) ⟨lk1599, lk80, hdX12_tell, (Nat.le_of_ble_eq_true rfl), (Nat.le_of_ble_eq_true rfl)⟩ lk1596 lk1598 lk41 mm_cl12 rfl dX12_play_63 (mk) rfl (hM.1 0 _ rfl) (Nat.le_of_ble_eq_true rfl) rfl rfl ?_
    refine ev_aload_n 67 dX12_play_66 rfl rfl ?_
    refine ev_getP 70 mm_cl12 (j := 41) (Nat.le_of_ble_eq_true rfl) dX12_play_67 lk1326 (fun _ _ _ => rfl) (hM.1 0 _ rfl) (a := (m + 35)) (hM.2.2 34 _ _ _ rfl) rfl ?_
    refine ev_iload_n 71 dX12_play_70 rfl rfl ?_
    refine ev_iconstN 72 0 dX12_play_71 rfl ?_
    refine ev_iast 73 _ dX12_play_72 (hM.1 35 _ rfl) rfl (by have hNN := hM.2.1 35 _ rfl; omega) rfl ?_
    rw [hI4]
    refine ev_aload_n 74 dX12_play_73 rfl rfl ?_
    refine ev_iload_n 75 dX12_play_74 rfl rfl ?_
    refine ev_iload_n 76 dX12_play_75 rfl rfl ?_
    refine ev_sipushN 79 256 dX12_play_76 (by decide +kernel) rfl ?_
    refine ev_aload_n 80 dX12_play_79 rfl rfl ?_
    refine ev_iconstN 81 0 dX12_play_80 rfl ?_
    refine ev_invV 84 (Mc := mX12_body) ⟨lk1809, lk80, hdX12_body, (Nat.le_of_ble_eq_true rfl), (Nat.le_of_ble_eq_true rfl)⟩ lk1806 lk1808 lk69 mm_cl12 rfl dX12_play_81 (b6) rfl (hM.1 0 _ rfl) (Nat.le_of_ble_eq_true rfl) rfl rfl ?_
    refine ev_imulN 85 dX12_play_84 rfl ?_
    refine ev_aload_n 86 dX12_play_85 rfl rfl ?_
    refine ev_iconstN 87 1 dX12_play_86 rfl ?_
    refine ev_invV 90 (Mc := mX12_body) ⟨lk1809, lk80, hdX12_body, (Nat.le_of_ble_eq_true rfl), (Nat.le_of_ble_eq_true rfl)⟩ lk1806 lk1808 lk69 mm_cl12 rfl dX12_play_87 (b7) rfl (hM.1 0 _ rfl) (Nat.le_of_ble_eq_true rfl) rfl rfl ?_
    refine ev_iaddN 91 dX12_play_90 rfl ?_
    refine ev_iload 93 dX12_play_91 rfl rfl ?_
    refine ev_invVv 96 (Mc := mX12_hush) ⟨lk1618, lk80, hdX12_hush, (Nat.le_of_ble_eq_true rfl), (Nat.le_of_ble_eq_true rfl)⟩ lk1615 lk1617 lk44 mm_cl12 rfl dX12_play_93 (c5) rfl (hM.1 0 _ rfl) (Nat.le_of_ble_eq_true rfl) rfl rfl ?_
    exact ev_vret dX12_play_96 rfl (rfl)
  · rw [u5 _ (by omega) (by omega) (by omega) (by omega) (by omega), a4 _ (by omega), a3 _ (by omega) (by omega), a2 _ (by omega), ← hI1, va_up_s]
  · rw [u5 _ (by omega) (by omega) (by omega) (by omega) (by omega), a4 _ (by omega), a3 _ (by omega) (by omega), ← hI2, va_up_s]
  · rw [u5 _ (by omega) (by omega) (by omega) (by omega) (by omega), ← hI4, va_up_s, a3 _ (by omega) (by omega), a2 _ (by omega), a1 _ (by omega)]
  · rw [u5 _ (by omega) (by omega) (by omega) (by omega) (by omega), a4 _ (by omega), ← hI3, va_up_n _ _ (by omega), va_up_s, a2 _ (by omega), a1 _ (by omega)]
  · rw [u5 _ (by omega) (by omega) (by omega) (by omega) (by omega), a4 _ (by omega), ← hI3, va_up_s, a2 _ (by omega), a1 _ (by omega)]
  · rw [u5 q h1 h2 h3 h4 h5, A4 q h6 h7 h10 h9 h8]
theorem lp_X12_pli {c lb n R sb : Nat} {bt : Nat → Nat} {Z : mm_Z} (hM : lyM B P m) (hc8 : c < 8) (hR : I m 78 = nI R) (h43 : R < 4300) (hn : n ≤ 64) (hn6 : 34 ≤ n) (hB : ∀ k, k < n → ub (I (m + 33) (64 * R + k)) = bt k)
    (K : Ev g mX12_play 166 [some (.ref m), some (.int (nI c)), some (.int (nI lb)), some (.int (nI (2 * c + 1))), some (.int (nI sb)), none, none, none, none, none, none] [] B (va_up I (m + 17) (sgp (I (m + 17)) (8 * (2 * c + 1)) 8 (dcI bt))) J P Z) : ∀ (d j : Nat), j + d = 8 →
    Ev g mX12_play 113 [some (.ref m), some (.int (nI c)), some (.int (nI lb)), some (.int (nI (2 * c + 1))), some (.int (nI sb)), some (.int (nI j)), none, none, none, none, none] [] B (va_up I (m + 17) (sgp (I (m + 17)) (8 * (2 * c + 1)) j (dcI bt))) J P Z := by
  intro d
  induction d with
  | zero =>
    intro j hj
    obtain rfl : j = 8 := by omega
    refine ev_iload 115 dX12_play_113 rfl rfl ?_
    refine ev_bipushN 117 8 dX12_play_115 (by decide +kernel) rfl ?_
    refine ev_icmp_geN 120 166 dX12_play_117 (by decide) (by omega) (by omega) rfl (fun hbr => ?_) (fun hx => absurd ((by omega)) hx)
    refine ev_le (mle_s (mle_s (mle_s (mle_s (mle_s (mle_n (mle_n (mle_n (mle_n (mle_n (mle_n (mle_0)))))))))))) ?_
    exact K
  | succ d ih =>
    intro j hj
    have e := ih (j + 1) (by omega)
    rw [← sgp_grow (x := dcI bt j) rfl] at e
    have bj := ct_X12_bodyN (g := g) (B := B) (I := va_up I (m + 17) (sgp (I (m + 17)) (8 * (2 * c + 1)) j (dcI bt))) (J := J) (P := P) (m := m) (k := j) (j := 6 + j) (bt := bt) hM (by rw [va_up_n _ _ (by omega)]; exact hR) h43 hn rfl (by omega) (fun k hk => by rw [va_up_n _ _ (by omega)]; exact hB k hk)
    refine ev_iload 115 dX12_play_113 rfl rfl ?_
    refine ev_bipushN 117 8 dX12_play_115 (by decide +kernel) rfl ?_
    refine ev_icmp_geN 120 166 dX12_play_117 (by decide) (by omega) (by omega) rfl (fun hx => absurd hx ((by omega))) (fun hbr => ?_)
    refine ev_aload_n 121 dX12_play_120 rfl rfl ?_
    refine ev_iload 123 dX12_play_121 rfl rfl ?_
    refine ev_invV 126 (Mc := mX12_body) ⟨lk1809, lk80, hdX12_body, (Nat.le_of_ble_eq_true rfl), (Nat.le_of_ble_eq_true rfl)⟩ lk1806 lk1808 lk69 mm_cl12 rfl dX12_play_123 (bj) rfl (hM.1 0 _ rfl) (Nat.le_of_ble_eq_true rfl) rfl rfl ?_
    refine ev_bipushN 128 63 dX12_play_126 (by decide +kernel) rfl ?_
    refine ev_iand 129 dX12_play_128 rfl ?_
    refine ev_eqI (y := nI ((bt (6+j)%64))) ((nI_m63 _)) ?_
    refine ev_bipushN 131 32 dX12_play_129 (by decide +kernel) rfl ?_
    refine ev_isub 132 dX12_play_131 rfl ?_
    refine ev_istore 134 (lv' := [_, _, _, _, _, some (.int _), _, _, _, _, _]) dX12_play_132 (Nat.le_of_ble_eq_true rfl) rfl rfl ?_
    refine ev_aload_n 135 dX12_play_134 rfl rfl ?_
    refine ev_getP 138 mm_cl12 (j := 22) (Nat.le_of_ble_eq_true rfl) dX12_play_135 lk1307 (fun _ _ _ => rfl) (hM.1 0 _ rfl) (a := (m + 17)) (hM.2.2 16 _ _ _ rfl) rfl ?_
    refine ev_bipushN 140 8 dX12_play_138 (by decide +kernel) rfl ?_
    refine ev_iload_n 141 dX12_play_140 rfl rfl ?_
    refine ev_imulN 142 dX12_play_141 rfl ?_
    refine ev_iload 144 dX12_play_142 rfl rfl ?_
    refine ev_iaddN 145 dX12_play_144 rfl ?_
    refine ev_iload 147 dX12_play_145 rfl rfl ?_
    refine ev_bipush 149 (v := -31) dX12_play_147 (by decide +kernel) rfl ?_
    refine ev_icmp_ge 152 157 dX12_play_149 (by decide) rfl (fun hz => ?_) (fun hz => ?_)
    · rw [show dcI bt j = nI (bt (6 + j) % 64) - nI 32 by unfold dcI; rw [if_neg (Int32.not_lt.mpr hz)]] at e
      refine ev_iload 159 dX12_play_157 rfl rfl ?_
      refine ev_iast 160 _ dX12_play_159 (hM.1 17 _ rfl) rfl (by have hNN := hM.2.1 17 _ rfl; omega) rfl ?_
      refine ev_iincN 163 (lv' := [_, _, _, _, some (.int _), _, _, _, _, _, _]) 1 dX12_play_160 rfl (Nat.le_of_ble_eq_true rfl) rfl rfl ?_
      refine ev_goto 113 dX12_play_163 (by decide) ?_
      rw [va_up_s, bx_uu]
      refine ev_le (mle_s (mle_s (mle_s (mle_s (mle_s (mle_s (mle_n (mle_n (mle_n (mle_n (mle_n (mle_0)))))))))))) ?_
      exact e
    · rw [show dcI bt j = -31 by unfold dcI; rw [if_pos (Int32.not_le.mp hz)]] at e
      refine ev_bipush 154 (v := -31) dX12_play_152 (by decide +kernel) rfl ?_
      refine ev_goto 159 dX12_play_154 (by decide) ?_
      refine ev_iast 160 _ dX12_play_159 (hM.1 17 _ rfl) rfl (by have hNN := hM.2.1 17 _ rfl; omega) rfl ?_
      refine ev_iincN 163 (lv' := [_, _, _, _, some (.int _), _, _, _, _, _, _]) 1 dX12_play_160 rfl (Nat.le_of_ble_eq_true rfl) rfl rfl ?_
      refine ev_goto 113 dX12_play_163 (by decide) ?_
      rw [va_up_s, bx_uu]
      refine ev_le (mle_s (mle_s (mle_s (mle_s (mle_s (mle_s (mle_n (mle_n (mle_n (mle_n (mle_n (mle_0)))))))))))) ?_
      exact e
theorem lx_X12_plp {c lb n R sb : Nat} {bt : Nat → Nat} {I0 : mm_TI} {J0 : mm_TJ} {ix H0 V0 Y0 : Nat → Int32} (hM : lyM B P m) (hc8 : c < 8) (hR : I0 m 78 = nI R) (h43 : R < 4300) (hn : n ≤ 64) (hn6 : 34 ≤ n) (hs : sb = 40 ∨ sb = 80) (hB : ∀ k, k < n → ub (I0 (m + 33) (64 * R + k)) = bt k) (hix : sg (I0 (m + 17)) (8 * (2 * c + 1)) 8 = ix) (hHz : ∀ n, 160 ≤ n → H0 n = 0) (hVz : ∀ n, 8 ≤ n → V0 n = 0) : ∀ (d k : Nat), k + d = 4 → ∀ I : mm_TI,
    sg (I (m + 15)) (160 * (2 * c + 1)) 160 = gH (dcEs bt sb) sb H0 k → (∀ j, j < 160 * (2 * c + 1) ∨ 160 * (2 * c + 1) + 160 ≤ j → I (m + 15) j = I0 (m + 15) j) → sg (I (m + 16)) (8 * (2 * c + 1)) 8 = (gV ix (dcEs bt sb) (dcTs bt sb) sb H0 (V0, Y0, 0) k).1 → (∀ j, j < 8 * (2 * c + 1) ∨ 8 * (2 * c + 1) + 8 ≤ j → I (m + 16) j = I0 (m + 16) j) → I (m + 54) = (gV ix (dcEs bt sb) (dcTs bt sb) sb H0 (V0, Y0, 0) k).2.1 → (∀ q, q ≠ m + 15 → q ≠ m + 16 → q ≠ m + 18 → q ≠ m + 35 → q < m + 54 ∨ m + 58 < q → I q = I0 q) →
    (∀ j, j ≠ 2 * c + 1 → I (m + 18) j = I0 (m + 18) j) → (∀ j, j ≠ c → I (m + 35) j = I0 (m + 35) j) → (1 ≤ k → I (m + 18) (2 * c + 1) = nI (pcL bt (14 + 5 * (k - 1))) ∧ I (m + 35) c = nI (sp_gn (pcJ bt (14 + 5 * (k - 1))))) →
    ∃ I' : mm_TI, (sg (I' (m + 15)) (160 * (2 * c + 1)) 160 = gH (dcEs bt sb) sb H0 4 ∧ ∀ j, j < 160 * (2 * c + 1) ∨ 160 * (2 * c + 1) + 160 ≤ j → I' (m + 15) j = I0 (m + 15) j) ∧ (sg (I' (m + 16)) (8 * (2 * c + 1)) 8 = (gV ix (dcEs bt sb) (dcTs bt sb) sb H0 (V0, Y0, 0) 4).1 ∧ ∀ j, j < 8 * (2 * c + 1) ∨ 8 * (2 * c + 1) + 8 ≤ j → I' (m + 16) j = I0 (m + 16) j) ∧ I' (m + 54) = (gV ix (dcEs bt sb) (dcTs bt sb) sb H0 (V0, Y0, 0) 4).2.1 ∧ (∀ q, q ≠ m + 15 → q ≠ m + 16 → q ≠ m + 18 → q ≠ m + 35 → q < m + 54 ∨ m + 58 < q → I' q = I0 q) ∧
      (∀ j, j ≠ 2 * c + 1 → I' (m + 18) j = I0 (m + 18) j) ∧ (∀ j, j ≠ c → I' (m + 35) j = I0 (m + 35) j) ∧ I' (m + 18) (2 * c + 1) = nI (pcL bt 29) ∧ I' (m + 35) c = nI (sp_gn (pcJ bt 29)) ∧
      Ev g mX12_play 169 [some (.ref m), some (.int (nI c)), some (.int (nI lb)), some (.int (nI (2 * c + 1))), some (.int (nI sb)), some (.int (nI k)), none, none, none, none, none] [] B I (sp_up J0 m 2 (gV ix (dcEs bt sb) (dcTs bt sb) sb H0 (V0, Y0, 0) k).2.2) P (none, B, I', sp_up J0 m 2 (gV ix (dcEs bt sb) (dcTs bt sb) sb H0 (V0, Y0, 0) 4).2.2, P) := by
  intro d
  induction d with
  | zero =>
    intro k hk I h1 h1' h2 h2' h3 h4 h5 h6 h7
    obtain rfl : k = 4 := by omega
    refine ⟨I, ⟨h1, h1'⟩, ⟨h2, h2'⟩, h3, h4, h5, h6, (h7 (by omega)).1, (h7 (by omega)).2, ?_⟩
    refine ev_iload 171 dX12_play_169 rfl rfl ?_
    refine ev_iconstN 172 4 dX12_play_171 rfl ?_
    refine ev_icmp_geN 175 343 dX12_play_172 (by decide) (by omega) (by omega) rfl (fun hbr => ?_) (fun hx => absurd ((by omega)) hx)
    exact ev_vret dX12_play_343 rfl (rfl)
  | succ d ih =>
    intro k hk I h1 h1' h2 h2' h3 h4 h5 h6 h7
    have hsb : sb ≤ 80 := by omega
    have hsk : sb * k + sb ≤ 320 := by
      have := Nat.mul_le_mul_left sb (show k + 1 ≤ 4 by omega)
      rw [Nat.mul_add] at this; omega
    obtain ⟨b1, b2, b3, b4, b5, b6, b7⟩ := pc_b (bt := bt) (at_ := 14 + 5 * k) hs
    have dH : gH (dcEs bt sb) sb H0 (k + 1) = sp_sh (gH (dcEs bt sb) sb H0 k) (dcEs bt sb k (gH (dcEs bt sb) sb H0 k)) sb := rfl
    have dV : gV ix (dcEs bt sb) (dcTs bt sb) sb H0 (V0, Y0, 0) (k + 1) = ((sp_sq ix (dcEs bt sb k (gH (dcEs bt sb) sb H0 k)) (sb * k) ((gV ix (dcEs bt sb) (dcTs bt sb) sb H0 (V0, Y0, 0) k).1, (gV ix (dcEs bt sb) (dcTs bt sb) sb H0 (V0, Y0, 0) k).2.1, 0) sb).1, (sp_sq ix (dcEs bt sb k (gH (dcEs bt sb) sb H0 k)) (sb * k) ((gV ix (dcEs bt sb) (dcTs bt sb) sb H0 (V0, Y0, 0) k).1, (gV ix (dcEs bt sb) (dcTs bt sb) sb H0 (V0, Y0, 0) k).2.1, 0) sb).2.1, (gV ix (dcEs bt sb) (dcTs bt sb) sb H0 (V0, Y0, 0) k).2.2 + (dcTs bt sb k (gH (dcEs bt sb) sb H0 k) + (sp_sq ix (dcEs bt sb k (gH (dcEs bt sb) sb H0 k)) (sb * k) ((gV ix (dcEs bt sb) (dcTs bt sb) sb H0 (V0, Y0, 0) k).1, (gV ix (dcEs bt sb) (dcTs bt sb) sb H0 (V0, Y0, 0) k).2.1, 0) sb).2.2)) := rfl
    have z1 := gH_z (Es := dcEs bt sb) (sb := sb) hHz (k + 1)
    have z2 := gV_z (ix := ix) (Es := dcEs bt sb) (Ts := dcTs bt sb) (sb := sb) (H0 := H0) (Y := Y0) (t := 0) hVz (k + 1)
    generalize hg2 : gV ix (dcEs bt sb) (dcTs bt sb) sb H0 (V0, Y0, 0) (k + 1) = VV1 at *
    generalize hg1 : gH (dcEs bt sb) sb H0 (k + 1) = H1 at *
    generalize gH (dcEs bt sb) sb H0 k = H at *
    generalize gV ix (dcEs bt sb) (dcTs bt sb) sb H0 (V0, Y0, 0) k = VV at *
    have bd := fun (i : Nat) (hi : i < 5) => ct_X12_bodyN (g := g) (B := B) (I := I) (J := sp_up J0 m 2 VV.2.2) (P := P) (m := m) (k := 8 + 5 * k + i) (j := 14 + 5 * k + i) (bt := bt) hM (by rw [h4 _ (by omega) (by omega) (by omega) (by omega) (by omega)]; exact hR) h43 hn (by omega) (by omega) (fun k hk => by rw [h4 _ (by omega) (by omega) (by omega) (by omega) (by omega)]; exact hB k hk)
    have hbt : ∀ i, i < 5 → bt (14 + 5 * k + i) < 256 := fun i hi => by rw [← hB _ (show 14 + 5 * k + i < n by omega)]; exact ub_l _
    have hb2 := hbt 2 (by omega)
    have hb3 := hbt 3 (by omega)
    obtain ⟨I2, c2, y1, y2, y3, y4⟩ := cx_X12_excited (g := g) (B := B) (I := I) (J := sp_up J0 m 2 VV.2.2) (P := P) (m := m) (s := 2 * c + 1) (fr := sb * k) (sb := sb) (L := pcL bt (14 + 5 * k)) (ev := pcE bt (14 + 5 * k) sb) (es := pcS bt (14 + 5 * k)) (od := pcO bt (14 + 5 * k) sb) (os := pcT bt (14 + 5 * k)) (j := pcJ bt (14 + 5 * k)) (p := nI (pcP bt (14 + 5 * k))) hM (by omega) hsb (by omega) b1 b2 b7 b3 b4 (by omega) (by omega)
    simp only [h1, h2, h3, h4 (m + 17) (by omega) (by omega) (by omega) (by omega) (by omega), hix, sp_up_up] at c2 y1 y2 y3
    rw [show sp_eE (nI (pcP bt (14 + 5 * k))) (nI (sp_gn (pcJ bt (14 + 5 * k)))) (sp_beh H (pcL bt (14 + 5 * k))) (sp_pv sb (pcE bt (14 + 5 * k) sb) (pcS bt (14 + 5 * k)) (pcO bt (14 + 5 * k) sb) (pcT bt (14 + 5 * k))) = dcEs bt sb k H from rfl] at c2 y1 y2 y3
    rw [show sp_eT (nI (pcP bt (14 + 5 * k))) (nI (sp_gn (pcJ bt (14 + 5 * k)))) (sp_beh H (pcL bt (14 + 5 * k))) (sp_pv sb (pcE bt (14 + 5 * k) sb) (pcS bt (14 + 5 * k)) (pcO bt (14 + 5 * k) sb) (pcT bt (14 + 5 * k))) sb = dcTs bt sb k H from rfl, show VV.2.2 + (dcTs bt sb k H + (sp_sq ix (dcEs bt sb k H) (sb * k) (VV.1, VV.2.1, 0) sb).2.2) = VV1.2.2 by rw [dV]] at c2
    have e18 : I2 (m + 18) = I (m + 18) := y4 _ (by omega) (by omega) (by omega) (by omega) (by omega) (by omega)
    have e35 : I2 (m + 35) = I (m + 35) := y4 _ (by omega) (by omega) (by omega) (by omega) (by omega) (by omega)
    generalize hI3 : va_up I2 (m + 18) (va_up (I (m + 18)) (2 * c + 1) (nI (pcL bt (14 + 5 * k)))) = I3
    have a3 : ∀ q, q ≠ m + 18 → I3 q = I2 q := fun q h => by rw [← hI3, va_up_n _ _ h]
    generalize hI4 : va_up I3 (m + 35) (va_up (I (m + 35)) c (nI (sp_gn (pcJ bt (14 + 5 * k))))) = I4
    have a4 : ∀ q, q ≠ m + 35 → I4 q = I3 q := fun q h => by rw [← hI4, va_up_n _ _ h]
    have A4 : ∀ q, q ≠ m + 15 → q ≠ m + 16 → q ≠ m + 18 → q ≠ m + 35 → q < m + 54 ∨ m + 58 < q → I4 q = I0 q := fun q g1 g2 g3 g4 g5 => by rw [a4 q g4, a3 q g3, y4 q g1 g2 (by omega) (by omega) (by omega) (by omega)]; exact h4 q g1 g2 g3 g4 g5
    obtain ⟨I', p1, p2, p3, p4, p5, p6, p7, p8, p9⟩ := ih (k + 1) (by omega) I4 (by rw [hg1, a4 _ (by omega), a3 _ (by omega), y1, sg_sgp (by rw [← dH]; exact z1), dH]) (fun j hj => by rw [a4 _ (by omega), a3 _ (by omega), y1, sgp_out hj]; exact h1' j hj) (by rw [hg2, a4 _ (by omega), a3 _ (by omega), y2, sg_sgp (by intro n hn; have := z2 n hn; rw [dV] at this; exact this), dV]) (fun j hj => by rw [a4 _ (by omega), a3 _ (by omega), y2, sgp_out hj]; exact h2' j hj) (by rw [hg2, a4 _ (by omega), a3 _ (by omega), y3, dV]) A4
      (fun j hj => by rw [a4 _ (by omega), ← hI3, va_up_s, va_up_n _ _ hj]; exact h5 j hj) (fun j hj => by rw [← hI4, va_up_s, va_up_n _ _ hj]; exact h6 j hj) (fun _ => ⟨by rw [a4 _ (by omega), ← hI3, va_up_s, va_up_s]; rfl, by rw [← hI4, va_up_s, va_up_s]; rfl⟩)
    rw [hg2] at p9
    refine ⟨I', p1, p2, p3, p4, p5, p6, p7, p8, ?_⟩
    have k265 : Ev g mX12_play 267 [some (.ref m), some (.int (nI c)), some (.int (nI lb)), some (.int (nI (2 * c + 1))), some (.int (nI sb)), some (.int (nI k)), some (.int (nI (8 + 5 * k))), some (.int (nI (pcL bt (14 + 5 * k)))), some (.int (nI (pcE bt (14 + 5 * k) sb))), some (.int (nI (pcO bt (14 + 5 * k) sb))), some (.int (nI (pcJ bt (14 + 5 * k))))] [] B I (sp_up J0 m 2 VV.2.2) P (none, B, I', sp_up J0 m 2 (gV ix (dcEs bt sb) (dcTs bt sb) sb H0 (V0, Y0, 0) 4).2.2, P) := by
      refine ev_aload_n 268 dX12_play_267 rfl rfl ?_
      refine ev_iload_n 269 dX12_play_268 rfl rfl ?_
      refine ev_iload 271 dX12_play_269 rfl rfl ?_
      refine ev_iload 273 dX12_play_271 rfl rfl ?_
      refine ev_imulN 274 dX12_play_273 rfl ?_
      refine ev_iload 276 dX12_play_274 rfl rfl ?_
      refine ev_iload 278 dX12_play_276 rfl rfl ?_
      refine ev_aload_n 279 dX12_play_278 rfl rfl ?_
      refine ev_iload 281 dX12_play_279 rfl rfl ?_
      refine ev_iconstN 282 1 dX12_play_281 rfl ?_
      refine ev_iaddN 283 dX12_play_282 rfl ?_
      refine ev_invV 286 (Mc := mX12_body) ⟨lk1809, lk80, hdX12_body, (Nat.le_of_ble_eq_true rfl), (Nat.le_of_ble_eq_true rfl)⟩ lk1806 lk1808 lk69 mm_cl12 rfl dX12_play_283 (bd 1 (by omega)) rfl (hM.1 0 _ rfl) (Nat.le_of_ble_eq_true rfl) rfl rfl ?_
      refine ev_bipushN 288 7 dX12_play_286 (by decide +kernel) rfl ?_
      refine ev_iand 289 dX12_play_288 rfl ?_
      refine ev_eqI (y := nI ((pcP bt (14+5*k)))) ((nI_m7 _)) ?_
      refine ev_iload 291 dX12_play_289 rfl rfl ?_
      refine ev_aload_n 292 dX12_play_291 rfl rfl ?_
      refine ev_iload 294 dX12_play_292 rfl rfl ?_
      refine ev_iconstN 295 2 dX12_play_294 rfl ?_
      refine ev_iaddN 296 dX12_play_295 rfl ?_
      refine ev_invV 299 (Mc := mX12_body) ⟨lk1809, lk80, hdX12_body, (Nat.le_of_ble_eq_true rfl), (Nat.le_of_ble_eq_true rfl)⟩ lk1806 lk1808 lk69 mm_cl12 rfl dX12_play_296 (bd 2 (by omega)) rfl (hM.1 0 _ rfl) (Nat.le_of_ble_eq_true rfl) rfl rfl ?_
      refine ev_iconstN 300 1 dX12_play_299 rfl ?_
      refine ev_iand 301 dX12_play_300 rfl ?_
      refine ev_eqI (y := nI ((pcS bt (14+5*k)))) ((nI_m1' _)) ?_
      refine ev_iload 303 dX12_play_301 rfl rfl ?_
      refine ev_aload_n 304 dX12_play_303 rfl rfl ?_
      refine ev_iload 306 dX12_play_304 rfl rfl ?_
      refine ev_iconstN 307 3 dX12_play_306 rfl ?_
      refine ev_iaddN 308 dX12_play_307 rfl ?_
      refine ev_invV12 311 (Mc := mX12_body) ⟨lk1809, lk80, hdX12_body, (Nat.le_of_ble_eq_true rfl), (Nat.le_of_ble_eq_true rfl)⟩ lk1806 lk1808 lk69 mm_cl12 rfl dX12_play_308 (bd 3 (by omega)) rfl (hM.1 0 _ rfl) (Nat.le_of_ble_eq_true rfl) rfl rfl ?_
      refine ev_iconstN 312 1 dX12_play_311 rfl ?_
      refine ev_iand 313 dX12_play_312 rfl ?_
      refine ev_eqI (y := nI ((pcT bt (14+5*k)))) ((nI_m1' _)) ?_
      refine ev_iload 315 dX12_play_313 rfl rfl ?_
      refine ev_invVv 318 (Mc := mX12_excited) ⟨lk1690, lk80, hdX12_excited, (Nat.le_of_ble_eq_true rfl), (Nat.le_of_ble_eq_true rfl)⟩ lk1687 lk1689 lk57 mm_cl12 rfl dX12_play_315 (c2) rfl (hM.1 0 _ rfl) (Nat.le_of_ble_eq_true rfl) rfl rfl ?_
      refine ev_aload_n 319 dX12_play_318 rfl rfl ?_
      refine ev_getP 322 mm_cl12 (j := 23) (Nat.le_of_ble_eq_true rfl) dX12_play_319 lk1308 (fun _ _ _ => rfl) (hM.1 0 _ rfl) (a := (m + 18)) (hM.2.2 17 _ _ _ rfl) rfl ?_
      refine ev_iload_n 323 dX12_play_322 rfl rfl ?_
      refine ev_iload 325 dX12_play_323 rfl rfl ?_
      refine ev_iast 326 _ dX12_play_325 (hM.1 18 _ rfl) rfl (by have hNN := hM.2.1 18 _ rfl; omega) rfl ?_
      rw [e18, hI3]
      refine ev_aload_n 327 dX12_play_326 rfl rfl ?_
      refine ev_getP 330 mm_cl12 (j := 41) (Nat.le_of_ble_eq_true rfl) dX12_play_327 lk1326 (fun _ _ _ => rfl) (hM.1 0 _ rfl) (a := (m + 35)) (hM.2.2 34 _ _ _ rfl) rfl ?_
      refine ev_iload_n 331 dX12_play_330 rfl rfl ?_
      refine ev_iload 333 dX12_play_331 rfl rfl ?_
      refine ev_invS 336 (Mc := mX12_gain) ⟨lk1685, lk80, hdX12_gain, (Nat.le_of_ble_eq_true rfl), (Nat.le_of_ble_eq_true rfl)⟩ lk1683 lk1684 dX12_play_333 (ct_X12_gain b7) rfl (Nat.le_of_ble_eq_true rfl) rfl rfl ?_
      refine ev_iast 337 _ dX12_play_336 (hM.1 35 _ rfl) rfl (by have hNN := hM.2.1 35 _ rfl; omega) rfl ?_
      rw [a3 (m + 35) (by omega), e35, hI4]
      refine ev_iincN 340 (lv' := [_, _, _, _, some (.int _), _, _, _, _, _, _]) 1 dX12_play_337 rfl (Nat.le_of_ble_eq_true rfl) rfl rfl ?_
      refine ev_goto 169 dX12_play_340 (by decide) ?_
      refine ev_le (mle_s (mle_s (mle_s (mle_s (mle_s (mle_s (mle_n (mle_n (mle_n (mle_n (mle_n (mle_0)))))))))))) ?_
      exact p9
    refine ev_iload 171 dX12_play_169 rfl rfl ?_
    refine ev_iconstN 172 4 dX12_play_171 rfl ?_
    refine ev_icmp_geN 175 343 dX12_play_172 (by decide) (by omega) (by omega) rfl (fun hx => absurd hx ((by omega))) (fun hbr => ?_)
    refine ev_bipushN 177 8 dX12_play_175 (by decide +kernel) rfl ?_
    refine ev_iconstN 178 5 dX12_play_177 rfl ?_
    refine ev_iload 180 dX12_play_178 rfl rfl ?_
    refine ev_imulN 181 dX12_play_180 rfl ?_
    refine ev_iaddN 182 dX12_play_181 rfl ?_
    refine ev_istore 184 (lv' := [_, _, _, _, _, some (.int _), _, _, _, _, _]) dX12_play_182 (Nat.le_of_ble_eq_true rfl) rfl rfl ?_
    refine ev_bipushN 186 20 dX12_play_184 (by decide +kernel) rfl ?_
    refine ev_aload_n 187 dX12_play_186 rfl rfl ?_
    refine ev_iload 189 dX12_play_187 rfl rfl ?_
    refine ev_invV 192 (Mc := mX12_body) ⟨lk1809, lk80, hdX12_body, (Nat.le_of_ble_eq_true rfl), (Nat.le_of_ble_eq_true rfl)⟩ lk1806 lk1808 lk69 mm_cl12 rfl dX12_play_189 (bd 0 (by omega)) rfl (hM.1 0 _ rfl) (Nat.le_of_ble_eq_true rfl) rfl rfl ?_
    refine ev_bipushN 194 127 dX12_play_192 (by decide +kernel) rfl ?_
    refine ev_iand 195 dX12_play_194 rfl ?_
    refine ev_eqI (y := nI ((bt (14+5*k+0)%128))) ((nI_m127 _)) ?_
    refine ev_iaddN 196 dX12_play_195 rfl ?_
    refine ev_istore 198 (lv' := [_, _, _, _, _, _, some (.int _), _, _, _, _]) dX12_play_196 (Nat.le_of_ble_eq_true rfl) rfl rfl ?_
    refine ev_iconstN 199 2 dX12_play_198 rfl ?_
    refine ev_aload_n 200 dX12_play_199 rfl rfl ?_
    refine ev_iload 202 dX12_play_200 rfl rfl ?_
    refine ev_iconstN 203 2 dX12_play_202 rfl ?_
    refine ev_iaddN 204 dX12_play_203 rfl ?_
    refine ev_invV 207 (Mc := mX12_body) ⟨lk1809, lk80, hdX12_body, (Nat.le_of_ble_eq_true rfl), (Nat.le_of_ble_eq_true rfl)⟩ lk1806 lk1808 lk69 mm_cl12 rfl dX12_play_204 (bd 2 (by omega)) rfl (hM.1 0 _ rfl) (Nat.le_of_ble_eq_true rfl) rfl rfl ?_
    refine ev_iconstN 208 2 dX12_play_207 rfl ?_
    refine ev_idivN 209 dX12_play_208 (by omega) (by omega) (by omega) rfl ?_
    refine ev_iload 211 dX12_play_209 rfl rfl ?_
    refine ev_iconstN 212 2 dX12_play_211 rfl ?_
    refine ev_idivN 213 dX12_play_212 (by omega) (by omega) (by omega) rfl ?_
    refine ev_iremN 214 dX12_play_213 (by omega) (by omega) (by omega) rfl ?_
    refine ev_imulN 215 dX12_play_214 rfl ?_
    refine ev_istore 217 (lv' := [_, _, _, _, _, _, _, some (.int _), _, _, _]) dX12_play_215 (Nat.le_of_ble_eq_true rfl) rfl rfl ?_
    refine ev_iconstN 218 2 dX12_play_217 rfl ?_
    refine ev_aload_n 219 dX12_play_218 rfl rfl ?_
    refine ev_iload 221 dX12_play_219 rfl rfl ?_
    refine ev_iconstN 222 3 dX12_play_221 rfl ?_
    refine ev_iaddN 223 dX12_play_222 rfl ?_
    refine ev_invV 226 (Mc := mX12_body) ⟨lk1809, lk80, hdX12_body, (Nat.le_of_ble_eq_true rfl), (Nat.le_of_ble_eq_true rfl)⟩ lk1806 lk1808 lk69 mm_cl12 rfl dX12_play_223 (bd 3 (by omega)) rfl (hM.1 0 _ rfl) (Nat.le_of_ble_eq_true rfl) rfl rfl ?_
    refine ev_iconstN 227 2 dX12_play_226 rfl ?_
    refine ev_idivN 228 dX12_play_227 (by omega) (by omega) (by omega) rfl ?_
    refine ev_iload 230 dX12_play_228 rfl rfl ?_
    refine ev_iconstN 231 2 dX12_play_230 rfl ?_
    refine ev_idivN 232 dX12_play_231 (by omega) (by omega) (by omega) rfl ?_
    refine ev_iremN 233 dX12_play_232 (by omega) (by omega) (by omega) rfl ?_
    refine ev_imulN 234 dX12_play_233 rfl ?_
    refine ev_iconstN 235 1 dX12_play_234 rfl ?_
    refine ev_iaddN 236 dX12_play_235 rfl ?_
    refine ev_istore 238 (lv' := [_, _, _, _, _, _, _, _, some (.int _), _, _]) dX12_play_236 (Nat.le_of_ble_eq_true rfl) rfl rfl ?_
    refine ev_aload_n 239 dX12_play_238 rfl rfl ?_
    refine ev_iload 241 dX12_play_239 rfl rfl ?_
    refine ev_iconstN 242 4 dX12_play_241 rfl ?_
    refine ev_iaddN 243 dX12_play_242 rfl ?_
    refine ev_invV 246 (Mc := mX12_body) ⟨lk1809, lk80, hdX12_body, (Nat.le_of_ble_eq_true rfl), (Nat.le_of_ble_eq_true rfl)⟩ lk1806 lk1808 lk69 mm_cl12 rfl dX12_play_243 (bd 4 (by omega)) rfl (hM.1 0 _ rfl) (Nat.le_of_ble_eq_true rfl) rfl rfl ?_
    refine ev_bipushN 248 63 dX12_play_246 (by decide +kernel) rfl ?_
    refine ev_iand 249 dX12_play_248 rfl ?_
    refine ev_eqI (y := nI ((bt (14+5*k+4)%64))) ((nI_m63 _)) ?_
    refine ev_istore 251 (lv' := [_, _, _, _, _, _, _, _, _, some (.int _), _]) dX12_play_249 (Nat.le_of_ble_eq_true rfl) rfl rfl ?_
    refine ev_iload 253 dX12_play_251 rfl rfl ?_
    refine ev_bipushN 255 51 dX12_play_253 (by decide +kernel) rfl ?_
    refine ev_icmp_leN 258 263 dX12_play_255 (by decide) (by omega) (by omega) rfl (fun hz => ?_) (fun hz => ?_)
    · rw [show pcJ bt (14 + 5 * k) = bt (14 + 5 * k + 4) % 64 by unfold pcJ; omega] at k265
      refine ev_iload 265 dX12_play_263 rfl rfl ?_
      refine ev_istore 267 (lv' := [_, _, _, _, _, _, _, _, _, some (.int _), _]) dX12_play_265 (Nat.le_of_ble_eq_true rfl) rfl rfl ?_
      exact k265
    · rw [show pcJ bt (14 + 5 * k) = 51 by unfold pcJ; omega] at k265
      refine ev_bipushN 260 51 dX12_play_258 (by decide +kernel) rfl ?_
      refine ev_goto 265 dX12_play_260 (by decide) ?_
      refine ev_istore 267 (lv' := [_, _, _, _, _, _, _, _, _, some (.int _), _]) dX12_play_265 (Nat.le_of_ble_eq_true rfl) rfl rfl ?_
      exact k265
end MPL
