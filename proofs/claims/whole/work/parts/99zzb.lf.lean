/-! THE LAW: a call behind which a row that is only read is known to be as it was -/
section LF0
variable {g : mm_G} {M Mc : mm_M} {pc idx n : Nat} {lv lv' : mm_L} {st rest As : List Value} {B B1 : mm_B} {I I1 : mm_TI} {J J1 : mm_TJ} {P P1 : mm_TP} {Z Zc : mm_Z} {v : Value}
theorem mm_backF {p : Program} {l : Launch} {e : Env} {R : Room} {s : State} {m : MethodId} {args a : Array Value} {below : List Frame} {meth : Method} {c : Code} {H : Heap} {locs : List Loc} {ls : Array Slot} {n0 s0 b : Nat} {st0 : List Value} (hb : b < g.1) (tb : mm_T B b = 1) (tb1 : mm_T Zc.2.1 b = 1) (hR : mm_R g B I J P s H)
    (hm : mm_nx B ≤ mm_nx Zc.2.1 ∧ mm_sl B ≤ mm_sl Zc.2.1) (hle : mm_nx Zc.2.1 ≤ mm_nx Z.2.1 ∧ mm_sl Zc.2.1 ≤ mm_sl Z.2.1) (h : (∀ j, j < mm_N B b → j < mm_N Zc.2.1 b → Zc.2.2.1 b j = I b j) → Ev g M (pc + 3) lv (Zc.1.toList ++ rest) Zc.2.1 Zc.2.2.1 Zc.2.2.2.1 Zc.2.2.2.2 Z) (hX : mm_X g M p R s m args meth c) (hn : n0 ≤ mm_nx B ∧ s0 ≤ mm_sl B ∧ mm_nx Z.2.1 ≤ n0 + R.cells ∧ mm_sl Z.2.1 ≤ s0 + R.slots) (hS : va_S (fun q => g.1 ≤ q) s.heap H locs) (hl : lv_has ls M.2.2.1 (mm_ps 0 lv))
    (hr : va_Run p l e R s m args below meth c H locs (mm_nx B - n0) (mm_sl B - s0) (mm_nx Zc.2.1 - mm_nx B) (mm_sl Zc.2.1 - mm_sl B) (F0 m pc ls st0) rest (mm_Q g Zc a) (fun q => g.1 ≤ q)) :
    W p l e R s m args below meth c H locs (mm_nx B - n0) (mm_sl B - s0) (MQ below (mm_Q g Z) args s (mm_nx Z.2.1 - n0) (mm_sl Z.2.1 - s0) (fun q => g.1 ≤ q)) (F0 m pc ls st0) := by
  intro T hT X
  obtain ⟨v, st₀, t, T', L, h0, X', hL, e1, e2, ⟨hv, hRt, hF⟩, stp⟩ := hr T hT X
  have hv : v = Zc.1 := Outcome.returned.inj hv
  subst hv
  obtain ⟨hz, hk⟩ := hF
  rw [h0] at hz hk
  have c1 : mm_nx B - n0 + (mm_nx Zc.2.1 - mm_nx B) = mm_nx Zc.2.1 - n0 := by have := hn.1; have := hm.1; omega
  have c2 : mm_sl B - s0 + (mm_sl Zc.2.1 - mm_sl B) = mm_sl Zc.2.1 - s0 := by have := hn.2.1; have := hm.2; omega
  rw [c1, c2] at X'
  have hal : t.vm.Alike s.vm := by rw [← e2]; exact X'.warmed.alike.symm
  have hrow : ∀ j, j < mm_N B b → j < mm_N Zc.2.1 b → Zc.2.2.1 b j = I b j := fun j j1 j2 => by
    obtain ⟨⟨q1, -⟩, -, k1, -⟩ := hR.2 b (by omega)
    obtain ⟨-, -, k2, -⟩ := hRt.2 b (by omega)
    obtain ⟨cell, u1, -, -, -, -, u2⟩ := k1 tb
    obtain ⟨cell', w1, -, -, -, -, w2⟩ := k2 tb1
    rw [hk b (by rw [hR.1]; exact q1) (by omega), u1] at w1
    have ec : cell = cell' := Option.some.inj w1
    subst ec
    have e3 := w2 j j2
    rw [u2 j j1] at e3
    injection e3 with e4
    injection e4 with e5
    exact e5.symm
  obtain ⟨t2, a1, b1⟩ := (h hrow).2 p l e R s m args below meth c T'.heap (locs ++ L) ls n0 s0 hX ⟨Nat.le_trans hn.1 hm.1, Nat.le_trans hn.2.1 hm.2, hn.2.2⟩ (by rw [e1]; exact mm_R_moved hal hRt)
    ⟨Nat.le_trans hS.1 (by rw [e1]; exact hz), fun q h1 h2 => by rw [e1, hk q (Nat.lt_of_lt_of_le h1 hS.1) h2]; exact hS.2.1 q h1 h2, fun q hq => by
      rcases List.mem_append.mp hq with h | h
      · exact hS.2.2 q h
      · exact hL q h⟩ hl T' rfl X'
  exact ⟨t2, stp t2 a1, b1⟩
theorem ev_invVF (pc' : Nat) {ci o b : Nat} {C : String} {T : u_T} {N : Nat} (hc : mm_CB M Mc n) (hlk : Cond.methodLink M.1.cls idx Mc.1 ∈ lw_all) (hi : Cond.instanceMethod Mc.1 ∈ lw_all) (hse : Cond.selects C Mc.1 Mc.1 ∈ lw_all) (hcl : mm_Cl ci C T N) (hC : Mc.1.cls = C) (hd : decode M.2.1 pc = .ok (.invokevirtual idx, 3)) (hk : Ct g Mc (.ref o :: As) B I J P (some v, B1, I1, J1, P1)) (hst : st = As.reverse ++ .ref o :: rest) (ht : mm_T B o = 100 + ci) (hw : (rest.map fun v => v.category).sum ≤ 8) (hlen : As.length = n) (hp : pc + 3 = pc') (hb : b < g.1) (tb : mm_T B b = 1) (tb1 : mm_T B1 b = 1) (hle : mm_nx B1 ≤ mm_nx Z.2.1 ∧ mm_sl B1 ≤ mm_sl Z.2.1)
    (h : (∀ j, j < mm_N B b → j < mm_N B1 b → I1 b j = I b j) → Ev g M pc' lv (v :: rest) B1 I1 J1 P1 Z) : Ev g M pc lv st B I J P Z := by
  subst hp
  subst hst
  have hm : mm_nx B ≤ mm_nx B1 ∧ mm_sl B ≤ mm_sl B1 := hk.1
  refine ⟨⟨Nat.le_trans hm.1 hle.1, Nat.le_trans hm.2 hle.2⟩, fun p l e R s m args below meth c H locs ls n0 s0 hX hn hR hS hl => ?_⟩
  exact mm_backF hb tb tb1 hR hm hle h hX hn hS hl (va_runV (C := C) (b := o) ⟨hX.1, hX.2.1, hX.2.2.1, hX.2.2.2.2.2.1, hX.2.2.2.2.2.2.2.1⟩ (hk.2 l) ⟨mm_cb hc hlk hX, hX.2.2.2.2.2.2.2.1 _ hi, hX.2.2.2.2.2.2.2.1 _ hse⟩ ⟨mm_blind, mm_recv hcl hX.2.2.2.2.2.2.2.2.1 hR ht, mm_pre (As := .ref o :: As) hX.2.2.2.2.2.2.2.2.1 hX.2.2.2.2.2.2.2.2.2.2.2 hR hS⟩ rfl hlen hl.1 rfl (by show 2 * 0 + _ ≤ 8; omega) hd ⟨by show mm_nx B - n0 + (mm_nx B1 - mm_nx B) ≤ R.cells; have := hm.1; have := hle.1; have := hn.2.2.1; omega, by show mm_sl B - s0 + (mm_sl B1 - mm_sl B) ≤ R.slots; have := hm.2; have := hle.2; have := hn.2.2.2; omega⟩)
end LF0
