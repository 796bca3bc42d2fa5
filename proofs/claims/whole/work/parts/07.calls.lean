section EVC
variable {g : mm_G} {M Mc : mm_M} {pc idx n : Nat} {lv lv' : mm_L} {st rest As : List Value} {B B1 : mm_B} {I I1 : mm_TI} {J J1 : mm_TJ} {P P1 : mm_TP} {Z Zc : mm_Z} {v : Value}
abbrev mm_pc (g : mm_G) (As : List Value) (B : mm_B) (I : mm_TI) (J : mm_TJ) (P : mm_TP) : Array Value → State → Prop := va_Pc As (fun U => mm_K g U U.heap ∧ g.1 ≤ U.heap.size ∧ mm_R g B I J P U U.heap)
theorem mm_blind : FrameBlind (mm_pc g As B I J P) := fun a U f mk q => by
  obtain ⟨e, k1, k2, k3⟩ := q
  exact ⟨e, mm_K_call k1, k2, mm_R_moved (u := U) (U := U.calling f mk a) (Vm.Alike.refl U.vm) k3⟩
theorem mm_pre {s : State} {H : Heap} {locs : List Loc} (hK : mm_K g s s.heap) (hlo : g.1 ≤ s.heap.size) (hR : mm_R g B I J P s H) (hS : va_S (fun q => g.1 ≤ q) s.heap H locs) : ∀ U : State, U.heap = H → s.WarmedH U.vm → mm_pc g As B I J P As.toArray U := fun U hU hW =>
  ⟨rfl, by rw [hU]; exact mm_K_warm hW hS.2.1 hK, by rw [hU]; exact Nat.le_trans hlo hS.1, by rw [hU]; exact mm_R_moved hW.alike hR⟩
/-- behind a call -/
theorem mm_back {p : Program} {l : Launch} {e : Env} {R : Room} {s : State} {m : MethodId} {args a : Array Value} {below : List Frame} {meth : Method} {c : Code} {H : Heap} {locs : List Loc} {ls : Array Slot} {n0 s0 : Nat} {st0 : List Value}
    (hm : mm_nx B ≤ mm_nx Zc.2.1 ∧ mm_sl B ≤ mm_sl Zc.2.1) (h : Ev g M (pc + 3) lv (Zc.1.toList ++ rest) Zc.2.1 Zc.2.2.1 Zc.2.2.2.1 Zc.2.2.2.2 Z) (hX : mm_X g M p R s m args meth c) (hn : n0 ≤ mm_nx B ∧ s0 ≤ mm_sl B ∧ mm_nx Z.2.1 ≤ n0 + R.cells ∧ mm_sl Z.2.1 ≤ s0 + R.slots) (hS : va_S (fun q => g.1 ≤ q) s.heap H locs) (hl : lv_has ls M.2.2.1 (mm_ps 0 lv))
    (hr : va_Run p l e R s m args below meth c H locs (mm_nx B - n0) (mm_sl B - s0) (mm_nx Zc.2.1 - mm_nx B) (mm_sl Zc.2.1 - mm_sl B) (F0 m pc ls st0) rest (mm_Q g Zc a) (fun q => g.1 ≤ q)) :
    W p l e R s m args below meth c H locs (mm_nx B - n0) (mm_sl B - s0) (MQ below (mm_Q g Z) args s (mm_nx Z.2.1 - n0) (mm_sl Z.2.1 - s0) (fun q => g.1 ≤ q)) (F0 m pc ls st0) := by
  intro T hT X
  obtain ⟨v, st₀, t, T', L, h0, X', hL, e1, e2, ⟨hv, hRt, hF⟩, stp⟩ := hr T hT X
  have hv : v = Zc.1 := Outcome.returned.inj hv
  subst hv
  obtain ⟨hz, hk⟩ := hF
  rw [h0] at hz hk
  have c1 : mm_nx B - n0 + (mm_nx Zc.2.1 - mm_nx B) = mm_nx Zc.2.1 - n0 := by have := hn.1; have := hm.1; omega
  have c2 : mm_sl B - s0 + (mm_sl Zc.2.1 - mm_sl B) = mm_sl Zc.2.1 - s0 := by have := hn.2.1; have := hm.2; omega
  rw [c1, c2] at X'
  have hal : t.vm.Alike s.vm := by rw [← e2]; exact X'.warmed.alike.symm
  obtain ⟨t2, a1, b1⟩ := h.2 p l e R s m args below meth c T'.heap (locs ++ L) ls n0 s0 hX ⟨Nat.le_trans hn.1 hm.1, Nat.le_trans hn.2.1 hm.2, hn.2.2⟩ (by rw [e1]; exact mm_R_moved hal hRt)
    ⟨Nat.le_trans hS.1 (by rw [e1]; exact hz), fun q h1 h2 => by rw [e1, hk q (Nat.lt_of_lt_of_le h1 hS.1) h2]; exact hS.2.1 q h1 h2, fun q hq => by
      rcases List.mem_append.mp hq with h | h
      · exact hS.2.2 q h
      · exact hL q h⟩ hl T' rfl X'
  exact ⟨t2, stp t2 a1, b1⟩
/-- what a caller needs of a callee's tables -/
def mm_CB (M Mc : mm_M) (n : Nat) : Prop := Cond.code Mc.1 Mc.2.1 Mc.2.2.1 Mc.2.2.2.1 ∈ lw_all ∧ Cond.initialized Mc.1.cls ∈ lw_all ∧ (Mc.1.cls ≠ "java/lang/invoke/MethodHandle" ∧ Mc.1.cls ≠ "java/lang/invoke/VarHandle" ∧ (parseMethodDescriptor Mc.1.desc).map (fun d => d.parameters.length) = some n) ∧ Mc.2.2.2.2.1 + 1 ≤ M.2.2.2.2.1 ∧ 8 + (Mc.2.2.1 + 11) + Mc.2.2.2.2.2 ≤ M.2.2.2.2.2
theorem mm_cb {p : Program} {R : Room} {s : State} {m : MethodId} {args : Array Value} {meth : Method} {c : Code} (hc : mm_CB M Mc n) (hl : Cond.methodLink M.1.cls idx Mc.1 ∈ lw_all) (hX : mm_X g M p R s m args meth c) : CallB R s args M.1.cls idx Mc.1 Mc.2.1 Mc.2.2.1 Mc.2.2.2.1 (mm_ws Mc) (mm_rm Mc B Zc) (mm_nx Zc.2.1 - mm_nx B) (mm_sl Zc.2.1 - mm_sl B) n :=
  callB_of n hX.2.2.2.2.2.2.2.1 (lw_good hc.1) rfl rfl rfl (hX.2.2.2.2.2.2.2.1 _ hc.2.1) (hX.2.2.2.2.2.2.2.1 _ hl) hc.2.2.1 ⟨Nat.le_trans hc.2.2.2.1 hX.2.2.2.2.2.2.2.2.2.1, Nat.le_trans hc.2.2.2.2 hX.2.2.2.2.2.2.2.2.2.2.1⟩
theorem mm_cn {p : Program} {R : Room} {s : State} {m : MethodId} {args : Array Value} {meth : Method} {c : Code} {host : String} (hc : mm_CB M Mc n) (hl : Cond.methodLinkNest M.1.cls idx Mc.1 host ∈ lw_nst) (hX : mm_X g M p R s m args meth c) : va_CN R s args M.1.cls idx Mc.1 host Mc.2.1 Mc.2.2.1 Mc.2.2.2.1 (mm_ws Mc) (mm_rm Mc B Zc) (mm_nx Zc.2.1 - mm_nx B) (mm_sl Zc.2.1 - mm_sl B) n :=
  va_cnB n hX.2.2.2.2.2.2.2.1 (lw_good hc.1) rfl rfl rfl (hX.2.2.2.2.2.2.2.2.1.2.1 _ hl) (hX.2.2.2.2.2.2.2.1 _ hc.2.1) hc.2.2.1 ⟨Nat.le_trans hc.2.2.2.1 hX.2.2.2.2.2.2.2.2.2.1, Nat.le_trans hc.2.2.2.2 hX.2.2.2.2.2.2.2.2.2.2.1⟩
theorem mm_recv {ci o : Nat} {C : String} {T : u_T} {N : Nat} {s : State} {H : Heap} (hc : mm_Cl ci C T N) (hK : mm_K g s s.heap) (hR : mm_R g B I J P s H) (ht : mm_T B o = 100 + ci) : ∃ cellB : Cell, H[o]? = some cellB ∧ cellB.vm.isStatics = false ∧ s.vm.findClass C = some cellB.cls := by
  obtain ⟨cell, q1, q2, q3, q4⟩ := mm_obj hc hR ht
  exact ⟨cell, q1, by rw [q3]; rfl, by rw [q2]; exact (hK.1.1 ci _ hc.2.1).2.1⟩
theorem ev_invS0 (pc' : Nat) (hc : mm_CB M Mc n) (hlk : Cond.methodLink M.1.cls idx Mc.1 ∈ lw_all) (hs : Cond.static Mc.1 ∈ lw_all) (hd : decode M.2.1 pc = .ok (.invokestatic idx, 3)) (hk : Ct g Mc As B I J P Zc) (hst : st = As.reverse ++ rest) (hw : (rest.map fun v => v.category).sum ≤ 8) (hlen : As.length = n) (hp : pc + 3 = pc') (h : Ev g M pc' lv (Zc.1.toList ++ rest) Zc.2.1 Zc.2.2.1 Zc.2.2.2.1 Zc.2.2.2.2 Z) : Ev g M pc lv st B I J P Z := by
  subst hp
  subst hst
  have hm := hk.1
  refine ⟨⟨Nat.le_trans hm.1 h.1.1, Nat.le_trans hm.2 h.1.2⟩, fun p l e R s m args below meth c H locs ls n0 s0 hX hn hR hS hl => ?_⟩
  have h1 := h.1
  exact mm_back hm h hX hn hS hl (va_runS ⟨hX.1, hX.2.1, hX.2.2.1, hX.2.2.2.2.2.1, hX.2.2.2.2.2.2.2.1⟩ (hk.2 l) ⟨mm_cb hc hlk hX, hX.2.2.2.2.2.2.2.1 _ hs⟩ ⟨mm_blind, mm_pre hX.2.2.2.2.2.2.2.2.1 hX.2.2.2.2.2.2.2.2.2.2.2 hR hS⟩ rfl hlen hl.1 rfl (by show 2 * 0 + _ ≤ 8; omega) hd ⟨by have := hm.1; have := h.1.1; omega, by have := hm.2; have := h.1.2; omega⟩)
theorem ev_invS (pc' : Nat) (hc : mm_CB M Mc n) (hlk : Cond.methodLink M.1.cls idx Mc.1 ∈ lw_all) (hs : Cond.static Mc.1 ∈ lw_all) (hd : decode M.2.1 pc = .ok (.invokestatic idx, 3)) (hk : Ct g Mc As B I J P (some v, B1, I1, J1, P1)) (hst : st = As.reverse ++ rest) (hw : (rest.map fun v => v.category).sum ≤ 8) (hlen : As.length = n) (hp : pc + 3 = pc') (h : Ev g M pc' lv (v :: rest) B1 I1 J1 P1 Z) : Ev g M pc lv st B I J P Z := by
  subst hp
  exact ev_invS0 _ hc hlk hs hd hk hst hw hlen rfl h
theorem ev_invSv (pc' : Nat) (hc : mm_CB M Mc n) (hlk : Cond.methodLink M.1.cls idx Mc.1 ∈ lw_all) (hs : Cond.static Mc.1 ∈ lw_all) (hd : decode M.2.1 pc = .ok (.invokestatic idx, 3)) (hk : Ct g Mc As B I J P (none, B1, I1, J1, P1)) (hst : st = As.reverse ++ rest) (hw : (rest.map fun v => v.category).sum ≤ 8) (hlen : As.length = n) (hp : pc + 3 = pc') (h : Ev g M pc' lv rest B1 I1 J1 P1 Z) : Ev g M pc lv st B I J P Z := by
  subst hp
  exact ev_invS0 _ hc hlk hs hd hk hst hw hlen rfl h
theorem ev_invSN0 (pc' : Nat) {host : String} (hc : mm_CB M Mc n) (hlk : Cond.methodLinkNest M.1.cls idx Mc.1 host ∈ lw_nst) (hs : Cond.static Mc.1 ∈ lw_all) (hd : decode M.2.1 pc = .ok (.invokestatic idx, 3)) (hk : Ct g Mc As B I J P Zc) (hst : st = As.reverse ++ rest) (hw : (rest.map fun v => v.category).sum ≤ 8) (hlen : As.length = n) (hp : pc + 3 = pc') (h : Ev g M pc' lv (Zc.1.toList ++ rest) Zc.2.1 Zc.2.2.1 Zc.2.2.2.1 Zc.2.2.2.2 Z) : Ev g M pc lv st B I J P Z := by
  subst hp
  subst hst
  have hm := hk.1
  refine ⟨⟨Nat.le_trans hm.1 h.1.1, Nat.le_trans hm.2 h.1.2⟩, fun p l e R s m args below meth c H locs ls n0 s0 hX hn hR hS hl => ?_⟩
  have h1 := h.1
  exact mm_back hm h hX hn hS hl (va_runSN ⟨hX.1, hX.2.1, hX.2.2.1, hX.2.2.2.2.2.1, hX.2.2.2.2.2.2.2.1⟩ (hk.2 l) ⟨mm_cn hc hlk hX, hX.2.2.2.2.2.2.2.1 _ hs, trivial⟩ ⟨mm_blind, mm_pre hX.2.2.2.2.2.2.2.2.1 hX.2.2.2.2.2.2.2.2.2.2.2 hR hS⟩ rfl hlen hl.1 rfl (by show 2 * 0 + _ ≤ 8; omega) hd ⟨by have := hm.1; have := h.1.1; omega, by have := hm.2; have := h.1.2; omega⟩)
theorem ev_invSN (pc' : Nat) {host : String} (hc : mm_CB M Mc n) (hlk : Cond.methodLinkNest M.1.cls idx Mc.1 host ∈ lw_nst) (hs : Cond.static Mc.1 ∈ lw_all) (hd : decode M.2.1 pc = .ok (.invokestatic idx, 3)) (hk : Ct g Mc As B I J P (some v, B1, I1, J1, P1)) (hst : st = As.reverse ++ rest) (hw : (rest.map fun v => v.category).sum ≤ 8) (hlen : As.length = n) (hp : pc + 3 = pc') (h : Ev g M pc' lv (v :: rest) B1 I1 J1 P1 Z) : Ev g M pc lv st B I J P Z := by
  subst hp
  exact ev_invSN0 _ hc hlk hs hd hk hst hw hlen rfl h
theorem ev_invSNv (pc' : Nat) {host : String} (hc : mm_CB M Mc n) (hlk : Cond.methodLinkNest M.1.cls idx Mc.1 host ∈ lw_nst) (hs : Cond.static Mc.1 ∈ lw_all) (hd : decode M.2.1 pc = .ok (.invokestatic idx, 3)) (hk : Ct g Mc As B I J P (none, B1, I1, J1, P1)) (hst : st = As.reverse ++ rest) (hw : (rest.map fun v => v.category).sum ≤ 8) (hlen : As.length = n) (hp : pc + 3 = pc') (h : Ev g M pc' lv rest B1 I1 J1 P1 Z) : Ev g M pc lv st B I J P Z := by
  subst hp
  exact ev_invSN0 _ hc hlk hs hd hk hst hw hlen rfl h
theorem ev_invV0 (pc' : Nat) {ci o : Nat} {C : String} {T : u_T} {N : Nat} (hc : mm_CB M Mc n) (hlk : Cond.methodLink M.1.cls idx Mc.1 ∈ lw_all) (hi : Cond.instanceMethod Mc.1 ∈ lw_all) (hse : Cond.selects C Mc.1 Mc.1 ∈ lw_all) (hcl : mm_Cl ci C T N) (hC : Mc.1.cls = C) (hd : decode M.2.1 pc = .ok (.invokevirtual idx, 3)) (hk : Ct g Mc (.ref o :: As) B I J P Zc) (hst : st = As.reverse ++ .ref o :: rest) (ht : mm_T B o = 100 + ci) (hw : (rest.map fun v => v.category).sum ≤ 8) (hlen : As.length = n) (hp : pc + 3 = pc') (h : Ev g M pc' lv (Zc.1.toList ++ rest) Zc.2.1 Zc.2.2.1 Zc.2.2.2.1 Zc.2.2.2.2 Z) : Ev g M pc lv st B I J P Z := by
  subst hp
  subst hst
  have hm := hk.1
  refine ⟨⟨Nat.le_trans hm.1 h.1.1, Nat.le_trans hm.2 h.1.2⟩, fun p l e R s m args below meth c H locs ls n0 s0 hX hn hR hS hl => ?_⟩
  have h1 := h.1
  exact mm_back hm h hX hn hS hl (va_runV (C := C) (b := o) ⟨hX.1, hX.2.1, hX.2.2.1, hX.2.2.2.2.2.1, hX.2.2.2.2.2.2.2.1⟩ (hk.2 l) ⟨mm_cb hc hlk hX, hX.2.2.2.2.2.2.2.1 _ hi, hX.2.2.2.2.2.2.2.1 _ hse⟩ ⟨mm_blind, mm_recv hcl hX.2.2.2.2.2.2.2.2.1 hR ht, mm_pre (As := .ref o :: As) hX.2.2.2.2.2.2.2.2.1 hX.2.2.2.2.2.2.2.2.2.2.2 hR hS⟩ rfl hlen hl.1 rfl (by show 2 * 0 + _ ≤ 8; omega) hd ⟨by have := hm.1; have := h.1.1; omega, by have := hm.2; have := h.1.2; omega⟩)
theorem ev_invV (pc' : Nat) {ci o : Nat} {C : String} {T : u_T} {N : Nat} (hc : mm_CB M Mc n) (hlk : Cond.methodLink M.1.cls idx Mc.1 ∈ lw_all) (hi : Cond.instanceMethod Mc.1 ∈ lw_all) (hse : Cond.selects C Mc.1 Mc.1 ∈ lw_all) (hcl : mm_Cl ci C T N) (hC : Mc.1.cls = C) (hd : decode M.2.1 pc = .ok (.invokevirtual idx, 3)) (hk : Ct g Mc (.ref o :: As) B I J P (some v, B1, I1, J1, P1)) (hst : st = As.reverse ++ .ref o :: rest) (ht : mm_T B o = 100 + ci) (hw : (rest.map fun v => v.category).sum ≤ 8) (hlen : As.length = n) (hp : pc + 3 = pc') (h : Ev g M pc' lv (v :: rest) B1 I1 J1 P1 Z) : Ev g M pc lv st B I J P Z := by
  subst hp
  exact ev_invV0 _ hc hlk hi hse hcl hC hd hk hst ht hw hlen rfl h
theorem ev_invVv (pc' : Nat) {ci o : Nat} {C : String} {T : u_T} {N : Nat} (hc : mm_CB M Mc n) (hlk : Cond.methodLink M.1.cls idx Mc.1 ∈ lw_all) (hi : Cond.instanceMethod Mc.1 ∈ lw_all) (hse : Cond.selects C Mc.1 Mc.1 ∈ lw_all) (hcl : mm_Cl ci C T N) (hC : Mc.1.cls = C) (hd : decode M.2.1 pc = .ok (.invokevirtual idx, 3)) (hk : Ct g Mc (.ref o :: As) B I J P (none, B1, I1, J1, P1)) (hst : st = As.reverse ++ .ref o :: rest) (ht : mm_T B o = 100 + ci) (hw : (rest.map fun v => v.category).sum ≤ 8) (hlen : As.length = n) (hp : pc + 3 = pc') (h : Ev g M pc' lv rest B1 I1 J1 P1 Z) : Ev g M pc lv st B I J P Z := by
  subst hp
  exact ev_invV0 _ hc hlk hi hse hcl hC hd hk hst ht hw hlen rfl h
theorem ev_invVN0 (pc' : Nat) {host : String} {ci o : Nat} {C : String} {T : u_T} {N : Nat} (hc : mm_CB M Mc n) (hlk : Cond.methodLinkNest M.1.cls idx Mc.1 host ∈ lw_nst) (hi : Cond.instanceMethod Mc.1 ∈ lw_all) (hse : Cond.selects C Mc.1 Mc.1 ∈ lw_all) (hcl : mm_Cl ci C T N) (hC : Mc.1.cls = C) (hd : decode M.2.1 pc = .ok (.invokevirtual idx, 3)) (hk : Ct g Mc (.ref o :: As) B I J P Zc) (hst : st = As.reverse ++ .ref o :: rest) (ht : mm_T B o = 100 + ci) (hw : (rest.map fun v => v.category).sum ≤ 8) (hlen : As.length = n) (hp : pc + 3 = pc') (h : Ev g M pc' lv (Zc.1.toList ++ rest) Zc.2.1 Zc.2.2.1 Zc.2.2.2.1 Zc.2.2.2.2 Z) : Ev g M pc lv st B I J P Z := by
  subst hp
  subst hst
  have hm := hk.1
  refine ⟨⟨Nat.le_trans hm.1 h.1.1, Nat.le_trans hm.2 h.1.2⟩, fun p l e R s m args below meth c H locs ls n0 s0 hX hn hR hS hl => ?_⟩
  have h1 := h.1
  exact mm_back hm h hX hn hS hl (va_runVN (C := C) (b := o) ⟨hX.1, hX.2.1, hX.2.2.1, hX.2.2.2.2.2.1, hX.2.2.2.2.2.2.2.1⟩ (hk.2 l) ⟨mm_cn hc hlk hX, hX.2.2.2.2.2.2.2.1 _ hi, hX.2.2.2.2.2.2.2.1 _ hse⟩ ⟨mm_blind, mm_recv hcl hX.2.2.2.2.2.2.2.2.1 hR ht, mm_pre (As := .ref o :: As) hX.2.2.2.2.2.2.2.2.1 hX.2.2.2.2.2.2.2.2.2.2.2 hR hS⟩ rfl hlen hl.1 rfl (by show 2 * 0 + _ ≤ 8; omega) hd ⟨by have := hm.1; have := h.1.1; omega, by have := hm.2; have := h.1.2; omega⟩)
theorem ev_invVN (pc' : Nat) {host : String} {ci o : Nat} {C : String} {T : u_T} {N : Nat} (hc : mm_CB M Mc n) (hlk : Cond.methodLinkNest M.1.cls idx Mc.1 host ∈ lw_nst) (hi : Cond.instanceMethod Mc.1 ∈ lw_all) (hse : Cond.selects C Mc.1 Mc.1 ∈ lw_all) (hcl : mm_Cl ci C T N) (hC : Mc.1.cls = C) (hd : decode M.2.1 pc = .ok (.invokevirtual idx, 3)) (hk : Ct g Mc (.ref o :: As) B I J P (some v, B1, I1, J1, P1)) (hst : st = As.reverse ++ .ref o :: rest) (ht : mm_T B o = 100 + ci) (hw : (rest.map fun v => v.category).sum ≤ 8) (hlen : As.length = n) (hp : pc + 3 = pc') (h : Ev g M pc' lv (v :: rest) B1 I1 J1 P1 Z) : Ev g M pc lv st B I J P Z := by
  subst hp
  exact ev_invVN0 _ hc hlk hi hse hcl hC hd hk hst ht hw hlen rfl h
theorem ev_invVNv (pc' : Nat) {host : String} {ci o : Nat} {C : String} {T : u_T} {N : Nat} (hc : mm_CB M Mc n) (hlk : Cond.methodLinkNest M.1.cls idx Mc.1 host ∈ lw_nst) (hi : Cond.instanceMethod Mc.1 ∈ lw_all) (hse : Cond.selects C Mc.1 Mc.1 ∈ lw_all) (hcl : mm_Cl ci C T N) (hC : Mc.1.cls = C) (hd : decode M.2.1 pc = .ok (.invokevirtual idx, 3)) (hk : Ct g Mc (.ref o :: As) B I J P (none, B1, I1, J1, P1)) (hst : st = As.reverse ++ .ref o :: rest) (ht : mm_T B o = 100 + ci) (hw : (rest.map fun v => v.category).sum ≤ 8) (hlen : As.length = n) (hp : pc + 3 = pc') (h : Ev g M pc' lv rest B1 I1 J1 P1 Z) : Ev g M pc lv st B I J P Z := by
  subst hp
  exact ev_invVN0 _ hc hlk hi hse hcl hC hd hk hst ht hw hlen rfl h
theorem ev_invI0 (pc' : Nat) {o : Nat} (hc : mm_CB M Mc n) (hlk : Cond.methodLink M.1.cls idx Mc.1 ∈ lw_all) (hi : Cond.instanceMethod Mc.1 ∈ lw_all) (hr : Mc.2.2.2.1 = none) (hy : Mc.1.name = "<init>") (hd : decode M.2.1 pc = .ok (.invokespecial idx, 3)) (hk : Ct g Mc (.ref o :: As) B I J P Zc) (hst : st = As.reverse ++ .ref o :: rest) (hw : (rest.map fun v => v.category).sum ≤ 8) (hlen : As.length = n) (hp : pc + 3 = pc') (h : Ev g M pc' lv (Zc.1.toList ++ rest) Zc.2.1 Zc.2.2.1 Zc.2.2.2.1 Zc.2.2.2.2 Z) : Ev g M pc lv st B I J P Z := by
  subst hp
  subst hst
  have hm := hk.1
  refine ⟨⟨Nat.le_trans hm.1 h.1.1, Nat.le_trans hm.2 h.1.2⟩, fun p l e R s m args below meth c H locs ls n0 s0 hX hn hR hS hl => ?_⟩
  have h1 := h.1
  exact mm_back hm h hX hn hS hl (va_runI (b := o) ⟨hX.1, hX.2.1, hX.2.2.1, hX.2.2.2.2.2.1, hX.2.2.2.2.2.2.2.1⟩ (hk.2 l) ⟨hr ▸ mm_cb hc hlk hX, hy, hX.2.2.2.2.2.2.2.1 _ hi⟩ ⟨mm_blind, mm_pre (As := .ref o :: As) hX.2.2.2.2.2.2.2.2.1 hX.2.2.2.2.2.2.2.2.2.2.2 hR hS⟩ rfl hlen hl.1 rfl (by show 2 * 0 + _ ≤ 8; omega) hd ⟨by have := hm.1; have := h.1.1; omega, by have := hm.2; have := h.1.2; omega⟩)
theorem ev_invI (pc' : Nat) {o : Nat} (hc : mm_CB M Mc n) (hlk : Cond.methodLink M.1.cls idx Mc.1 ∈ lw_all) (hi : Cond.instanceMethod Mc.1 ∈ lw_all) (hr : Mc.2.2.2.1 = none) (hy : Mc.1.name = "<init>") (hd : decode M.2.1 pc = .ok (.invokespecial idx, 3)) (hk : Ct g Mc (.ref o :: As) B I J P (some v, B1, I1, J1, P1)) (hst : st = As.reverse ++ .ref o :: rest) (hw : (rest.map fun v => v.category).sum ≤ 8) (hlen : As.length = n) (hp : pc + 3 = pc') (h : Ev g M pc' lv (v :: rest) B1 I1 J1 P1 Z) : Ev g M pc lv st B I J P Z := by
  subst hp
  exact ev_invI0 _ hc hlk hi hr hy hd hk hst hw hlen rfl h
theorem ev_invIv (pc' : Nat) {o : Nat} (hc : mm_CB M Mc n) (hlk : Cond.methodLink M.1.cls idx Mc.1 ∈ lw_all) (hi : Cond.instanceMethod Mc.1 ∈ lw_all) (hr : Mc.2.2.2.1 = none) (hy : Mc.1.name = "<init>") (hd : decode M.2.1 pc = .ok (.invokespecial idx, 3)) (hk : Ct g Mc (.ref o :: As) B I J P (none, B1, I1, J1, P1)) (hst : st = As.reverse ++ .ref o :: rest) (hw : (rest.map fun v => v.category).sum ≤ 8) (hlen : As.length = n) (hp : pc + 3 = pc') (h : Ev g M pc' lv rest B1 I1 J1 P1 Z) : Ev g M pc lv st B I J P Z := by
  subst hp
  exact ev_invI0 _ hc hlk hi hr hy hd hk hst hw hlen rfl h
theorem ev_invIN0 (pc' : Nat) {host : String} {o : Nat} (hc : mm_CB M Mc n) (hlk : Cond.methodLinkNest M.1.cls idx Mc.1 host ∈ lw_nst) (hi : Cond.instanceMethod Mc.1 ∈ lw_all) (hr : Mc.2.2.2.1 = none) (hy : Mc.1.name = "<init>") (hd : decode M.2.1 pc = .ok (.invokespecial idx, 3)) (hk : Ct g Mc (.ref o :: As) B I J P Zc) (hst : st = As.reverse ++ .ref o :: rest) (hw : (rest.map fun v => v.category).sum ≤ 8) (hlen : As.length = n) (hp : pc + 3 = pc') (h : Ev g M pc' lv (Zc.1.toList ++ rest) Zc.2.1 Zc.2.2.1 Zc.2.2.2.1 Zc.2.2.2.2 Z) : Ev g M pc lv st B I J P Z := by
  subst hp
  subst hst
  have hm := hk.1
  refine ⟨⟨Nat.le_trans hm.1 h.1.1, Nat.le_trans hm.2 h.1.2⟩, fun p l e R s m args below meth c H locs ls n0 s0 hX hn hR hS hl => ?_⟩
  have h1 := h.1
  exact mm_back hm h hX hn hS hl (va_runIN (b := o) ⟨hX.1, hX.2.1, hX.2.2.1, hX.2.2.2.2.2.1, hX.2.2.2.2.2.2.2.1⟩ (hk.2 l) ⟨hr ▸ mm_cn hc hlk hX, hy, hX.2.2.2.2.2.2.2.1 _ hi⟩ ⟨mm_blind, mm_pre (As := .ref o :: As) hX.2.2.2.2.2.2.2.2.1 hX.2.2.2.2.2.2.2.2.2.2.2 hR hS⟩ rfl hlen hl.1 rfl (by show 2 * 0 + _ ≤ 8; omega) hd ⟨by have := hm.1; have := h.1.1; omega, by have := hm.2; have := h.1.2; omega⟩)
theorem ev_invIN (pc' : Nat) {host : String} {o : Nat} (hc : mm_CB M Mc n) (hlk : Cond.methodLinkNest M.1.cls idx Mc.1 host ∈ lw_nst) (hi : Cond.instanceMethod Mc.1 ∈ lw_all) (hr : Mc.2.2.2.1 = none) (hy : Mc.1.name = "<init>") (hd : decode M.2.1 pc = .ok (.invokespecial idx, 3)) (hk : Ct g Mc (.ref o :: As) B I J P (some v, B1, I1, J1, P1)) (hst : st = As.reverse ++ .ref o :: rest) (hw : (rest.map fun v => v.category).sum ≤ 8) (hlen : As.length = n) (hp : pc + 3 = pc') (h : Ev g M pc' lv (v :: rest) B1 I1 J1 P1 Z) : Ev g M pc lv st B I J P Z := by
  subst hp
  exact ev_invIN0 _ hc hlk hi hr hy hd hk hst hw hlen rfl h
theorem ev_invINv (pc' : Nat) {host : String} {o : Nat} (hc : mm_CB M Mc n) (hlk : Cond.methodLinkNest M.1.cls idx Mc.1 host ∈ lw_nst) (hi : Cond.instanceMethod Mc.1 ∈ lw_all) (hr : Mc.2.2.2.1 = none) (hy : Mc.1.name = "<init>") (hd : decode M.2.1 pc = .ok (.invokespecial idx, 3)) (hk : Ct g Mc (.ref o :: As) B I J P (none, B1, I1, J1, P1)) (hst : st = As.reverse ++ .ref o :: rest) (hw : (rest.map fun v => v.category).sum ≤ 8) (hlen : As.length = n) (hp : pc + 3 = pc') (h : Ev g M pc' lv rest B1 I1 J1 P1 Z) : Ev g M pc lv st B I J P Z := by
  subst hp
  exact ev_invIN0 _ hc hlk hi hr hy hd hk hst hw hlen rfl h
theorem ev_objInit (pc' : Nat) {o : Nat} (hd : decode M.2.1 pc = .ok (.invokespecial idx, 3)) (h1 : Cond.methodLink M.1.cls idx Lib.objectInit ∈ lw_all) (h2 : Cond.instanceMethod Lib.objectInit ∈ lw_all) (h3 : Cond.code Lib.objectInit ⟨#[0xb1]⟩ 1 none ∈ lw_all) (hf : 1 ≤ M.2.2.2.2.1) (hlo : 20 ≤ M.2.2.2.2.2) (hw : (st.map fun v => v.category).sum ≤ 8) (hp : pc + 3 = pc') (h : Ev g M pc' lv st B I J P Z) : Ev g M pc lv (.ref o :: st) B I J P Z := by
  subst hp
  exact ⟨h.1, fun p l e R s m args below meth c H locs ls n0 s0 hX hn hR hS hl => W.objInit hX.1 hX.2.1 hX.2.2.2.2.2.1 (hX.2.2.2.2.2.2.2.1 _ h1) (hX.2.2.2.2.2.2.2.1 _ h2) (hX.2.2.2.2.2.2.2.1 _ h3) rfl (by rw [hX.2.2.1]; exact hl.1) rfl hd (Nat.le_trans hf hX.2.2.2.2.2.2.2.2.2.1) (by show 2 * 0 + _ + 12 ≤ _; have := hX.2.2.2.2.2.2.2.2.2.2.1; omega) (h.2 p l e R s m args below meth c H locs ls n0 s0 hX hn hR hS hl)⟩
theorem ev_max (pc' : Nat) {x y : Int32} (hd : decode M.2.1 pc = .ok (.invokestatic idx, 3)) (h1 : Cond.methodLink M.1.cls idx Lib.Math.max.name ∈ lw_all) (h2 : Cond.static Lib.Math.max.name ∈ lw_all) (h3 : Cond.initialized "java/lang/Math" ∈ lw_all) (h4 : Cond.code Lib.Math.max.name Lib.Math.max.code 2 (some .int) ∈ lw_all) (hf : 1 ≤ M.2.2.2.2.1) (hlo : 23 ≤ M.2.2.2.2.2) (hw : (st.map fun v => v.category).sum ≤ 8) (hp : pc + 3 = pc') (h : Ev g M pc' lv (.int (if x < y then y else x) :: st) B I J P Z) : Ev g M pc lv (.int y :: .int x :: st) B I J P Z := by
  subst hp
  exact ⟨h.1, fun p l e R s m args below meth c H locs ls n0 s0 hX hn hR hS hl => va_mmax hX.1 hX.2.1 (by rw [hX.2.2.1]; exact hl.1.symm) hX.2.2.2.2.2.1 (hX.2.2.2.2.2.2.2.1 _ h1) (hX.2.2.2.2.2.2.2.1 _ h2) (hX.2.2.2.2.2.2.2.1 _ h3) (hX.2.2.2.2.2.2.2.1 _ h4) (Nat.le_trans hf hX.2.2.2.2.2.2.2.2.2.1) (by have := hX.2.2.2.2.2.2.2.2.2.2.1; omega) (by have := h.1.1; omega) (by have := h.1.2; omega) hd (h.2 p l e R s m args below meth c H locs ls n0 s0 hX hn hR hS hl)⟩
theorem ev_min (pc' : Nat) {x y : Int32} (hd : decode M.2.1 pc = .ok (.invokestatic idx, 3)) (h1 : Cond.methodLink M.1.cls idx Lib.Math.min.name ∈ lw_all) (h2 : Cond.static Lib.Math.min.name ∈ lw_all) (h3 : Cond.initialized "java/lang/Math" ∈ lw_all) (h4 : Cond.code Lib.Math.min.name Lib.Math.min.code 2 (some .int) ∈ lw_all) (hf : 1 ≤ M.2.2.2.2.1) (hlo : 23 ≤ M.2.2.2.2.2) (hw : (st.map fun v => v.category).sum ≤ 8) (hp : pc + 3 = pc') (h : Ev g M pc' lv (.int (if y < x then y else x) :: st) B I J P Z) : Ev g M pc lv (.int y :: .int x :: st) B I J P Z := by
  subst hp
  exact ⟨h.1, fun p l e R s m args below meth c H locs ls n0 s0 hX hn hR hS hl => va_mmin hX.1 hX.2.1 (by rw [hX.2.2.1]; exact hl.1.symm) hX.2.2.2.2.2.1 (hX.2.2.2.2.2.2.2.1 _ h1) (hX.2.2.2.2.2.2.2.1 _ h2) (hX.2.2.2.2.2.2.2.1 _ h3) (hX.2.2.2.2.2.2.2.1 _ h4) (Nat.le_trans hf hX.2.2.2.2.2.2.2.2.2.1) (by have := hX.2.2.2.2.2.2.2.2.2.2.1; omega) (by have := h.1.1; omega) (by have := h.1.2; omega) hd (h.2 p l e R s m args below meth c H locs ls n0 s0 hX hn hR hS hl)⟩
theorem ev_abs (pc' : Nat) {x : Int32} (hd : decode M.2.1 pc = .ok (.invokestatic idx, 3)) (h1 : Cond.methodLink M.1.cls idx Lib.Math.abs.name ∈ lw_all) (h2 : Cond.static Lib.Math.abs.name ∈ lw_all) (h3 : Cond.initialized "java/lang/Math" ∈ lw_all) (h4 : Cond.code Lib.Math.abs.name Lib.Math.abs.code 1 (some .int) ∈ lw_all) (hf : 1 ≤ M.2.2.2.2.1) (hlo : 23 ≤ M.2.2.2.2.2) (hw : (st.map fun v => v.category).sum ≤ 8) (hp : pc + 3 = pc') (h : Ev g M pc' lv (.int (if 0 ≤ x then x else 0 - x) :: st) B I J P Z) : Ev g M pc lv (.int x :: st) B I J P Z := by
  subst hp
  exact ⟨h.1, fun p l e R s m args below meth c H locs ls n0 s0 hX hn hR hS hl => va_mabs hX.1 hX.2.1 (by rw [hX.2.2.1]; exact hl.1.symm) hX.2.2.2.2.2.1 (hX.2.2.2.2.2.2.2.1 _ h1) (hX.2.2.2.2.2.2.2.1 _ h2) (hX.2.2.2.2.2.2.2.1 _ h3) (hX.2.2.2.2.2.2.2.1 _ h4) (Nat.le_trans hf hX.2.2.2.2.2.2.2.2.2.1) (by have := hX.2.2.2.2.2.2.2.2.2.2.1; omega) (by have := h.1.1; omega) (by have := h.1.2; omega) hd (h.2 p l e R s m args below meth c H locs ls n0 s0 hX hn hR hS hl)⟩
theorem ev_maxL (pc' : Nat) {x y : Int64} (hd : decode M.2.1 pc = .ok (.invokestatic idx, 3)) (h1 : Cond.methodLink M.1.cls idx Lib.MathLoose.max_long.x ∈ lw_all) (h2 : Cond.static Lib.MathLoose.max_long.x ∈ lw_all) (h3 : Cond.initialized "java/lang/Math" ∈ lw_all) (h4 : Cond.code Lib.MathLoose.max_long.x Lib.MathLoose.max_long.code 4 (some .long) ∈ lw_all) (hf : 1 ≤ M.2.2.2.2.1) (hlo : 23 ≤ M.2.2.2.2.2) (hw : (st.map fun v => v.category).sum ≤ 8) (hp : pc + 3 = pc') (h : Ev g M pc' lv (.long (if y < x then x else y) :: st) B I J P Z) : Ev g M pc lv (.long y :: .long x :: st) B I J P Z := by
  subst hp
  exact ⟨h.1, fun p l e R s m args below meth c H locs ls n0 s0 hX hn hR hS hl => va_mmax_long hX.1 hX.2.1 (by rw [hX.2.2.1]; exact hl.1.symm) hX.2.2.2.2.2.1 (hX.2.2.2.2.2.2.2.1 _ h1) (hX.2.2.2.2.2.2.2.1 _ h2) (hX.2.2.2.2.2.2.2.1 _ h3) (hX.2.2.2.2.2.2.2.1 _ h4) (Nat.le_trans hf hX.2.2.2.2.2.2.2.2.2.1) (by have := hX.2.2.2.2.2.2.2.2.2.2.1; omega) (by have := h.1.1; omega) (by have := h.1.2; omega) hd (h.2 p l e R s m args below meth c H locs ls n0 s0 hX hn hR hS hl)⟩
theorem ev_minL (pc' : Nat) {x y : Int64} (hd : decode M.2.1 pc = .ok (.invokestatic idx, 3)) (h1 : Cond.methodLink M.1.cls idx Lib.MathLoose.min_long.x ∈ lw_all) (h2 : Cond.static Lib.MathLoose.min_long.x ∈ lw_all) (h3 : Cond.initialized "java/lang/Math" ∈ lw_all) (h4 : Cond.code Lib.MathLoose.min_long.x Lib.MathLoose.min_long.code 4 (some .long) ∈ lw_all) (hf : 1 ≤ M.2.2.2.2.1) (hlo : 23 ≤ M.2.2.2.2.2) (hw : (st.map fun v => v.category).sum ≤ 8) (hp : pc + 3 = pc') (h : Ev g M pc' lv (.long (if y < x then y else x) :: st) B I J P Z) : Ev g M pc lv (.long y :: .long x :: st) B I J P Z := by
  subst hp
  exact ⟨h.1, fun p l e R s m args below meth c H locs ls n0 s0 hX hn hR hS hl => va_mmin_long hX.1 hX.2.1 (by rw [hX.2.2.1]; exact hl.1.symm) hX.2.2.2.2.2.1 (hX.2.2.2.2.2.2.2.1 _ h1) (hX.2.2.2.2.2.2.2.1 _ h2) (hX.2.2.2.2.2.2.2.1 _ h3) (hX.2.2.2.2.2.2.2.1 _ h4) (Nat.le_trans hf hX.2.2.2.2.2.2.2.2.2.1) (by have := hX.2.2.2.2.2.2.2.2.2.2.1; omega) (by have := h.1.1; omega) (by have := h.1.2; omega) hd (h.2 p l e R s m args below meth c H locs ls n0 s0 hX hn hR hS hl)⟩
theorem ev_absL (pc' : Nat) {x : Int64} (hd : decode M.2.1 pc = .ok (.invokestatic idx, 3)) (h1 : Cond.methodLink M.1.cls idx Lib.MathLoose.abs_long.x ∈ lw_all) (h2 : Cond.static Lib.MathLoose.abs_long.x ∈ lw_all) (h3 : Cond.initialized "java/lang/Math" ∈ lw_all) (h4 : Cond.code Lib.MathLoose.abs_long.x Lib.MathLoose.abs_long.code 2 (some .long) ∈ lw_all) (hf : 1 ≤ M.2.2.2.2.1) (hlo : 23 ≤ M.2.2.2.2.2) (hw : (st.map fun v => v.category).sum ≤ 8) (hp : pc + 3 = pc') (h : Ev g M pc' lv (.long (if 0 < x then x else -x) :: st) B I J P Z) : Ev g M pc lv (.long x :: st) B I J P Z := by
  subst hp
  exact ⟨h.1, fun p l e R s m args below meth c H locs ls n0 s0 hX hn hR hS hl => va_mabs_long hX.1 hX.2.1 (by rw [hX.2.2.1]; exact hl.1.symm) hX.2.2.2.2.2.1 (hX.2.2.2.2.2.2.2.1 _ h1) (hX.2.2.2.2.2.2.2.1 _ h2) (hX.2.2.2.2.2.2.2.1 _ h3) (hX.2.2.2.2.2.2.2.1 _ h4) (Nat.le_trans hf hX.2.2.2.2.2.2.2.2.2.1) (by have := hX.2.2.2.2.2.2.2.2.2.2.1; omega) (by have := h.1.1; omega) (by have := h.1.2; omega) hd (h.2 p l e R s m args below meth c H locs ls n0 s0 hX hn hR hS hl)⟩
end EVC
