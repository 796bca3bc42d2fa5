/-- a class of the table: its fields' words, types, names -/
def mm_okT : FieldType → Bool
  | .float => false
  | .double => false
  | _ => true
theorem mm_okT_v {ty : FieldType} (h : mm_okT ty = true) : defaultValue ty = mm_v ty 0 0 none := by
  cases ty <;> first | rfl | cases h
def mm_Cl (ci : Nat) (C : String) (T : u_T) (N : Nat) : Prop := ci < 100 ∧ vwCl[ci]? = some (C, T, N) ∧ (∀ w ∈ u_ws C T N, w ∈ lw_all) ∧ (∀ k, k < N → parseFieldDescriptor (T k).2.2.1 = some (mm_ty ci k)) ∧ (∀ a, a < N → ∀ b, b < N → a ≠ b → (T a).2.1 ≠ (T b).2.1) ∧ (∀ k, k < N → mm_okT (mm_ty ci k) = true)
section EVF
variable {g : mm_G} {M : mm_M} {pc : Nat} {lv lv' : mm_L} {st : List Value} {B : mm_B} {I : mm_TI} {J : mm_TJ} {P : mm_TP} {Z : mm_Z}
variable {ci j o idx : Nat} {C : String} {T : u_T} {N : Nat}
theorem mm_obj {s : State} {H : Heap} (hc : mm_Cl ci C T N) (hR : mm_R g B I J P s H) (ht : mm_T B o = 100 + ci) : t_OB o (g.2.1.1 ci) N (g.2.1.2 ci) H (fun j => mm_v (mm_ty ci j) (I o j) (J o j) (P o j)) := by
  obtain ⟨r, h1, h2⟩ := (hR.2 o (by omega)).2.2.2.1 ci hc.1 ht
  cases hc.2.1.symm.trans h1
  exact h2
theorem ev_get (pc' : Nat) {v : Value} (hc : mm_Cl ci C T N) (hj : j < N) (hd : decode M.2.1 pc = .ok (.getfield idx, 3)) (hw : Cond.fieldLink M.1.cls idx (T j).1 (T j).2.1 (T j).2.2.1 ∈ lw_all) (ht : mm_T B o = 100 + ci) (hv : mm_v (mm_ty ci j) (I o j) (J o j) (P o j) = v) (hp : pc + 3 = pc') (h : Ev g M pc' lv (v :: st) B I J P Z) : Ev g M pc lv (.ref o :: st) B I J P Z := by
  subst hp
  refine ⟨h.1, fun p l e R s m args below meth c H locs ls n0 s0 hX hn hR hS hl => ?_⟩
  obtain ⟨cell, q1, q2, q3, q4⟩ := mm_obj hc hR ht
  obtain ⟨hSl, hfc, kC, hkC, hkind⟩ := hX.2.2.2.2.2.2.2.2.1.1.1 ci _ hc.2.1
  obtain ⟨cf, kf, fi, f, hi, hsl⟩ := hSl j hj
  refine W.getf hX.1 hX.2.1 hX.2.2.2.2.2.1 (hX.2.2.2.2.2.2.2.1 _ hw) hi (u_facts hfc hkC (u_lays hX.2.2.2.2.2.2.2.1 hc.2.2.1 hj) hi).1 q1 (by rw [q3]; exact fun h => by cases h) (v := v) ?_ rfl rfl hd (h.2 p l e R s m args below meth c H locs ls n0 s0 hX hn hR hS hl)
  rw [hsl, q4 j hj]
  exact congrArg some hv
theorem ev_getI (pc' : Nat) (hc : mm_Cl ci C T N) (hj : j < N) (hd : decode M.2.1 pc = .ok (.getfield idx, 3)) (hw : Cond.fieldLink M.1.cls idx (T j).1 (T j).2.1 (T j).2.2.1 ∈ lw_all) (hy : ∀ a b c, mm_v (mm_ty ci j) a b c = .int a) (ht : mm_T B o = 100 + ci) (hp : pc + 3 = pc') (h : Ev g M pc' lv (.int (I o j) :: st) B I J P Z) : Ev g M pc lv (.ref o :: st) B I J P Z := by
  subst hp
  exact ev_get _ hc hj hd hw ht (hy _ _ _) rfl h
theorem ev_getJ (pc' : Nat) (hc : mm_Cl ci C T N) (hj : j < N) (hd : decode M.2.1 pc = .ok (.getfield idx, 3)) (hw : Cond.fieldLink M.1.cls idx (T j).1 (T j).2.1 (T j).2.2.1 ∈ lw_all) (hy : ∀ a b c, mm_v (mm_ty ci j) a b c = .long b) (ht : mm_T B o = 100 + ci) (hp : pc + 3 = pc') (h : Ev g M pc' lv (.long (J o j) :: st) B I J P Z) : Ev g M pc lv (.ref o :: st) B I J P Z := by
  subst hp
  exact ev_get _ hc hj hd hw ht (hy _ _ _) rfl h
theorem ev_getP (pc' : Nat) {a : Nat} (hc : mm_Cl ci C T N) (hj : j < N) (hd : decode M.2.1 pc = .ok (.getfield idx, 3)) (hw : Cond.fieldLink M.1.cls idx (T j).1 (T j).2.1 (T j).2.2.1 ∈ lw_all) (hy : ∀ a b c, mm_v (mm_ty ci j) a b c = va_rf c) (ht : mm_T B o = 100 + ci) (hpp : P o j = some a) (hp : pc + 3 = pc') (h : Ev g M pc' lv (.ref a :: st) B I J P Z) : Ev g M pc lv (.ref o :: st) B I J P Z := by
  subst hp
  exact ev_get _ hc hj hd hw ht ((hy _ _ _).trans (by rw [hpp]; rfl)) rfl h
theorem ev_getN (pc' : Nat) (hc : mm_Cl ci C T N) (hj : j < N) (hd : decode M.2.1 pc = .ok (.getfield idx, 3)) (hw : Cond.fieldLink M.1.cls idx (T j).1 (T j).2.1 (T j).2.2.1 ∈ lw_all) (hy : ∀ a b c, mm_v (mm_ty ci j) a b c = va_rf c) (ht : mm_T B o = 100 + ci) (hpp : P o j = none) (hp : pc + 3 = pc') (h : Ev g M pc' lv (.null :: st) B I J P Z) : Ev g M pc lv (.ref o :: st) B I J P Z := by
  subst hp
  exact ev_get _ hc hj hd hw ht ((hy _ _ _).trans (by rw [hpp]; rfl)) rfl h
theorem ev_put (pc' : Nat) {v : Value} {I' : mm_TI} {J' : mm_TJ} {P' : mm_TP} (hc : mm_Cl ci C T N) (hj : j < N) (hd : decode M.2.1 pc = .ok (.putfield idx, 3)) (hw : Cond.fieldLink M.1.cls idx (T j).1 (T j).2.1 (T j).2.2.1 ∈ lw_all) (hfin : (T j).2.2.2 = false) (ht : mm_T B o = 100 + ci) (hnr : narrow (mm_ty ci j) v = v) (hft : fits (mm_ty ci j) v = true)
    (hI : ∀ q, q ≠ o → I' q = I q) (hJ : ∀ q, q ≠ o → J' q = J q) (hP : ∀ q, q ≠ o → P' q = P q) (ho : ∀ k, k < N → mm_v (mm_ty ci k) (I' o k) (J' o k) (P' o k) = if k = j then v else mm_v (mm_ty ci k) (I o k) (J o k) (P o k)) (hp : pc + 3 = pc') (h : Ev g M pc' lv st B I' J' P' Z) : Ev g M pc lv (v :: .ref o :: st) B I J P Z := by
  subst hp
  refine ⟨h.1, fun p l e R s m args below meth c H locs ls n0 s0 hX hn hR hS hl => ?_⟩
  have hap := va_apart (D := g.2.1) (own := M.1.cls) hX.2.2.2.2.2.2.2.1 hc.2.2.1 (mm_ty ci) hc.2.2.2.1 hc.2.2.2.2.1 hX.2.2.2.2.2.2.2.2.1.1 hc.2.1
  obtain ⟨cell, q1, q2, q3, q4⟩ := mm_obj hc hR ht
  obtain ⟨hSl, hfc, kC, hkC, hkind⟩ := hX.2.2.2.2.2.2.2.2.1.1.1 ci _ hc.2.1
  obtain ⟨cf, kf, fi, f, hi, hsl⟩ := hSl j hj
  have hlo := (hR.2 o (by omega)).2.1 (by omega)
  have hlay := hX.2.2.2.2.2.2.2.1 _ (hc.2.2.1 _ (u_in_lay hj))
  unfold u_lay at hlay
  rw [if_neg (by rw [hfin]; decide)] at hlay
  have hst := (u_facts hfc hkC (u_lays hX.2.2.2.2.2.2.2.1 hc.2.2.1 hj) hi).1
  have h6 := u_store hfc hkC hkind hlay hi (hc.2.2.2.1 j hj) hnr hft
  refine W.putK hX.1 hX.2.1 (f := f) ⟨hX.2.2.2.2.2.1, hX.2.2.2.2.2.2.2.1 _ hw, ⟨_, _, _, hi⟩, hst⟩ (by rw [q2]; exact h6) q1 q3 (by rw [hsl]; exact k2_hasslot (q4 j hj)) rfl rfl hd fun H' e1 e2 e3 => ?_
  rw [hsl] at e1
  refine h.2 p l e R s m args below meth c H' _ ls n0 s0 hX hn (mm_R_put hR e2 e3 hI hJ hP ⟨fun e => by omega, fun ci' hc' e => ?_, fun k e => by have := hc.1; omega⟩) (hS.put e2 e3 hlo) hl
  obtain rfl : ci' = ci := by omega
  refine ⟨_, hc.2.1, t_OB.to (V := updV (fun j => mm_v (mm_ty ci' j) (I o j) (J o j) (P o j)) j v) ⟨_, e1, q2, q3, t_set q4 hap hj v⟩ (fun k hk => ?_)⟩
  rw [ho k hk]
  rfl
theorem ev_putI (pc' : Nat) {x : Int32} (hc : mm_Cl ci C T N) (hj : j < N) (hd : decode M.2.1 pc = .ok (.putfield idx, 3)) (hw : Cond.fieldLink M.1.cls idx (T j).1 (T j).2.1 (T j).2.2.1 ∈ lw_all) (hfin : (T j).2.2.2 = false) (hy : ∀ a b c, mm_v (mm_ty ci j) a b c = .int a) (hnr : narrow (mm_ty ci j) (.int x) = .int x) (hft : fits (mm_ty ci j) (.int x) = true) (ht : mm_T B o = 100 + ci) (hp : pc + 3 = pc') (h : Ev g M pc' lv st B (va_up I o (va_up (I o) j x)) J P Z) : Ev g M pc lv (.int x :: .ref o :: st) B I J P Z := by
  subst hp
  refine ev_put _ hc hj hd hw hfin ht hnr hft (fun q hq => by simp [va_up, hq]) (fun q hq => by simp [va_up, hq]) (fun q hq => by simp [va_up, hq]) (fun k hk => ?_) rfl h
  by_cases e : k = j
  · subst e
    rw [if_pos rfl, hy]
    simp [va_up, va_rf]
  · rw [if_neg e]
    simp [va_up, e]
theorem ev_putJ (pc' : Nat) {x : Int64} (hc : mm_Cl ci C T N) (hj : j < N) (hd : decode M.2.1 pc = .ok (.putfield idx, 3)) (hw : Cond.fieldLink M.1.cls idx (T j).1 (T j).2.1 (T j).2.2.1 ∈ lw_all) (hfin : (T j).2.2.2 = false) (hy : ∀ a b c, mm_v (mm_ty ci j) a b c = .long b) (hnr : narrow (mm_ty ci j) (.long x) = .long x) (hft : fits (mm_ty ci j) (.long x) = true) (ht : mm_T B o = 100 + ci) (hp : pc + 3 = pc') (h : Ev g M pc' lv st B I (va_up J o (va_up (J o) j x)) P Z) : Ev g M pc lv (.long x :: .ref o :: st) B I J P Z := by
  subst hp
  refine ev_put _ hc hj hd hw hfin ht hnr hft (fun q hq => by simp [va_up, hq]) (fun q hq => by simp [va_up, hq]) (fun q hq => by simp [va_up, hq]) (fun k hk => ?_) rfl h
  by_cases e : k = j
  · subst e
    rw [if_pos rfl, hy]
    simp [va_up, va_rf]
  · rw [if_neg e]
    simp [va_up, e]
theorem ev_putP (pc' : Nat) {x : Nat} (hc : mm_Cl ci C T N) (hj : j < N) (hd : decode M.2.1 pc = .ok (.putfield idx, 3)) (hw : Cond.fieldLink M.1.cls idx (T j).1 (T j).2.1 (T j).2.2.1 ∈ lw_all) (hfin : (T j).2.2.2 = false) (hy : ∀ a b c, mm_v (mm_ty ci j) a b c = va_rf c) (hnr : narrow (mm_ty ci j) (.ref x) = .ref x) (hft : fits (mm_ty ci j) (.ref x) = true) (ht : mm_T B o = 100 + ci) (hp : pc + 3 = pc') (h : Ev g M pc' lv st B I J (va_up P o (va_up (P o) j (some x))) Z) : Ev g M pc lv (.ref x :: .ref o :: st) B I J P Z := by
  subst hp
  refine ev_put _ hc hj hd hw hfin ht hnr hft (fun q hq => by simp [va_up, hq]) (fun q hq => by simp [va_up, hq]) (fun q hq => by simp [va_up, hq]) (fun k hk => ?_) rfl h
  by_cases e : k = j
  · subst e
    rw [if_pos rfl, hy]
    simp [va_up, va_rf]
  · rw [if_neg e]
    simp [va_up, e]
theorem ev_putN (pc' : Nat)  (hc : mm_Cl ci C T N) (hj : j < N) (hd : decode M.2.1 pc = .ok (.putfield idx, 3)) (hw : Cond.fieldLink M.1.cls idx (T j).1 (T j).2.1 (T j).2.2.1 ∈ lw_all) (hfin : (T j).2.2.2 = false) (hy : ∀ a b c, mm_v (mm_ty ci j) a b c = va_rf c) (hnr : narrow (mm_ty ci j) (.null) = .null) (hft : fits (mm_ty ci j) (.null) = true) (ht : mm_T B o = 100 + ci) (hp : pc + 3 = pc') (h : Ev g M pc' lv st B I J (va_up P o (va_up (P o) j none)) Z) : Ev g M pc lv (.null :: .ref o :: st) B I J P Z := by
  subst hp
  refine ev_put _ hc hj hd hw hfin ht hnr hft (fun q hq => by simp [va_up, hq]) (fun q hq => by simp [va_up, hq]) (fun q hq => by simp [va_up, hq]) (fun k hk => ?_) rfl h
  by_cases e : k = j
  · subst e
    rw [if_pos rfl, hy]
    simp [va_up, va_rf]
  · rw [if_neg e]
    simp [va_up, e]
theorem ev_putF (pc' : Nat) {v : Value} {I' : mm_TI} {J' : mm_TJ} {P' : mm_TP} (hc : mm_Cl ci C T N) (hj : j < N) (hd : decode M.2.1 pc = .ok (.putfield idx, 3)) (hw : Cond.fieldLink M.1.cls idx (T j).1 (T j).2.1 (T j).2.2.1 ∈ lw_all) (hfin : (T j).2.2.2 = true) (hin : M.1.name = "<init>") (hdc : (T j).1 = M.1.cls) (ht : mm_T B o = 100 + ci) (hnr : narrow (mm_ty ci j) v = v) (hft : fits (mm_ty ci j) v = true)
    (hI : ∀ q, q ≠ o → I' q = I q) (hJ : ∀ q, q ≠ o → J' q = J q) (hP : ∀ q, q ≠ o → P' q = P q) (ho : ∀ k, k < N → mm_v (mm_ty ci k) (I' o k) (J' o k) (P' o k) = if k = j then v else mm_v (mm_ty ci k) (I o k) (J o k) (P o k)) (hp : pc + 3 = pc') (h : Ev g M pc' lv st B I' J' P' Z) : Ev g M pc lv (v :: .ref o :: st) B I J P Z := by
  subst hp
  refine ⟨h.1, fun p l e R s m args below meth c H locs ls n0 s0 hX hn hR hS hl => ?_⟩
  have hap := va_apart (D := g.2.1) (own := M.1.cls) hX.2.2.2.2.2.2.2.1 hc.2.2.1 (mm_ty ci) hc.2.2.2.1 hc.2.2.2.2.1 hX.2.2.2.2.2.2.2.2.1.1 hc.2.1
  obtain ⟨cell, q1, q2, q3, q4⟩ := mm_obj hc hR ht
  obtain ⟨hSl, hfc, kC, hkC, hkind⟩ := hX.2.2.2.2.2.2.2.2.1.1.1 ci _ hc.2.1
  obtain ⟨cf, kf, fi, f, hi, hsl⟩ := hSl j hj
  have hlo := (hR.2 o (by omega)).2.1 (by omega)
  have hlay := hX.2.2.2.2.2.2.2.1 _ (hc.2.2.1 _ (u_in_lay hj))
  unfold u_lay at hlay
  rw [if_pos hfin] at hlay
  have hst := (u_facts hfc hkC (u_lays hX.2.2.2.2.2.2.2.1 hc.2.2.1 hj) hi).1
  have hcf : m.cls = cf := by
    obtain ⟨_, _, c', _, _, _, -, -, hf', -, -, -, hown2, -⟩ := Cond.laysFinal_spec hlay
    have e1 : c' = cf := by have := hi.symm.trans hf'; simp at this; exact this.1.symm
    rw [hdc] at hown2
    rw [← e1]; exact Option.some.inj (hX.2.2.2.2.2.1.symm.trans hown2)
  have h6 := u_fits hfc hkC hkind (Or.inr hlay) hi (hc.2.2.2.1 j hj) hnr hft
  refine W.putFinK hX.1 hX.2.1 hX.2.2.2.2.2.1 (hX.2.2.2.2.2.2.2.1 _ hw) hi hst hcf (hX.2.2.2.2.2.2.1.trans hin) (by rw [q2]; exact h6) q1 q3 (by rw [hsl]; exact k2_hasslot (q4 j hj)) rfl rfl hd fun H' e1 e2 e3 => ?_
  rw [hsl] at e1
  refine h.2 p l e R s m args below meth c H' _ ls n0 s0 hX hn (mm_R_put hR e2 e3 hI hJ hP ⟨fun e => by omega, fun ci' hc' e => ?_, fun k e => by have := hc.1; omega⟩) (hS.put e2 e3 hlo) hl
  obtain rfl : ci' = ci := by omega
  refine ⟨_, hc.2.1, t_OB.to (V := updV (fun j => mm_v (mm_ty ci' j) (I o j) (J o j) (P o j)) j v) ⟨_, e1, q2, q3, t_set q4 hap hj v⟩ (fun k hk => ?_)⟩
  rw [ho k hk]
  rfl
theorem ev_putFI (pc' : Nat) {x : Int32} (hc : mm_Cl ci C T N) (hj : j < N) (hd : decode M.2.1 pc = .ok (.putfield idx, 3)) (hw : Cond.fieldLink M.1.cls idx (T j).1 (T j).2.1 (T j).2.2.1 ∈ lw_all) (hfin : (T j).2.2.2 = true) (hin : M.1.name = "<init>") (hdc : (T j).1 = M.1.cls) (hy : ∀ a b c, mm_v (mm_ty ci j) a b c = .int a) (hnr : narrow (mm_ty ci j) (.int x) = .int x) (hft : fits (mm_ty ci j) (.int x) = true) (ht : mm_T B o = 100 + ci) (hp : pc + 3 = pc') (h : Ev g M pc' lv st B (va_up I o (va_up (I o) j x)) J P Z) : Ev g M pc lv (.int x :: .ref o :: st) B I J P Z := by
  subst hp
  refine ev_putF _ hc hj hd hw hfin hin hdc ht hnr hft (fun q hq => by simp [va_up, hq]) (fun q hq => by simp [va_up, hq]) (fun q hq => by simp [va_up, hq]) (fun k hk => ?_) rfl h
  by_cases e : k = j
  · subst e
    rw [if_pos rfl, hy]
    simp [va_up, va_rf]
  · rw [if_neg e]
    simp [va_up, e]
theorem ev_putFJ (pc' : Nat) {x : Int64} (hc : mm_Cl ci C T N) (hj : j < N) (hd : decode M.2.1 pc = .ok (.putfield idx, 3)) (hw : Cond.fieldLink M.1.cls idx (T j).1 (T j).2.1 (T j).2.2.1 ∈ lw_all) (hfin : (T j).2.2.2 = true) (hin : M.1.name = "<init>") (hdc : (T j).1 = M.1.cls) (hy : ∀ a b c, mm_v (mm_ty ci j) a b c = .long b) (hnr : narrow (mm_ty ci j) (.long x) = .long x) (hft : fits (mm_ty ci j) (.long x) = true) (ht : mm_T B o = 100 + ci) (hp : pc + 3 = pc') (h : Ev g M pc' lv st B I (va_up J o (va_up (J o) j x)) P Z) : Ev g M pc lv (.long x :: .ref o :: st) B I J P Z := by
  subst hp
  refine ev_putF _ hc hj hd hw hfin hin hdc ht hnr hft (fun q hq => by simp [va_up, hq]) (fun q hq => by simp [va_up, hq]) (fun q hq => by simp [va_up, hq]) (fun k hk => ?_) rfl h
  by_cases e : k = j
  · subst e
    rw [if_pos rfl, hy]
    simp [va_up, va_rf]
  · rw [if_neg e]
    simp [va_up, e]
theorem ev_putFP (pc' : Nat) {x : Nat} (hc : mm_Cl ci C T N) (hj : j < N) (hd : decode M.2.1 pc = .ok (.putfield idx, 3)) (hw : Cond.fieldLink M.1.cls idx (T j).1 (T j).2.1 (T j).2.2.1 ∈ lw_all) (hfin : (T j).2.2.2 = true) (hin : M.1.name = "<init>") (hdc : (T j).1 = M.1.cls) (hy : ∀ a b c, mm_v (mm_ty ci j) a b c = va_rf c) (hnr : narrow (mm_ty ci j) (.ref x) = .ref x) (hft : fits (mm_ty ci j) (.ref x) = true) (ht : mm_T B o = 100 + ci) (hp : pc + 3 = pc') (h : Ev g M pc' lv st B I J (va_up P o (va_up (P o) j (some x))) Z) : Ev g M pc lv (.ref x :: .ref o :: st) B I J P Z := by
  subst hp
  refine ev_putF _ hc hj hd hw hfin hin hdc ht hnr hft (fun q hq => by simp [va_up, hq]) (fun q hq => by simp [va_up, hq]) (fun q hq => by simp [va_up, hq]) (fun k hk => ?_) rfl h
  by_cases e : k = j
  · subst e
    rw [if_pos rfl, hy]
    simp [va_up, va_rf]
  · rw [if_neg e]
    simp [va_up, e]
theorem ev_putFN (pc' : Nat)  (hc : mm_Cl ci C T N) (hj : j < N) (hd : decode M.2.1 pc = .ok (.putfield idx, 3)) (hw : Cond.fieldLink M.1.cls idx (T j).1 (T j).2.1 (T j).2.2.1 ∈ lw_all) (hfin : (T j).2.2.2 = true) (hin : M.1.name = "<init>") (hdc : (T j).1 = M.1.cls) (hy : ∀ a b c, mm_v (mm_ty ci j) a b c = va_rf c) (hnr : narrow (mm_ty ci j) (.null) = .null) (hft : fits (mm_ty ci j) (.null) = true) (ht : mm_T B o = 100 + ci) (hp : pc + 3 = pc') (h : Ev g M pc' lv st B I J (va_up P o (va_up (P o) j none)) Z) : Ev g M pc lv (.null :: .ref o :: st) B I J P Z := by
  subst hp
  refine ev_putF _ hc hj hd hw hfin hin hdc ht hnr hft (fun q hq => by simp [va_up, hq]) (fun q hq => by simp [va_up, hq]) (fun q hq => by simp [va_up, hq]) (fun k hk => ?_) rfl h
  by_cases e : k = j
  · subst e
    rw [if_pos rfl, hy]
    simp [va_up, va_rf]
  · rw [if_neg e]
    simp [va_up, e]
end EVF
section EVN
variable {g : mm_G} {M : mm_M} {pc : Nat} {lv lv' : mm_L} {st : List Value} {B : mm_B} {I : mm_TI} {J : mm_TJ} {P : mm_TP} {Z : mm_Z}
theorem mm_R_new {s : State} {H H' : Heap} {t n sl : Nat} {I' : mm_TI} {J' : mm_TJ} {P' : mm_TP} (hlo : g.1 ≤ H.size) (hR : mm_R g B I J P s H) (hs : H'.size = H.size + 1) (ho : ∀ q, q < H.size → H'[q]? = H[q]?) (hn : n < 2 ^ 31) (hI : ∀ q, q ≠ mm_nx B → I' q = I q) (hJ : ∀ q, q ≠ mm_nx B → J' q = J q) (hP : ∀ q, q ≠ mm_nx B → P' q = P q) (hc : mm_c g.2.1 (mm_al B t n sl) I' J' P' s H' (mm_nx B)) : mm_R g (mm_al B t n sl) I' J' P' s H' := by
  refine ⟨by rw [hs, hR.1]; rfl, fun q e => ?_⟩
  by_cases hq : q = mm_nx B
  · subst hq
    refine ⟨⟨Nat.lt_succ_self _, ?_⟩, fun _ => by rw [← hR.1]; exact hlo, hc⟩
    show va_up (mm_N B) (mm_nx B) n (mm_nx B) < _
    simp [va_up]; exact hn
  · have eT : mm_T (mm_al B t n sl) q = mm_T B q := by show va_up (mm_T B) (mm_nx B) t q = _; simp [va_up, hq]
    have eN : mm_N (mm_al B t n sl) q = mm_N B q := by show va_up (mm_N B) (mm_nx B) n q = _; simp [va_up, hq]
    rw [eT] at e
    obtain ⟨⟨a1, a1'⟩, a2, a3⟩ := hR.2 q e
    refine ⟨⟨Nat.lt_succ_of_lt a1, by rw [eN]; exact a1'⟩, by rw [eT]; exact a2, ?_⟩
    have a4 := mm_c_kept a3 (ho q (by rw [hR.1]; exact a1)) (hI q hq) (hJ q hq) (hP q hq)
    unfold mm_c at a4 ⊢
    rw [eT, eN]
    exact a4
theorem ev_new (pc' : Nat) {ci idx : Nat} {C : String} {T : u_T} {N : Nat} (hc : mm_Cl ci C T N) (hd : decode M.2.1 pc = .ok (.new idx, 3)) (hw1 : Cond.classLink M.1.cls idx C ∈ lw_all) (hw2 : Cond.instantiable C N ∈ lw_all) (hw3 : Cond.initialized C ∈ lw_all)
    (hp : pc + 3 = pc') (h : Ev g M pc' lv (.ref (mm_nx B) :: st) (mm_al B (100 + ci) 0 N) (va_up I (mm_nx B) (fun _ => 0)) (va_up J (mm_nx B) (fun _ => 0)) (va_up P (mm_nx B) (fun _ => none)) Z) : Ev g M pc lv st B I J P Z := by
  subst hp
  have hm : mm_nx B + 1 ≤ mm_nx Z.2.1 ∧ mm_sl B + N ≤ mm_sl Z.2.1 := h.1
  refine ⟨⟨by omega, by omega⟩, fun p l e R s m args below meth c H locs ls n0 s0 hX hn hR hS hl => ?_⟩
  have hKn := hX.2.2.2.2.2.2.2.2.1.1.1 ci _ hc.2.1
  have hlo : g.1 ≤ H.size := Nat.le_trans hX.2.2.2.2.2.2.2.2.2.2.2 hS.1
  refine W.newcK hX.1 hX.2.1 hX.2.2.2.2.2.1 (hX.2.2.2.2.2.2.2.1 _ hw1) (hX.2.2.2.2.2.2.2.1 _ hw2) (hX.2.2.2.2.2.2.2.1 _ hw3) rfl hd (by omega) (by omega) hKn.2.1 hR.1 fun H1 kC hkC e1 z1 o1 => ?_
  refine W.cs (cells' := mm_nx (mm_al B (100 + ci) 0 N) - n0) (slots' := mm_sl (mm_al B (100 + ci) 0 N) - s0) (by show _ = mm_nx B + 1 - n0; omega) (by show _ = mm_sl B + N - s0; omega) ?_
  refine h.2 p l e R s m args below meth c H1 locs ls n0 s0 hX ⟨by show n0 ≤ mm_nx B + 1; omega, by show s0 ≤ mm_sl B + N; omega, hn.2.2⟩ (mm_R_new hlo hR (by rw [z1, hR.1]) (fun q hq => o1 q (by rw [← hR.1]; exact hq)) (by decide) (fun q hq => by simp [va_up, hq]) (fun q hq => by simp [va_up, hq]) (fun q hq => by simp [va_up, hq]) ?_) ⟨by rw [z1, ← hR.1]; have := hS.1; omega, fun q h1 h2 => (o1 q (by rw [← hR.1]; exact Nat.lt_of_lt_of_le h1 hS.1)).trans (hS.2.1 q h1 h2), hS.2.2⟩ hl
  have eT : mm_T (mm_al B (100 + ci) 0 N) (mm_nx B) = 100 + ci := by show va_up (mm_T B) (mm_nx B) (100 + ci) (mm_nx B) = _; simp [va_up]
  refine ⟨fun e => by omega, fun ci' hc' e => ?_, fun k e => by have := hc.1; omega⟩
  obtain rfl : ci' = ci := by omega
  refine ⟨_, hc.2.1, (u_born (mm_ty ci') hX.2.2.2.2.2.2.2.1 hc.2.2.1 hKn hkC e1 hc.2.2.2.1).to (fun k hk => ?_)⟩
  rw [mm_okT_v (hc.2.2.2.2.2 k hk)]
  simp [va_up]
theorem ev_newa (pc' : Nat) {at_ : ArrayType} {i : Int32} (n k : Nat) (hd : decode M.2.1 pc = .ok (.newarray at_, 2)) (hk : newarray.typeOf at_ = mm_ak k) (hk5 : k < 5) (hw : Cond.arrayClass (newarray.typeOf at_) ∈ lw_all) (hi : i = nI n) (hb : n * 8 ≤ 536870912)
    (hp : pc + 2 = pc') (h : Ev g M pc' lv (.ref (mm_nx B) :: st) (mm_al B (200 + k) n n) (va_up I (mm_nx B) (fun _ => 0)) (va_up J (mm_nx B) (fun _ => 0)) (va_up P (mm_nx B) (fun _ => none)) Z) : Ev g M pc lv (.int i :: st) B I J P Z := by
  subst hp
  subst hi
  have hm : mm_nx B + 1 ≤ mm_nx Z.2.1 ∧ mm_sl B + n ≤ mm_sl Z.2.1 := h.1
  refine ⟨⟨by omega, by omega⟩, fun p l e R s m args below meth c H locs ls n0 s0 hX hn hR hS hl => ?_⟩
  have hlo : g.1 ≤ H.size := Nat.le_trans hX.2.2.2.2.2.2.2.2.2.2.2 hS.1
  have hty : componentBytes (mm_ak k) ≤ 8 := by
    rcases (show k = 0 ∨ k = 1 ∨ k = 2 ∨ k = 3 ∨ k = 4 by omega) with rfl | rfl | rfl | rfl | rfl <;> decide
  refine va_newaK hX.1 hX.2.1 (hX.2.2.2.2.2.2.2.1 _ hw) rfl hd rfl (nI_pos (by omega)) (nI_clamp (by omega)) (by rw [hk]; exact Nat.le_trans (Nat.mul_le_mul_left n hty) hb) (by omega) (by omega) hR.1 fun H1 cA e1 z1 o1 hAr hNm => ?_
  rw [hk] at e1 hAr hNm
  refine W.cs (cells' := mm_nx (mm_al B (200 + k) n n) - n0) (slots' := mm_sl (mm_al B (200 + k) n n) - s0) (by show _ = mm_nx B + 1 - n0; omega) (by show _ = mm_sl B + n - s0; omega) ?_
  refine h.2 p l e R s m args below meth c H1 locs ls n0 s0 hX ⟨by show n0 ≤ mm_nx B + 1; omega, by show s0 ≤ mm_sl B + n; omega, hn.2.2⟩ (mm_R_new hlo hR (by rw [z1, hR.1]) (fun q hq => o1 q (by rw [← hR.1]; exact hq)) (by omega) (fun q hq => by simp [va_up, hq]) (fun q hq => by simp [va_up, hq]) (fun q hq => by simp [va_up, hq]) ?_) ⟨by rw [z1, ← hR.1]; have := hS.1; omega, fun q h1 h2 => (o1 q (by rw [← hR.1]; exact Nat.lt_of_lt_of_le h1 hS.1)).trans (hS.2.1 q h1 h2), hS.2.2⟩ hl
  have eT : mm_T (mm_al B (200 + k) n n) (mm_nx B) = 200 + k := by show va_up (mm_T B) (mm_nx B) (200 + k) (mm_nx B) = _; simp [va_up]
  have eN : mm_N (mm_al B (200 + k) n n) (mm_nx B) = n := by show va_up (mm_N B) (mm_nx B) n (mm_nx B) = _; simp [va_up]
  refine ⟨fun e => by omega, fun ci' hc' e => by omega, fun k' e => ?_⟩
  obtain rfl : k' = k := by omega
  rw [eN]
  refine ⟨cA, hAr, ?_, ?_⟩
  · rcases (show k' = 0 ∨ k' = 1 ∨ k' = 2 ∨ k' = 3 ∨ k' = 4 by omega) with rfl | rfl | rfl | rfl | rfl <;> exact hNm
  · rw [e1]
    congr 2
    funext z
    rcases (show k' = 0 ∨ k' = 1 ∨ k' = 2 ∨ k' = 3 ∨ k' = 4 by omega) with rfl | rfl | rfl | rfl | rfl <;> simp [va_up, mm_v, mm_ak, defaultValue]
theorem ev_anew (pc' : Nat) {i : Int32} {idx : Nat} {r : vw_C} (n k : Nat) (hd : decode M.2.1 pc = .ok (.anewarray idx, 3)) (hr : vwCl[k]? = some r) (hw1 : Cond.classLink M.1.cls idx r.1 ∈ lw_all) (hw2 : Cond.arrayOver (.object r.1) ∈ lw_nst) (hi : i = nI n) (hb : n * 8 ≤ 536870912)
    (hp : pc + 3 = pc') (h : Ev g M pc' lv (.ref (mm_nx B) :: st) (mm_al B (205 + k) n n) (va_up I (mm_nx B) (fun _ => 0)) (va_up J (mm_nx B) (fun _ => 0)) (va_up P (mm_nx B) (fun _ => none)) Z) : Ev g M pc lv (.int i :: st) B I J P Z := by
  subst hp
  subst hi
  have hm : mm_nx B + 1 ≤ mm_nx Z.2.1 ∧ mm_sl B + n ≤ mm_sl Z.2.1 := h.1
  refine ⟨⟨by omega, by omega⟩, fun p l e R s m args below meth c H locs ls n0 s0 hX hn hR hS hl => ?_⟩
  have hlo : g.1 ≤ H.size := Nat.le_trans hX.2.2.2.2.2.2.2.2.2.2.2 hS.1
  have hcl : (nI n).toNatClampNeg = n := nI_clamp (by omega)
  refine W.anew hX.1 hX.2.1 hX.2.2.2.2.2.1 (hX.2.2.2.2.2.2.2.1 _ hw1) (va_AO.use (hX.2.2.2.2.2.2.2.2.1.2.1 _ hw2)) rfl hd rfl (nI_pos (by omega)) (by rw [hcl]; omega) (by omega) (by rw [hcl]; omega) fun cA kA comp h1 h2 h3 h4 => ?_
  rw [hcl]
  have ho : ∀ q, q < H.size → (H.push { cls := cA, slots := Array.replicate n .null, vm := .none })[q]? = H[q]? := fun q hq => by rw [Array.getElem?_push, if_neg (Nat.ne_of_lt hq)]
  have z1 : (H.push { cls := cA, slots := Array.replicate n .null, vm := .none }).size = H.size + 1 := by simp
  refine W.eq (g2 := F0 m (pc + 3) ls (.ref (mm_nx B) :: st)) (by rw [hR.1]) ?_
  refine W.cs (cells' := mm_nx (mm_al B (205 + k) n n) - n0) (slots' := mm_sl (mm_al B (205 + k) n n) - s0) (by show _ = mm_nx B + 1 - n0; omega) (by show _ = mm_sl B + n - s0; omega) ?_
  refine h.2 p l e R s m args below meth c _ locs ls n0 s0 hX ⟨by show n0 ≤ mm_nx B + 1; omega, by show s0 ≤ mm_sl B + n; omega, hn.2.2⟩ (mm_R_new hlo hR z1 ho (by omega) (fun q hq => by simp [va_up, hq]) (fun q hq => by simp [va_up, hq]) (fun q hq => by simp [va_up, hq]) ?_) ⟨by rw [z1]; have := hS.1; omega, fun q h1 h2 => (ho q (Nat.lt_of_lt_of_le h1 hS.1)).trans (hS.2.1 q h1 h2), hS.2.2⟩ hl
  have eT : mm_T (mm_al B (205 + k) n n) (mm_nx B) = 205 + k := by show va_up (mm_T B) (mm_nx B) (205 + k) (mm_nx B) = _; simp [va_up]
  have eN : mm_N (mm_al B (205 + k) n n) (mm_nx B) = n := by show va_up (mm_N B) (mm_nx B) n (mm_nx B) = _; simp [va_up]
  refine ⟨fun e => by omega, fun ci' hc' e => by omega, fun k' e => ?_⟩
  obtain rfl : k' = k + 5 := by omega
  have hak : mm_ak (k + 5) = .object r.1 := by show FieldType.object _ = _; rw [hr]; rfl
  rw [eN, hak]
  refine ⟨cA, fun n z => ⟨fun k h => (by cases h), kA, h2, comp, h3⟩, ⟨kA, comp, h2, h3, h4, h1⟩, ?_⟩
  rw [arrV_new, ← hR.1]
  simp [va_up, mm_v, va_rf]
end EVN
section EVT
variable {g : mm_G} {M : mm_M} {pc : Nat} {lv lv' : mm_L} {st : List Value} {B : mm_B} {I : mm_TI} {J : mm_TJ} {P : mm_TP} {Z : mm_Z}
theorem ev_iret {x : Int32} (hd : decode M.2.1 pc = .ok (.ireturn, 1)) (hr : M.2.2.2.1 = some .int) (hz : Z = (some (.int x), B, I, J, P)) : Ev g M pc lv [.int x] B I J P Z := by
  subst hz
  exact ⟨⟨Nat.le_refl _, Nat.le_refl _⟩, fun p l e R s m args below meth c H locs ls n0 s0 hX hn hR hS hl => W.iret hX.1 hX.2.1 (hX.2.2.2.1.trans hr) (fun t ht hW => ⟨rfl, by rw [ht]; exact mm_R_moved hW.alike hR, hS.F ht⟩) hS.2.2 hd (hlocks := hX.2.2.2.2.1)⟩
theorem ev_lret {x : Int64} (hd : decode M.2.1 pc = .ok (.lreturn, 1)) (hr : M.2.2.2.1 = some .long) (hz : Z = (some (.long x), B, I, J, P)) : Ev g M pc lv [.long x] B I J P Z := by
  subst hz
  exact ⟨⟨Nat.le_refl _, Nat.le_refl _⟩, fun p l e R s m args below meth c H locs ls n0 s0 hX hn hR hS hl => W.lret hX.1 hX.2.1 (hX.2.2.2.1.trans hr) (fun t ht hW => ⟨rfl, by rw [ht]; exact mm_R_moved hW.alike hR, hS.F ht⟩) hS.2.2 hd (hlocks := hX.2.2.2.2.1)⟩
theorem ev_vret  (hd : decode M.2.1 pc = .ok (.return_, 1)) (hr : M.2.2.2.1 = none) (hz : Z = (none, B, I, J, P)) : Ev g M pc lv [] B I J P Z := by
  subst hz
  exact ⟨⟨Nat.le_refl _, Nat.le_refl _⟩, fun p l e R s m args below meth c H locs ls n0 s0 hX hn hR hS hl => W.vret hX.1 hX.2.1 (hX.2.2.2.1.trans hr) (fun t ht hW => ⟨rfl, by rw [ht]; exact mm_R_moved hW.alike hR, hS.F ht⟩) hS.2.2 hd (hlocks := hX.2.2.2.2.1)⟩
theorem ev_zret {x : Int32} {ty : FieldType} (hd : decode M.2.1 pc = .ok (.ireturn, 1)) (hr : M.2.2.2.1 = some ty) (hx : narrow ty (.int x) = .int x) (hz : Z = (some (.int x), B, I, J, P)) : Ev g M pc lv [.int x] B I J P Z := by
  subst hz
  exact ⟨⟨Nat.le_refl _, Nat.le_refl _⟩, fun p l e R s m args below meth c H locs ls n0 s0 hX hn hR hS hl => W.zret hX.1 hX.2.1 (hX.2.2.2.1.trans hr) hx (fun t ht hW => ⟨rfl, by rw [ht]; exact mm_R_moved hW.alike hR, hS.F ht⟩) hS.2.2 hd (hlocks := hX.2.2.2.2.1)⟩
theorem ev_aret {x : Nat} {ty : FieldType} (hd : decode M.2.1 pc = .ok (.areturn, 1)) (hr : M.2.2.2.1 = some ty) (ho : (∃ n, ty = .object n) ∨ ∃ t, ty = .array t) (hz : Z = (some (.ref x), B, I, J, P)) : Ev g M pc lv [.ref x] B I J P Z := by
  subst hz
  exact ⟨⟨Nat.le_refl _, Nat.le_refl _⟩, fun p l e R s m args below meth c H locs ls n0 s0 hX hn hR hS hl => W.aret hX.1 hX.2.1 (hX.2.2.2.1.trans hr) ho (Or.inr ⟨x, rfl⟩) (fun t ht hW => ⟨rfl, by rw [ht]; exact mm_R_moved hW.alike hR, hS.F ht⟩) hS.2.2 hd (hlocks := hX.2.2.2.2.1)⟩
theorem ev_aretN {ty : FieldType} (hd : decode M.2.1 pc = .ok (.areturn, 1)) (hr : M.2.2.2.1 = some ty) (ho : (∃ n, ty = .object n) ∨ ∃ t, ty = .array t) (hz : Z = (some .null, B, I, J, P)) : Ev g M pc lv [.null] B I J P Z := by
  subst hz
  exact ⟨⟨Nat.le_refl _, Nat.le_refl _⟩, fun p l e R s m args below meth c H locs ls n0 s0 hX hn hR hS hl => W.aret hX.1 hX.2.1 (hX.2.2.2.1.trans hr) ho (Or.inl rfl) (fun t ht hW => ⟨rfl, by rw [ht]; exact mm_R_moved hW.alike hR, hS.F ht⟩) hS.2.2 hd (hlocks := hX.2.2.2.2.1)⟩
end EVT
