section EVK0
variable {p : Program} {l : Launch} {e : Env} {R : Room} {s : State} {m : MethodId} {args : Array Value} {below : List Frame} {meth : Method} {c : Code} {H : Heap} {locs : List Loc} {cells slots : Nat} {Q : State → Prop}
variable {cc : ByteArray} {pc : Nat} {ls : Array Slot} {rest : List Value}
theorem mm_WIcopy (hexec : p.tables.exec = Jvm.exec) (hb : c.code = cc) (hml : c.maxLocals = ls.size) {own : String} {index : Nat} (hown : s.vm.findClass own = some m.cls) (hlink : (Cond.methodLink own index arraycopyName).before args s = true) (hnat : (Cond.native arraycopyName).before args s = true) (hstat : (Cond.static arraycopyName).before args s = true) (hini : (Cond.initialized "java/lang/System").before args s = true)
    {a0 a : Nat} {c0 c1 : ClassId} {n0 n1 : Nat} {f g : Nat → Int32} {ty : FieldType} (hc0 : H[a0]? = some (arrV c0 n0 (fun j => .int (f j)))) (hc1 : H[a]? = some (arrV c1 n1 (fun j => .int (g j)))) (ht0 : ArrOfT s c0 ty) (ht1 : ArrOfT s c1 ty) (hprim : refKind ty = false)
    {sp dp n : Int32} (h1 : ¬ sp < 0) (h2 : ¬ dp < 0) (h3 : ¬ n < 0) (h4 : sp.toNatClampNeg + n.toNatClampNeg ≤ n0) (h5 : dp.toNatClampNeg + n.toNatClampNeg ≤ n1) (hfit : ∀ i, i < n.toNatClampNeg → fits ty (.int (f (sp.toNatClampNeg + i))) = true)
    (hframes : 1 ≤ R.frames) (hlocals : (rest.map fun v => v.category).sum + (nativeFrameWords "java/lang/System" "arraycopy" 5 + 11) ≤ R.locals) (hdg : decode cc pc = .ok (.invokestatic index, 3))
    (kk : ∀ (H1 : Heap) (locs1 : List Loc), H1[a]? = some (arrV c1 n1 (fun j => .int (va_cpy f g sp.toNatClampNeg dp.toNatClampNeg n.toNatClampNeg j))) → H1.size = H.size → (∀ q, q ≠ a → H1[q]? = H[q]?) → (∀ z ∈ locs1, z ∈ locs ∨ z.base = a) → W p l e R s m args below meth c H1 locs1 cells slots Q (F0 m (pc + 3) ls rest)) : W p l e R s m args below meth c H locs cells slots Q (F0 m pc ls (.int n :: .int dp :: .ref a :: .int sp :: .ref a0 :: rest)) := by
  have nn : ∀ z : Int32, ¬ z < 0 → z.toInt = (z.toNatClampNeg : Int) := by
    intro z hz
    have hz0 : (0 : Int) ≤ z.toInt := by
      have := Int32.not_lt.mp hz
      simpa using Int32.le_iff_toInt_le.mp this
    show z.toInt = ((z.toInt.toNat : Nat) : Int)
    omega
  intro T hT X
  obtain ⟨-, k0, hk0, cm0, hkk0⟩ := ht0 n0 (fun j => .int (f j))
  obtain ⟨-, k1, hk1, cm1, hkk1⟩ := ht1 n1 (fun j => .int (g j))
  obtain ⟨vm', X', step⟩ := X.arraycopy hexec hown hlink hnat hstat hini (src := a0) (dst := a) (cs := arrV c0 n0 (fun j => .int (f j))) (cd := arrV c1 n1 (fun j => .int (g j))) (srcPos := sp) (destPos := dp) (n := n) (by rw [hT]; exact hc0) (by rw [hT]; exact hc1)
    (fun _ h => by cases h) (fun _ h => by cases h) (fun h => by cases h) (fun h => by cases h) hk0 hk1 hkk0 hkk1 (by simp [hprim]) h1 h2 h3
    (by rw [nn sp h1, nn n h3]; rw [arrV_size]; omega)
    (by rw [nn dp h2, nn n h3]; rw [arrV_size]; omega)
    (fun vm₁ _ i hi => by
      have e : (arrV c0 n0 (fun j => .int (f j))).slots.getD (sp.toNatClampNeg + i) .null = .int (f (sp.toNatClampNeg + i)) := by
        rw [Array.getD_eq_getD_getElem?, arrV_read _ _ (by omega)]
        rfl
      refine ⟨?_, ?_⟩
      · rw [e]
        exact hfit i hi
      · rw [e]
        exact trivial)
    (g := F0 m pc ls (.int n :: .int dp :: .ref a :: .int sp :: .ref a0 :: rest)) rfl (by rw [hml]) (rest := rest) rfl (by rw [hb]; exact hdg) hframes (by show 2 * 0 + _ + _ ≤ _; omega)
  have e1 : copied (arrV c0 n0 (fun j => .int (f j))) (arrV c1 n1 (fun j => .int (g j))) sp dp n = arrV c1 n1 (fun j => .int (va_cpy f g sp.toNatClampNeg dp.toNatClampNeg n.toNatClampNeg j)) := va_copied (fun z => .int z) c0 c1 f g h4
  rw [e1] at X' step
  have hl : a < H.size := (Array.getElem?_eq_some_iff.mp hc1).1
  have hheap : ((T.setVm vm').setCell a (arrV c1 n1 (fun j => .int (va_cpy f g sp.toNatClampNeg dp.toNatClampNeg n.toNatClampNeg j)))).heap = H.setIfInBounds a (arrV c1 n1 (fun j => .int (va_cpy f g sp.toNatClampNeg dp.toNatClampNeg n.toNatClampNeg j))) := by rw [← hT]; rfl
  obtain ⟨t, a1, b1⟩ := kk _ _ (by simp [Array.getElem?_setIfInBounds, hl]) (by simp) (fun q hq => by simp [Array.getElem?_setIfInBounds, Ne.symm hq]) (fun z hz => by
      rcases List.mem_append.mp hz with h | h
      · exact Or.inl h
      · obtain ⟨y, -, hy⟩ := List.mem_map.mp h
        exact Or.inr (by rw [← hy])) _ hheap X'
  exact ⟨t, step t a1, b1⟩
theorem mm_WJcopy (hexec : p.tables.exec = Jvm.exec) (hb : c.code = cc) (hml : c.maxLocals = ls.size) {own : String} {index : Nat} (hown : s.vm.findClass own = some m.cls) (hlink : (Cond.methodLink own index arraycopyName).before args s = true) (hnat : (Cond.native arraycopyName).before args s = true) (hstat : (Cond.static arraycopyName).before args s = true) (hini : (Cond.initialized "java/lang/System").before args s = true)
    {a0 a : Nat} {c0 c1 : ClassId} {n0 n1 : Nat} {f g : Nat → Int64} {ty : FieldType} (hc0 : H[a0]? = some (arrV c0 n0 (fun j => .long (f j)))) (hc1 : H[a]? = some (arrV c1 n1 (fun j => .long (g j)))) (ht0 : ArrOfT s c0 ty) (ht1 : ArrOfT s c1 ty) (hprim : refKind ty = false)
    {sp dp n : Int32} (h1 : ¬ sp < 0) (h2 : ¬ dp < 0) (h3 : ¬ n < 0) (h4 : sp.toNatClampNeg + n.toNatClampNeg ≤ n0) (h5 : dp.toNatClampNeg + n.toNatClampNeg ≤ n1) (hfit : ∀ i, i < n.toNatClampNeg → fits ty (.long (f (sp.toNatClampNeg + i))) = true)
    (hframes : 1 ≤ R.frames) (hlocals : (rest.map fun v => v.category).sum + (nativeFrameWords "java/lang/System" "arraycopy" 5 + 11) ≤ R.locals) (hdg : decode cc pc = .ok (.invokestatic index, 3))
    (kk : ∀ (H1 : Heap) (locs1 : List Loc), H1[a]? = some (arrV c1 n1 (fun j => .long (va_cpy f g sp.toNatClampNeg dp.toNatClampNeg n.toNatClampNeg j))) → H1.size = H.size → (∀ q, q ≠ a → H1[q]? = H[q]?) → (∀ z ∈ locs1, z ∈ locs ∨ z.base = a) → W p l e R s m args below meth c H1 locs1 cells slots Q (F0 m (pc + 3) ls rest)) : W p l e R s m args below meth c H locs cells slots Q (F0 m pc ls (.int n :: .int dp :: .ref a :: .int sp :: .ref a0 :: rest)) := by
  have nn : ∀ z : Int32, ¬ z < 0 → z.toInt = (z.toNatClampNeg : Int) := by
    intro z hz
    have hz0 : (0 : Int) ≤ z.toInt := by
      have := Int32.not_lt.mp hz
      simpa using Int32.le_iff_toInt_le.mp this
    show z.toInt = ((z.toInt.toNat : Nat) : Int)
    omega
  intro T hT X
  obtain ⟨-, k0, hk0, cm0, hkk0⟩ := ht0 n0 (fun j => .long (f j))
  obtain ⟨-, k1, hk1, cm1, hkk1⟩ := ht1 n1 (fun j => .long (g j))
  obtain ⟨vm', X', step⟩ := X.arraycopy hexec hown hlink hnat hstat hini (src := a0) (dst := a) (cs := arrV c0 n0 (fun j => .long (f j))) (cd := arrV c1 n1 (fun j => .long (g j))) (srcPos := sp) (destPos := dp) (n := n) (by rw [hT]; exact hc0) (by rw [hT]; exact hc1)
    (fun _ h => by cases h) (fun _ h => by cases h) (fun h => by cases h) (fun h => by cases h) hk0 hk1 hkk0 hkk1 (by simp [hprim]) h1 h2 h3
    (by rw [nn sp h1, nn n h3]; rw [arrV_size]; omega)
    (by rw [nn dp h2, nn n h3]; rw [arrV_size]; omega)
    (fun vm₁ _ i hi => by
      have e : (arrV c0 n0 (fun j => .long (f j))).slots.getD (sp.toNatClampNeg + i) .null = .long (f (sp.toNatClampNeg + i)) := by
        rw [Array.getD_eq_getD_getElem?, arrV_read _ _ (by omega)]
        rfl
      refine ⟨?_, ?_⟩
      · rw [e]
        exact hfit i hi
      · rw [e]
        exact trivial)
    (g := F0 m pc ls (.int n :: .int dp :: .ref a :: .int sp :: .ref a0 :: rest)) rfl (by rw [hml]) (rest := rest) rfl (by rw [hb]; exact hdg) hframes (by show 2 * 0 + _ + _ ≤ _; omega)
  have e1 : copied (arrV c0 n0 (fun j => .long (f j))) (arrV c1 n1 (fun j => .long (g j))) sp dp n = arrV c1 n1 (fun j => .long (va_cpy f g sp.toNatClampNeg dp.toNatClampNeg n.toNatClampNeg j)) := va_copied (fun z => .long z) c0 c1 f g h4
  rw [e1] at X' step
  have hl : a < H.size := (Array.getElem?_eq_some_iff.mp hc1).1
  have hheap : ((T.setVm vm').setCell a (arrV c1 n1 (fun j => .long (va_cpy f g sp.toNatClampNeg dp.toNatClampNeg n.toNatClampNeg j)))).heap = H.setIfInBounds a (arrV c1 n1 (fun j => .long (va_cpy f g sp.toNatClampNeg dp.toNatClampNeg n.toNatClampNeg j))) := by rw [← hT]; rfl
  obtain ⟨t, a1, b1⟩ := kk _ _ (by simp [Array.getElem?_setIfInBounds, hl]) (by simp) (fun q hq => by simp [Array.getElem?_setIfInBounds, Ne.symm hq]) (fun z hz => by
      rcases List.mem_append.mp hz with h | h
      · exact Or.inl h
      · obtain ⟨y, -, hy⟩ := List.mem_map.mp h
        exact Or.inr (by rw [← hy])) _ hheap X'
  exact ⟨t, step t a1, b1⟩
end EVK0
section EVK
variable {g : mm_G} {M Mc : mm_M} {pc idx : Nat} {lv lv' : mm_L} {st : List Value} {B : mm_B} {I : mm_TI} {J : mm_TJ} {P : mm_TP} {Z : mm_Z}
theorem ev_gets (pc' : Nat) {i : Nat} {n : String} (hst : mm_st[i]? = some n) (hd : decode M.2.1 pc = .ok (.getstatic idx, 3)) (hw : Cond.fieldLink M.1.cls idx mm_own n "[I" ∈ lw_all) (hp : pc + 3 = pc') (h : Ev g M pc' lv (.ref (g.2.2 i) :: st) B I J P Z) : Ev g M pc lv st B I J P Z := by
  subst hp
  exact ⟨h.1, fun p l e R s m args below meth c H locs ls n0 s0 hX hn hR hS hl => va_gets hX.1 hX.2.1 (hX.2.2.2.2.2.2.2.2.1.2.2 i n hst) hS hX.2.2.2.2.2.1 (hX.2.2.2.2.2.2.2.1 _ hw) (fun _ h => h) hd (h.2 p l e R s m args below meth c H locs ls n0 s0 hX hn hR hS hl)⟩
theorem ev_getsN (pc' : Nat) {i : Nat} {n host : String} (hst : mm_st[i]? = some n) (hd : decode M.2.1 pc = .ok (.getstatic idx, 3)) (hw : Cond.fieldLinkNest M.1.cls idx mm_own n "[I" host ∈ lw_nst) (hp : pc + 3 = pc') (h : Ev g M pc' lv (.ref (g.2.2 i) :: st) B I J P Z) : Ev g M pc lv st B I J P Z := by
  subst hp
  exact ⟨h.1, fun p l e R s m args below meth c H locs ls n0 s0 hX hn hR hS hl => va_getsN hX.1 hX.2.1 (hX.2.2.2.2.2.2.2.2.1.2.2 i n hst) hS hX.2.2.2.2.2.1 (va_Nw.use rfl (hX.2.2.2.2.2.2.2.2.1.2.1 _ hw)) (fun _ h => h) hd (h.2 p l e R s m args below meth c H locs ls n0 s0 hX hn hR hS hl)⟩
theorem ev_copyI (pc' : Nat) {q0 q1 : Nat} {sp dp nn : Int32} (a b n k : Nat) (hd : decode M.2.1 pc = .ok (.invokestatic idx, 3)) (w1 : Cond.methodLink M.1.cls idx arraycopyName ∈ lw_all) (w2 : Cond.native arraycopyName ∈ lw_all) (w3 : Cond.static arraycopyName ∈ lw_all) (w4 : Cond.initialized "java/lang/System" ∈ lw_all) (hk : k < 4) (t0 : mm_T B q0 = 200 + k) (t1 : mm_T B q1 = 200 + k) (e1 : sp = nI a) (e2 : dp = nI b) (e3 : nn = nI n) (l0 : a + n ≤ mm_N B q0) (l1 : b + n ≤ mm_N B q1) (hfit : ∀ i, i < n → fits (mm_ak k) (.int (I q0 (a + i))) = true) (hf : 1 ≤ M.2.2.2.2.1) (hlo : 8 + (nativeFrameWords "java/lang/System" "arraycopy" 5 + 11) ≤ M.2.2.2.2.2) (hw : (st.map fun v => v.category).sum ≤ 8) (hp : pc + 3 = pc') (h : Ev g M pc' lv st B (va_up I q1 (va_cpy (I q0) (I q1) a b n)) J P Z) : Ev g M pc lv (.int nn :: .int dp :: .ref q1 :: .int sp :: .ref q0 :: st) B I J P Z := by
  subst hp
  subst e1
  subst e2
  subst e3
  refine ⟨h.1, fun p l e R s m args below meth c H locs ls n0 s0 hX hn hR hS hl => ?_⟩
  have hmv : ∀ (x : Int32) (y : Int64) (z : Option Nat), mm_v (mm_ak k) x y z = .int x := by
    rcases (show k = 0 ∨ k = 1 ∨ k = 2 ∨ k = 3 by omega) with rfl | rfl | rfl | rfl <;> exact fun _ _ _ => rfl
  have hpr : refKind (mm_ak k) = false := by
    rcases (show k = 0 ∨ k = 1 ∨ k = 2 ∨ k = 3 by omega) with rfl | rfl | rfl | rfl <;> rfl
  obtain ⟨c0, a1, a2, a3⟩ := mm_arr (k := k) hR t0
  obtain ⟨c1, b1, b2, b3⟩ := mm_arr (k := k) hR t1
  simp only [hmv] at a3 b3
  have h31 := mm_lt31 (q := q0) hR (by omega)
  have h32 := mm_lt31 (q := q1) hR (by omega)
  have hlo2 := (hR.2 q1 (by omega)).2.1 (by omega)
  have ca : (nI a).toNatClampNeg = a := nI_clamp (by omega)
  have cb : (nI b).toNatClampNeg = b := nI_clamp (by omega)
  have cn : (nI n).toNatClampNeg = n := nI_clamp (by omega)
  refine mm_WIcopy hX.1 hX.2.1 (by rw [hX.2.2.1]; exact hl.1.symm) hX.2.2.2.2.2.1 (hX.2.2.2.2.2.2.2.1 _ w1) (hX.2.2.2.2.2.2.2.1 _ w2) (hX.2.2.2.2.2.2.2.1 _ w3) (hX.2.2.2.2.2.2.2.1 _ w4) a3 b3 a1 b1 hpr (nI_pos (by omega)) (nI_pos (by omega)) (nI_pos (by omega)) (by rw [ca, cn]; exact l0) (by rw [cb, cn]; exact l1) (fun i hi => by rw [cn] at hi; rw [ca]; exact hfit i hi) (Nat.le_trans hf hX.2.2.2.2.2.2.2.2.2.1) (by have := hX.2.2.2.2.2.2.2.2.2.2.1; omega) hd fun H' locs' e1 e2 e3 e4 => ?_
  rw [ca, cb, cn] at e1
  refine h.2 p l e R s m args below meth c H' locs' ls n0 s0 hX hn (mm_R_put hR e2 e3 (fun z hz => by simp [va_up, hz]) (fun z hz => by simp [va_up, hz]) (fun _ _ => rfl) ⟨fun e => by omega, fun ci hc e => by omega, fun k' e => ?_⟩) ⟨by rw [e2]; exact hS.1, fun q g1 g2 => by rw [e3 q (fun z => g2 (by rw [z]; exact hlo2))]; exact hS.2.1 q g1 g2, fun z hz => by
      rcases e4 z hz with h | h
      · exact hS.2.2 z h
      · show g.1 ≤ z.base
        rw [h]; exact hlo2⟩ hl
  obtain rfl : k' = k := by omega
  refine ⟨c1, b1, b2, ?_⟩
  simp only [hmv]
  rw [e1]
  simp [va_up]
theorem ev_copyJ (pc' : Nat) {q0 q1 : Nat} {sp dp nn : Int32} (a b n : Nat) (hd : decode M.2.1 pc = .ok (.invokestatic idx, 3)) (w1 : Cond.methodLink M.1.cls idx arraycopyName ∈ lw_all) (w2 : Cond.native arraycopyName ∈ lw_all) (w3 : Cond.static arraycopyName ∈ lw_all) (w4 : Cond.initialized "java/lang/System" ∈ lw_all)  (t0 : mm_T B q0 = 204) (t1 : mm_T B q1 = 204) (e1 : sp = nI a) (e2 : dp = nI b) (e3 : nn = nI n) (l0 : a + n ≤ mm_N B q0) (l1 : b + n ≤ mm_N B q1)  (hf : 1 ≤ M.2.2.2.2.1) (hlo : 8 + (nativeFrameWords "java/lang/System" "arraycopy" 5 + 11) ≤ M.2.2.2.2.2) (hw : (st.map fun v => v.category).sum ≤ 8) (hp : pc + 3 = pc') (h : Ev g M pc' lv st B I (va_up J q1 (va_cpy (J q0) (J q1) a b n)) P Z) : Ev g M pc lv (.int nn :: .int dp :: .ref q1 :: .int sp :: .ref q0 :: st) B I J P Z := by
  subst hp
  subst e1
  subst e2
  subst e3
  refine ⟨h.1, fun p l e R s m args below meth c H locs ls n0 s0 hX hn hR hS hl => ?_⟩
  have hmv : ∀ (x : Int32) (y : Int64) (z : Option Nat), mm_v (mm_ak 4) x y z = .long y := fun _ _ _ => rfl
  have hpr : refKind (mm_ak 4) = false := rfl
  obtain ⟨c0, a1, a2, a3⟩ := mm_arr (k := 4) hR t0
  obtain ⟨c1, b1, b2, b3⟩ := mm_arr (k := 4) hR t1
  simp only [hmv] at a3 b3
  have h31 := mm_lt31 (q := q0) hR (by omega)
  have h32 := mm_lt31 (q := q1) hR (by omega)
  have hlo2 := (hR.2 q1 (by omega)).2.1 (by omega)
  have ca : (nI a).toNatClampNeg = a := nI_clamp (by omega)
  have cb : (nI b).toNatClampNeg = b := nI_clamp (by omega)
  have cn : (nI n).toNatClampNeg = n := nI_clamp (by omega)
  refine mm_WJcopy hX.1 hX.2.1 (by rw [hX.2.2.1]; exact hl.1.symm) hX.2.2.2.2.2.1 (hX.2.2.2.2.2.2.2.1 _ w1) (hX.2.2.2.2.2.2.2.1 _ w2) (hX.2.2.2.2.2.2.2.1 _ w3) (hX.2.2.2.2.2.2.2.1 _ w4) a3 b3 a1 b1 hpr (nI_pos (by omega)) (nI_pos (by omega)) (nI_pos (by omega)) (by rw [ca, cn]; exact l0) (by rw [cb, cn]; exact l1) (fun i hi => rfl) (Nat.le_trans hf hX.2.2.2.2.2.2.2.2.2.1) (by have := hX.2.2.2.2.2.2.2.2.2.2.1; omega) hd fun H' locs' e1 e2 e3 e4 => ?_
  rw [ca, cb, cn] at e1
  refine h.2 p l e R s m args below meth c H' locs' ls n0 s0 hX hn (mm_R_put hR e2 e3 (fun z hz => by simp [va_up, hz]) (fun z hz => by simp [va_up, hz]) (fun _ _ => rfl) ⟨fun e => by omega, fun ci hc e => by omega, fun k' e => ?_⟩) ⟨by rw [e2]; exact hS.1, fun q g1 g2 => by rw [e3 q (fun z => g2 (by rw [z]; exact hlo2))]; exact hS.2.1 q g1 g2, fun z hz => by
      rcases e4 z hz with h | h
      · exact hS.2.2 z h
      · show g.1 ≤ z.base
        rw [h]; exact hlo2⟩ hl
  obtain rfl : k' = 4 := by omega
  refine ⟨c1, b1, b2, ?_⟩
  simp only [hmv]
  rw [e1]
  simp [va_up]
end EVK
