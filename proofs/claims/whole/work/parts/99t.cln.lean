/-! clones of rows, casts to a row's class; Arrays.copyOf -/
section CLN
variable {p : Program} {l : Launch} {e : Env} {R : Room} {s : State} {m : MethodId} {args : Array Value} {below : List Frame} {meth : Method} {c : Code} {H : Heap} {locs : List Loc} {cells slots : Nat} {Q : State → Prop}
variable {cc : ByteArray} {pc : Nat} {ls : Array Slot} {rest : List Value} {a : Nat}
theorem mm_cln (hexec : p.tables.exec = Jvm.exec) (hb : c.code = cc) (hml : c.maxLocals = ls.size) {own ad : String} {index : Nat} (hown : s.vm.findClass own = some m.cls)
    (hlink : (Cond.methodLink own index ⟨ad, "clone", "()Ljava/lang/Object;"⟩).before args s = true) (hsame : (Cond.sameMethod ad "java/lang/Object" "clone" "()Ljava/lang/Object;").before args s = true)
    (hnat : (Cond.native ⟨"java/lang/Object", "clone", "()Ljava/lang/Object;"⟩).before args s = true) (hinst : (Cond.instanceMethod ⟨"java/lang/Object", "clone", "()Ljava/lang/Object;"⟩).before args s = true)
    (hsel : (Cond.selects ad ⟨ad, "clone", "()Ljava/lang/Object;"⟩ ⟨"java/lang/Object", "clone", "()Ljava/lang/Object;"⟩).before args s = true) (hcl : va_Nw (.castable ad "java/lang/Cloneable") s)
    {cA : ClassId} {N : Nat} {F : Nat → Value} {ty : FieldType} (ha : H[a]? = some (arrV cA N F)) (ht : ArrOfT s cA ty)
    (hnm : s.vm.findClass ad = some cA) (hfit : ∀ i : Nat, i < N → fits ty (F i) = true)
    (hframes : 1 ≤ R.frames) (hlocals : (rest.map fun v => v.category).sum + 14 ≤ R.locals) (hcells : cells + 1 ≤ R.cells) (hslots : slots + N ≤ R.slots) (hdg : decode cc pc = .ok (.invokevirtual index, 3))
    (kk : ∀ H1 : Heap, H1[H.size]? = some (arrV cA N F) → H1.size = H.size + 1 → (∀ q : Nat, q < H.size → H1[q]? = H[q]?) →
      W p l e R s m args below meth c H1 locs (cells + 1) (slots + N) Q (F0 m (pc + 3) ls (.ref H.size :: rest))) : W p l e R s m args below meth c H locs cells slots Q (F0 m pc ls (.ref a :: rest)) := by
  have hsz : (arrV cA N F).slots.size = N := arrV_size _ _ _
  have hcellE : ({ cls := (arrV cA N F).cls, slots := (arrV cA N F).slots } : Cell) = arrV cA N F := rfl
  obtain ⟨c0, t0', f1, f2, f3⟩ := Cond.castable_spec (va_Nw.use (A := args) rfl hcl)
  cases hnm.symm.trans f1
  intro T hT X
  have hcellT : T.heap[a]? = some (arrV cA N F) := by rw [hT]; exact ha
  obtain ⟨-, kA, hkA, comp, hkind⟩ := State.isArrayOf_alike X.warmed.alike (ht 0 (fun _ => .null))
  obtain ⟨-, kS, hkS, compS, hkindS⟩ := ht 0 (fun _ => .null)
  obtain ⟨vm', X', st⟩ := X.cloneArray hexec hown hlink hsame hnat hinst hsel (a := a) (cell := arrV cA N F) hcellT (fun k h => by cases h) (fun h => by cases h) hnm f2 f3
    (fun i v hv => by
      have hk' : T.vm.classes[cA]? = some kA := hkA
      have := va_fit hfit i v hv
      show T.fitsSlot cA .none i v = true
      simpa [State.fitsSlot, State.slotType?, hk', hkind] using this)
    (g := F0 m pc ls (.ref a :: rest)) rfl (by rw [hml]) rfl (by rw [hb]; exact hdg) hframes (by show 2 * 0 + _ + 14 ≤ _; omega) hcells (by rw [hsz]; exact hslots) (hloader := Vm.clonesLoader_of_array hkS hkindS)
  rw [hcellE, hsz] at X'
  generalize hH1 : H.push (arrV cA N F) = H1
  obtain ⟨t, b1, b2⟩ := kk H1 (by rw [← hH1, Array.getElem?_push_size]) (by rw [← hH1, Array.size_push]) (fun q hq => by rw [← hH1, Array.getElem?_push, if_neg (Nat.ne_of_lt hq)])
    ((T.setVm vm').pushCell (arrV cA N F)) (by rw [← hH1, ← hT]; rfl) X'
  refine ⟨t, st t ?_, b2⟩
  rw [hcellE, hT]
  exact b1
theorem mm_cst (hexec : p.tables.exec = Jvm.exec) (hb : c.code = cc) {own nm : String} {index : Nat} (hown : s.vm.findClass own = some m.cls) (hlink : (Cond.classLink own index nm).before args s = true) {cA : ClassId} {N : Nat} {F : Nat → Value} (ha : H[a]? = some (arrV cA N F)) (hnm : s.vm.findClass nm = some cA) (hdg : decode cc pc = .ok (.checkcast index, 3))
    (k : W p l e R s m args below meth c H locs cells slots Q (F0 m (pc + 3) ls (.ref a :: rest))) : W p l e R s m args below meth c H locs cells slots Q (F0 m pc ls (.ref a :: rest)) := by
  intro T hT X
  obtain ⟨vm', X', st⟩ := X.checkcastYes hexec hown hlink (by rw [hT]; exact ha) rfl hnm (va_asg _ _) (g := F0 m pc ls (.ref a :: rest)) rfl rfl (by rw [hb]; exact hdg)
  obtain ⟨t, a1, b1⟩ := k (T.setVm vm') hT X'
  exact ⟨t, st t a1, b1⟩
end CLN
section EVC
variable {g : mm_G} {M : mm_M} {pc : Nat} {lv lv' : mm_L} {st : List Value} {B : mm_B} {I : mm_TI} {J : mm_TJ} {P : mm_TP} {Z : mm_Z}
theorem ev_clone (pc' : Nat) {q idx : Nat} (k : Nat) {ad : String} (hd : decode M.2.1 pc = .ok (.invokevirtual idx, 3)) (w1 : Cond.methodLink M.1.cls idx ⟨ad, "clone", "()Ljava/lang/Object;"⟩ ∈ lw_all) (w2 : Cond.sameMethod ad "java/lang/Object" "clone" "()Ljava/lang/Object;" ∈ lw_all) (w3 : Cond.native ⟨"java/lang/Object", "clone", "()Ljava/lang/Object;"⟩ ∈ lw_all) (w4 : Cond.instanceMethod ⟨"java/lang/Object", "clone", "()Ljava/lang/Object;"⟩ ∈ lw_all) (w5 : Cond.selects ad ⟨ad, "clone", "()Ljava/lang/Object;"⟩ ⟨"java/lang/Object", "clone", "()Ljava/lang/Object;"⟩ ∈ lw_all) (w6 : Cond.castable ad "java/lang/Cloneable" ∈ lw_nst)
    (hk : k < 4) (had : ad = "[" ++ (mm_ak k).toString) (t0 : mm_T B q = 200 + k) (hfit : ∀ i, i < mm_N B q → fits (mm_ak k) (.int (I q i)) = true) (hf : 1 ≤ M.2.2.2.2.1) (hlo : 22 ≤ M.2.2.2.2.2) (hw : (st.map fun v => v.category).sum ≤ 8) (hp : pc + 3 = pc')
    (h : Ev g M pc' lv (.ref (mm_nx B) :: st) (mm_al B (200 + k) (mm_N B q) (mm_N B q)) (va_up I (mm_nx B) (I q)) (va_up J (mm_nx B) (fun _ => 0)) (va_up P (mm_nx B) (fun _ => none)) Z) : Ev g M pc lv (.ref q :: st) B I J P Z := by
  subst hp
  have hm : mm_nx B + 1 ≤ mm_nx Z.2.1 ∧ mm_sl B + mm_N B q ≤ mm_sl Z.2.1 := h.1
  refine ⟨⟨by omega, by omega⟩, fun p l e R s m args below meth c H locs ls n0 s0 hX hn hR hS hl => ?_⟩
  have hlo2 : g.1 ≤ H.size := Nat.le_trans hX.2.2.2.2.2.2.2.2.2.2.2 hS.1
  have hmv : ∀ (x : Int32) (y : Int64) (z : Option Nat), mm_v (mm_ak k) x y z = .int x := by
    rcases (show k = 0 ∨ k = 1 ∨ k = 2 ∨ k = 3 by omega) with rfl | rfl | rfl | rfl <;> exact fun _ _ _ => rfl
  obtain ⟨c0, a1, a2, a3⟩ := mm_arr (k := k) hR t0
  have a2' := a2
  have hnm : s.vm.findClass ad = some c0 := by
    rw [had]
    rcases (show k = 0 ∨ k = 1 ∨ k = 2 ∨ k = 3 by omega) with rfl | rfl | rfl | rfl <;> exact a2
  simp only [hmv] at a3
  have h31 := mm_lt31 (q := q) hR (by omega)
  refine mm_cln hX.1 hX.2.1 (by rw [hX.2.2.1]; exact hl.1.symm) hX.2.2.2.2.2.1 (hX.2.2.2.2.2.2.2.1 _ w1) (hX.2.2.2.2.2.2.2.1 _ w2) (hX.2.2.2.2.2.2.2.1 _ w3) (hX.2.2.2.2.2.2.2.1 _ w4) (hX.2.2.2.2.2.2.2.1 _ w5) (hX.2.2.2.2.2.2.2.2.1.2.1 _ w6) a3 a1 hnm hfit (Nat.le_trans hf hX.2.2.2.2.2.2.2.2.2.1) (by have := hX.2.2.2.2.2.2.2.2.2.2.1; omega) (by omega) (by omega) hd fun H1 e1 z1 o1 => ?_
  refine W.cs (cells' := mm_nx (mm_al B (200 + k) (mm_N B q) (mm_N B q)) - n0) (slots' := mm_sl (mm_al B (200 + k) (mm_N B q) (mm_N B q)) - s0) (by show _ = mm_nx B + 1 - n0; omega) (by show _ = mm_sl B + mm_N B q - s0; omega) ?_
  rw [hR.1]
  rw [hR.1] at e1
  refine h.2 p l e R s m args below meth c H1 locs ls n0 s0 hX ⟨by show n0 ≤ mm_nx B + 1; omega, by show s0 ≤ mm_sl B + mm_N B q; omega, hn.2.2⟩ (mm_R_new hlo2 hR z1 o1 h31 (fun q hq => by simp [va_up, hq]) (fun q hq => by simp [va_up, hq]) (fun q hq => by simp [va_up, hq]) ?_) ⟨by rw [z1]; have := hS.1; omega, fun q h1 h2 => (o1 q (Nat.lt_of_lt_of_le h1 hS.1)).trans (hS.2.1 q h1 h2), hS.2.2⟩ hl
  have eT : mm_T (mm_al B (200 + k) (mm_N B q) (mm_N B q)) (mm_nx B) = 200 + k := va_up_s _ _ _
  have eN : mm_N (mm_al B (200 + k) (mm_N B q) (mm_N B q)) (mm_nx B) = mm_N B q := va_up_s _ _ _
  refine ⟨fun e => by omega, fun ci' hc' e => by omega, fun k' e => ?_⟩
  obtain rfl : k' = k := by omega
  rw [eN]
  refine ⟨c0, a1, a2', ?_⟩
  simp only [hmv]
  rw [va_up_s]
  exact e1
theorem ev_castA (pc' : Nat) {q idx : Nat} (k : Nat) {nm : String} (hd : decode M.2.1 pc = .ok (.checkcast idx, 3)) (w : Cond.classLink M.1.cls idx nm ∈ lw_all) (hk : k < 4) (had : nm = "[" ++ (mm_ak k).toString) (t0 : mm_T B q = 200 + k) (hp : pc + 3 = pc') (h : Ev g M pc' lv (.ref q :: st) B I J P Z) : Ev g M pc lv (.ref q :: st) B I J P Z := by
  subst hp
  refine ⟨h.1, fun p l e R s m args below meth c H locs ls n0 s0 hX hn hR hS hl => ?_⟩
  obtain ⟨c0, a1, a2, a3⟩ := mm_arr (k := k) hR t0
  have hnm : s.vm.findClass nm = some c0 := by
    rw [had]
    rcases (show k = 0 ∨ k = 1 ∨ k = 2 ∨ k = 3 by omega) with rfl | rfl | rfl | rfl <;> exact a2
  exact mm_cst hX.1 hX.2.1 hX.2.2.2.2.2.1 (hX.2.2.2.2.2.2.2.1 _ w) a3 hnm hd (h.2 p l e R s m args below meth c H locs ls n0 s0 hX hn hR hS hl)
end EVC
theorem i32_m128 : (-128 : Int32).toInt = -128 := by decide
theorem i32_127 : (127 : Int32).toInt = 127 := by decide
theorem fit_b {v : Int32} (h : b8 v = v) : fits .byte (.int v) = true := by
  have := b8_r v
  rw [h] at this
  show (decide (-128 ≤ v) && decide (v ≤ 127)) = true
  rw [decide_eq_true (Int32.le_iff_toInt_le.mpr (by rw [i32_m128]; exact this.1)), decide_eq_true (Int32.le_iff_toInt_le.mpr (by rw [i32_127]; exact this.2))]; rfl
theorem fit_s {v : Int32} (h1 : -32768 ≤ v.toInt) (h2 : v.toInt ≤ 32767) : fits .short (.int v) = true := by
  show (decide (-32768 ≤ v) && decide (v ≤ 32767)) = true
  rw [decide_eq_true (Int32.le_iff_toInt_le.mpr (by rw [i32_m32768]; exact h1)), decide_eq_true (Int32.le_iff_toInt_le.mpr (by rw [show (32767 : Int32).toInt = 32767 by decide]; exact h2))]; rfl
section CPY
variable {g : mm_G} {B : mm_B} {I : mm_TI} {J : mm_TJ} {P : mm_TP}
theorem cx_copyB {q n s : Nat} (tq : mm_T B q = 201) (nq : mm_N B q = n) (hqn : q < mm_nx B) (hn : n ≤ 64) (hs : s ≤ n) (hb : ∀ k, k < s → b8 (I q k) = I q k) : ∃ F : Nat → Int32, (∀ k, k < s → F k = I q k) ∧ Ct g mJ7_copyOf_9075b [.ref q, .int (nI s)] B I J P (some (.ref (mm_nx B)), mm_al B 201 s s, va_up I (mm_nx B) F, va_up J (mm_nx B) (fun _ => 0), va_up P (mm_nx B) (fun _ => none)) := by
  by_cases e : s = n
  · subst e
    refine ⟨I q, fun _ _ => rfl, ?_⟩
    refine ct_of (lv := [some (.ref q), some (.int (nI s)), none]) (by decide +kernel) (Nat.le_of_ble_eq_true rfl) rfl ?_
    refine ev_iload_n 1 dJ7_copyOf_9075b_0 rfl rfl ?_
    refine ev_aload_n 2 dJ7_copyOf_9075b_1 rfl rfl ?_
    refine ev_alen 3 1 dJ7_copyOf_9075b_2 tq rfl ?_
    rw [nq]
    refine ev_icmp_neN 6 14 dJ7_copyOf_9075b_3 (by decide) (by omega) (by omega) rfl (fun hx => absurd rfl hx) (fun _ => ?_)
    refine ev_aload_n 7 dJ7_copyOf_9075b_6 rfl rfl ?_
    refine ev_clone 10 1 dJ7_copyOf_9075b_7 lk965 lk966 lk967 lk968 lk969 lk970 (by decide) rfl tq (fun i hi => fit_b (hb i (by omega))) (by decide) (by decide) (by decide) rfl ?_
    rw [nq]
    refine ev_castA 13 1 dJ7_copyOf_9075b_10 lk971 (by decide) rfl al_Ts rfl ?_
    exact ev_aret dJ7_copyOf_9075b_13 rfl (Or.inr ⟨_, rfl⟩) rfl
  · refine ⟨va_cpy (I q) (fun _ => 0) 0 0 s, fun k hk => by rw [pk_cpy_in (by omega) (by omega)]; congr 1; omega, ?_⟩
    refine ct_of (lv := [some (.ref q), some (.int (nI s)), none]) (by decide +kernel) (Nat.le_of_ble_eq_true rfl) rfl ?_
    refine ev_iload_n 1 dJ7_copyOf_9075b_0 rfl rfl ?_
    refine ev_aload_n 2 dJ7_copyOf_9075b_1 rfl rfl ?_
    refine ev_alen 3 1 dJ7_copyOf_9075b_2 tq rfl ?_
    rw [nq]
    refine ev_icmp_neN 6 14 dJ7_copyOf_9075b_3 (by decide) (by omega) (by omega) rfl (fun _ => ?_) (fun hx => absurd hx e)
    refine ev_iload_n 15 dJ7_copyOf_9075b_14 rfl rfl ?_
    have tq' : mm_T (mm_al B 201 s s) q = 201 := (al_T (by omega)).trans tq
    have nq' : mm_N (mm_al B 201 s s) q = n := (al_N (by omega)).trans nq
    have tn : mm_T (mm_al B 201 s s) (mm_nx B) = 201 := al_Ts
    have nn' : mm_N (mm_al B 201 s s) (mm_nx B) = s := al_Ns
    have e1 : va_up I (mm_nx B) (fun _ => 0) q = I q := va_up_n _ _ (by omega)
    refine ev_newa 17 (s) 1 dJ7_copyOf_9075b_15 rfl (by decide) lk292 rfl (by omega) rfl ?_
    show Ev g _ 17 _ _ (mm_al B 201 s s) _ _ _ _
    refine ev_astore_n 18 (lv' := [_, some (.int _), _]) dJ7_copyOf_9075b_17 (Nat.le_of_ble_eq_true rfl) rfl rfl ?_
    refine ev_aload_n 19 dJ7_copyOf_9075b_18 rfl rfl ?_
    refine ev_iconstN 20 0 dJ7_copyOf_9075b_19 rfl ?_
    refine ev_aload_n 21 dJ7_copyOf_9075b_20 rfl rfl ?_
    refine ev_iconstN 22 0 dJ7_copyOf_9075b_21 rfl ?_
    refine ev_aload_n 23 dJ7_copyOf_9075b_22 rfl rfl ?_
    refine ev_alen 24 1 dJ7_copyOf_9075b_23 tq' rfl ?_
    refine ev_iload_n 25 dJ7_copyOf_9075b_24 rfl rfl ?_
    rw [nq']
    refine ev_min 28 dJ7_copyOf_9075b_25 lk972 lk759 lk87 lk760 (Nat.le_of_ble_eq_true rfl) (Nat.le_of_ble_eq_true rfl) (Nat.le_of_ble_eq_true rfl) rfl ?_
    refine ev_eqI (y := nI (s)) ((by rw [nI_min (by omega) (by omega), Nat.min_eq_right hs])) ?_
    have hfit : ∀ i, i < s → fits (mm_ak 1) (.int (va_up I (mm_nx B) (fun _ => 0) q (0 + i))) = true := fun i hi => by rw [e1]; exact fit_b (hb _ (by omega))
    refine ev_copyI 31 (0) (0) (s) 1 dJ7_copyOf_9075b_28 lk973 lk650 lk649 lk88 (by decide) tq' tn rfl rfl rfl (by omega) (by omega) (by assumption) (Nat.le_of_ble_eq_true rfl) (Nat.le_of_ble_eq_true rfl) (Nat.le_of_ble_eq_true rfl) rfl ?_
    rw [e1, va_up_s, bx_uu]
    refine ev_aload_n 32 dJ7_copyOf_9075b_31 rfl rfl ?_
    exact ev_aret dJ7_copyOf_9075b_32 rfl (Or.inr ⟨_, rfl⟩) (rfl)
theorem cx_copyS {q n s : Nat} (tq : mm_T B q = 202) (nq : mm_N B q = n) (hqn : q < mm_nx B) (hn : n ≤ 64) (hs : s ≤ n) (hb : ∀ k, k < s → -256 ≤ (I q k).toInt ∧ (I q k).toInt ≤ 255) : ∃ F : Nat → Int32, (∀ k, k < s → F k = I q k) ∧ Ct g mJ7_copyOf_974b1 [.ref q, .int (nI s)] B I J P (some (.ref (mm_nx B)), mm_al B 202 s s, va_up I (mm_nx B) F, va_up J (mm_nx B) (fun _ => 0), va_up P (mm_nx B) (fun _ => none)) := by
  have hfs : ∀ k, k < s → fits .short (.int (I q k)) = true := fun k hk => fit_s (by have := hb k hk; omega) (by have := hb k hk; omega)
  by_cases e : s = n
  · subst e
    refine ⟨I q, fun _ _ => rfl, ?_⟩
    refine ct_of (lv := [some (.ref q), some (.int (nI s)), none]) (by decide +kernel) (Nat.le_of_ble_eq_true rfl) rfl ?_
    refine ev_iload_n 1 dJ7_copyOf_974b1_0 rfl rfl ?_
    refine ev_aload_n 2 dJ7_copyOf_974b1_1 rfl rfl ?_
    refine ev_alen 3 2 dJ7_copyOf_974b1_2 tq rfl ?_
    rw [nq]
    refine ev_icmp_neN 6 14 dJ7_copyOf_974b1_3 (by decide) (by omega) (by omega) rfl (fun hx => absurd rfl hx) (fun _ => ?_)
    refine ev_aload_n 7 dJ7_copyOf_974b1_6 rfl rfl ?_
    refine ev_clone 10 2 dJ7_copyOf_974b1_7 lk977 lk978 lk967 lk968 lk979 lk980 (by decide) rfl tq (fun i hi => hfs i (by omega)) (by decide) (by decide) (by decide) rfl ?_
    rw [nq]
    refine ev_castA 13 2 dJ7_copyOf_974b1_10 lk981 (by decide) rfl al_Ts rfl ?_
    exact ev_aret dJ7_copyOf_974b1_13 rfl (Or.inr ⟨_, rfl⟩) rfl
  · refine ⟨va_cpy (I q) (fun _ => 0) 0 0 s, fun k hk => by rw [pk_cpy_in (by omega) (by omega)]; congr 1; omega, ?_⟩
    refine ct_of (lv := [some (.ref q), some (.int (nI s)), none]) (by decide +kernel) (Nat.le_of_ble_eq_true rfl) rfl ?_
    refine ev_iload_n 1 dJ7_copyOf_974b1_0 rfl rfl ?_
    refine ev_aload_n 2 dJ7_copyOf_974b1_1 rfl rfl ?_
    refine ev_alen 3 2 dJ7_copyOf_974b1_2 tq rfl ?_
    rw [nq]
    refine ev_icmp_neN 6 14 dJ7_copyOf_974b1_3 (by decide) (by omega) (by omega) rfl (fun _ => ?_) (fun hx => absurd hx e)
    refine ev_iload_n 15 dJ7_copyOf_974b1_14 rfl rfl ?_
    have tq' : mm_T (mm_al B 202 s s) q = 202 := (al_T (by omega)).trans tq
    have nq' : mm_N (mm_al B 202 s s) q = n := (al_N (by omega)).trans nq
    have tn : mm_T (mm_al B 202 s s) (mm_nx B) = 202 := al_Ts
    have nn' : mm_N (mm_al B 202 s s) (mm_nx B) = s := al_Ns
    have e1 : va_up I (mm_nx B) (fun _ => 0) q = I q := va_up_n _ _ (by omega)
    refine ev_newa 17 (s) 2 dJ7_copyOf_974b1_15 rfl (by decide) lk982 rfl (by omega) rfl ?_
    show Ev g _ 17 _ _ (mm_al B 202 s s) _ _ _ _
    refine ev_astore_n 18 (lv' := [_, some (.int _), _]) dJ7_copyOf_974b1_17 (Nat.le_of_ble_eq_true rfl) rfl rfl ?_
    refine ev_aload_n 19 dJ7_copyOf_974b1_18 rfl rfl ?_
    refine ev_iconstN 20 0 dJ7_copyOf_974b1_19 rfl ?_
    refine ev_aload_n 21 dJ7_copyOf_974b1_20 rfl rfl ?_
    refine ev_iconstN 22 0 dJ7_copyOf_974b1_21 rfl ?_
    refine ev_aload_n 23 dJ7_copyOf_974b1_22 rfl rfl ?_
    refine ev_alen 24 2 dJ7_copyOf_974b1_23 tq' rfl ?_
    refine ev_iload_n 25 dJ7_copyOf_974b1_24 rfl rfl ?_
    rw [nq']
    refine ev_min 28 dJ7_copyOf_974b1_25 lk972 lk759 lk87 lk760 (Nat.le_of_ble_eq_true rfl) (Nat.le_of_ble_eq_true rfl) (Nat.le_of_ble_eq_true rfl) rfl ?_
    refine ev_eqI (y := nI (s)) ((by rw [nI_min (by omega) (by omega), Nat.min_eq_right hs])) ?_
    have hfit : ∀ i, i < s → fits (mm_ak 2) (.int (va_up I (mm_nx B) (fun _ => 0) q (0 + i))) = true := fun i hi => by rw [e1]; exact hfs _ (by omega)
    refine ev_copyI 31 (0) (0) (s) 2 dJ7_copyOf_974b1_28 lk973 lk650 lk649 lk88 (by decide) tq' tn rfl rfl rfl (by omega) (by omega) (by assumption) (Nat.le_of_ble_eq_true rfl) (Nat.le_of_ble_eq_true rfl) (Nat.le_of_ble_eq_true rfl) rfl ?_
    rw [e1, va_up_s, bx_uu]
    refine ev_aload_n 32 dJ7_copyOf_974b1_31 rfl rfl ?_
    exact ev_aret dJ7_copyOf_974b1_32 rfl (Or.inr ⟨_, rfl⟩) (rfl)
end CPY
