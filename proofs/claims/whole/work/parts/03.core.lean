/-! THE MEMORY, by addresses. B: how many cells the heap has (nx), how many slots have been made (sl), what a cell is (T: 0 not spoken of, 1 an int row that is only read, 100 + ci an object of class ci, 200 + k an array of kind k), an array's length (N). I, J, P: ints, longs, references, by cell and place. -/
abbrev mm_B : Type := Nat × Nat × (Nat → Nat) × (Nat → Nat)
abbrev mm_TI : Type := Nat → Nat → Int32
abbrev mm_TJ : Type := Nat → Nat → Int64
abbrev mm_TP : Type := Nat → Nat → Option Nat
abbrev mm_Z : Type := Option Value × mm_B × mm_TI × mm_TJ × mm_TP
def mm_nx (B : mm_B) : Nat := B.1
def mm_sl (B : mm_B) : Nat := B.2.1
def mm_T (B : mm_B) : Nat → Nat := B.2.2.1
def mm_N (B : mm_B) : Nat → Nat := B.2.2.2
/-- one cell more, at nx: its kind t, its length n, its slots sl -/
def mm_al (B : mm_B) (t n sl : Nat) : mm_B := (mm_nx B + 1, mm_sl B + sl, va_up (mm_T B) (mm_nx B) t, va_up (mm_N B) (mm_nx B) n)
/-- a field's or an element's value by its type -/
def mm_v (ty : FieldType) (I : Int32) (J : Int64) (P : Option Nat) : Value := match ty with
  | .long => .long J
  | .object _ => va_rf P
  | .array _ => va_rf P
  | _ => .int I
def mm_ty (ci : Nat) : Nat → FieldType := mm_tys.getD ci (fun _ => .int)
def mm_ak (k : Nat) : FieldType := match k with
  | 0 => .int
  | 1 => .byte
  | 2 => .short
  | 3 => .boolean
  | 4 => .long
  | k + 5 => .object ((vwCl[k]?.map (fun r => r.1)).getD "")
/-- lo: where the cells begin that may be written; D: the classes' numbers and slots; tb: where the statics' rows lie -/
abbrev mm_G : Type := Nat × va_G × (Nat → Nat)
def mm_c (D : va_G) (B : mm_B) (I : mm_TI) (J : mm_TJ) (P : mm_TP) (U : State) (H : Heap) (q : Nat) : Prop :=
  (mm_T B q = 1 → ∃ cell : Cell, H[q]? = some cell ∧ U.isArrayOf cell .int ∧ cell.vm ≠ .unknown ∧ mm_N B q ≤ cell.slots.size ∧ cell.slots.size.toInt32 = Int32.ofNat (mm_N B q) ∧ ∀ j : Nat, j < mm_N B q → cell.slots[j]? = some (.int (I q j))) ∧
  (∀ ci : Nat, ci < 100 → mm_T B q = 100 + ci → ∃ r : vw_C, vwCl[ci]? = some r ∧ t_OB q (D.1 ci) r.2.2 (D.2 ci) H (fun j => mm_v (mm_ty ci j) (I q j) (J q j) (P q j))) ∧
  (∀ k : Nat, mm_T B q = 200 + k → ∃ cA : ClassId, ArrOfT U cA (mm_ak k) ∧ va_RA U cA (mm_ak k) ∧ H[q]? = some (arrV cA (mm_N B q) (fun j => mm_v (mm_ak k) (I q j) (J q j) (P q j))))
def mm_R (g : mm_G) (B : mm_B) (I : mm_TI) (J : mm_TJ) (P : mm_TP) (U : State) (H : Heap) : Prop :=
  H.size = mm_nx B ∧ ∀ q : Nat, mm_T B q ≠ 0 → (q < mm_nx B ∧ mm_N B q < 2 ^ 31) ∧ (mm_T B q ≠ 1 → g.1 ≤ q) ∧ mm_c g.2.1 B I J P U H q
section MM0
variable {g : mm_G} {D : va_G} {B : mm_B} {I I' : mm_TI} {J J' : mm_TJ} {P P' : mm_TP} {u U : State} {H H' : Heap} {q : Nat}
theorem mm_c_moved (hvm : u.vm.Alike U.vm) (h : mm_c D B I J P u H q) : mm_c D B I J P U H q := by
  obtain ⟨h1, h2, h3⟩ := h
  refine ⟨fun e => ?_, h2, fun k e => ?_⟩
  · obtain ⟨cell, a1, a2, a3⟩ := h1 e
    exact ⟨cell, a1, State.isArrayOf_alike hvm a2, a3⟩
  · obtain ⟨cA, a1, a2, a3⟩ := h3 k e
    exact ⟨cA, arrOfT_moved hvm a1, a2.moved hvm, a3⟩
theorem mm_R_moved (hvm : u.vm.Alike U.vm) (h : mm_R g B I J P u H) : mm_R g B I J P U H :=
  ⟨h.1, fun q e => ⟨(h.2 q e).1, (h.2 q e).2.1, mm_c_moved hvm (h.2 q e).2.2⟩⟩
/-- a cell that was not touched -/
theorem mm_c_kept (h : mm_c D B I J P U H q) (hH : H'[q]? = H[q]?) (hI : I' q = I q) (hJ : J' q = J q) (hP : P' q = P q) : mm_c D B I' J' P' U H' q := by
  obtain ⟨h1, h2, h3⟩ := h
  refine ⟨fun e => ?_, fun ci hc e => ?_, fun k e => ?_⟩
  · obtain ⟨cell, a1, a2⟩ := h1 e
    exact ⟨cell, by rw [hH]; exact a1, by rw [hI]; exact a2⟩
  · obtain ⟨r, a1, a2⟩ := h2 ci hc e
    exact ⟨r, a1, by rw [hI, hJ, hP]; exact a2.kept hH⟩
  · obtain ⟨cA, a1, a2, a3⟩ := h3 k e
    exact ⟨cA, a1, a2, by rw [hH, hI, hJ, hP]; exact a3⟩
/-- one cell is written, the others are as they were -/
theorem mm_R_put {a : Nat} (h : mm_R g B I J P U H) (hs : H'.size = H.size) (ho : ∀ q, q ≠ a → H'[q]? = H[q]?) (hI : ∀ q, q ≠ a → I' q = I q) (hJ : ∀ q, q ≠ a → J' q = J q) (hP : ∀ q, q ≠ a → P' q = P q) (ha : mm_c g.2.1 B I' J' P' U H' a) : mm_R g B I' J' P' U H' := by
  refine ⟨hs.trans h.1, fun q e => ⟨(h.2 q e).1, (h.2 q e).2.1, ?_⟩⟩
  by_cases hq : q = a
  · subst hq; exact ha
  · exact mm_c_kept (h.2 q e).2.2 (ho q hq) (hI q hq) (hJ q hq) (hP q hq)
end MM0
/-- the statics' rows -/
def mm_st : List String := mm_stn
def mm_isN : Cond → Bool
  | .methodLinkNest .. => true
  | .fieldLinkNest .. => true
  | .arrayOver (.object _) => true
  | .castable .. => true
  | _ => false
def lw_all : List Cond := lw_tbl.filter goodWord
def lw_nst : List Cond := lw_tbl.filter mm_isN
def mm_K (g : mm_G) (U : State) (H : Heap) : Prop := va_K g.2.1 vwCl [] U ∧ (∀ w ∈ lw_nst, va_Nw w U) ∧ ∀ (i : Nat) (n : String), mm_st[i]? = some n → va_Z mm_own n "[I" (.ref (g.2.2 i)) (fun q => g.1 ≤ q) U H
theorem mm_K_warm {g : mm_G} {s U : State} {H H' : Heap} (hW : s.WarmedH U.vm) (hk : ∀ a : Nat, a < H.size → ¬ g.1 ≤ a → H'[a]? = H[a]?) (h : mm_K g s H) : mm_K g U H' := by
  refine ⟨va_K.moved hW.alike h.1, fun w hw => ?_, fun i n hn => ((h.2.2 i n hn).moved hW.alike).kept hk⟩
  have h1 := h.2.1 w hw
  have h2 := (List.mem_filter.mp hw).2
  unfold mm_isN at h2
  split at h2
  · exact va_Nw.warmM hW h1
  · exact va_Nw.warmF hW h1
  · exact va_AO.moved hW.alike h1
  · exact va_Nw.warmC hW h1
  · cases h2
theorem mm_K_call {g : mm_G} {U : State} {H : Heap} {f : JFrame} {mk : MethodId} {a : Array Value} (h : mm_K g U H) : mm_K g (U.calling f mk a) H := by
  refine ⟨va_K.moved (u := U) (U := U.calling f mk a) (Vm.Alike.refl U.vm) h.1, fun w hw => ?_, fun i n hn => va_Z.moved (u := U) (U := U.calling f mk a) (Vm.Alike.refl U.vm) (h.2.2 i n hn)⟩
  have h1 := h.2.1 w hw
  have h2 := (List.mem_filter.mp hw).2
  unfold mm_isN at h2
  split at h2
  · exact va_Nw.same (u := U) rfl rfl h1
  · exact va_Nw.same (u := U) rfl rfl h1
  · exact va_AO.moved (u := U) (U := U.calling f mk a) (Vm.Alike.refl U.vm) h1
  · exact va_Nw.same (u := U) rfl rfl h1
  · cases h2
theorem lw_good {y : MethodName} {b : ByteArray} {n : Nat} {r : Option FieldType} (h : Cond.code y b n r ∈ lw_all) : GoodIn lw_all (Cond.code y b n r :: lw_all) := by
  intro w hw
  have hw' : w ∈ lw_all := by
    rcases List.mem_cons.mp hw with e | e
    · rw [e]; exact h
    · exact e
  exact ⟨hw', good_of_word (List.mem_filter.mp hw').2⟩
theorem lw_at {w : Cond} (i : Nat) (h : lw_tbl[i]? = some w) (hg : goodWord w = true) : w ∈ lw_all := List.mem_filter.mpr ⟨List.mem_of_getElem? h, hg⟩
theorem lw_atN {w : Cond} (i : Nat) (h : lw_tbl[i]? = some w) (hg : mm_isN w = true) : w ∈ lw_nst := List.mem_filter.mpr ⟨List.mem_of_getElem? h, hg⟩
/-! LOCALS: a list, a place each; none: not spoken of -/
abbrev mm_L : Type := List (Option Value)
def mm_ps : Nat → mm_L → List (Nat × Value)
  | _, [] => []
  | i, none :: l => mm_ps (i + 1) l
  | i, some v :: l => (i, v) :: mm_ps (i + 1) l
/-- a value is stored at place i: a long's second half goes, a long whose second half was hit too -/
def mm_c2 : Option Value → Bool
  | some (.long _) => true
  | some (.double _) => true
  | _ => false
def mm_tl : mm_L → mm_L
  | [] => []
  | _ :: l => none :: l
def mm_set : mm_L → Nat → Value → mm_L
  | [], _, _ => []
  | _ :: l, 0, v => some v :: (match v.category with
    | 2 => mm_tl l
    | _ => l)
  | a :: l, 1, v => (match mm_c2 a with
    | true => none
    | false => a) :: mm_set l 0 v
  | a :: l, i + 2, v => a :: mm_set l (i + 1) v
def mm_at : mm_L → Nat → Option Value
  | [], _ => none
  | a :: _, 0 => a
  | _ :: l, i + 1 => mm_at l i
theorem mm_at_ps {l : mm_L} {i k : Nat} {v : Value} (h : mm_at l i = some v) : (k + i, v) ∈ mm_ps k l := by
  induction l generalizing i k with
  | nil => cases h
  | cons a l ih =>
    cases i with
    | zero =>
      have h : a = some v := h
      subst h
      exact List.mem_cons_self
    | succ i =>
      have h : mm_at l i = some v := h
      have := ih (k := k + 1) h
      have e : k + 1 + i = k + (i + 1) := by omega
      rw [e] at this
      cases a with
      | none => exact this
      | some w => exact List.mem_cons_of_mem _ this
theorem mm_ps_at {l : mm_L} {k : Nat} {q : Nat × Value} (h : q ∈ mm_ps k l) : k ≤ q.1 ∧ mm_at l (q.1 - k) = some q.2 := by
  induction l generalizing k with
  | nil => cases h
  | cons a l ih =>
    have step : q ∈ mm_ps (k + 1) l → k ≤ q.1 ∧ mm_at (a :: l) (q.1 - k) = some q.2 := fun h => by
      obtain ⟨h1, h2⟩ := ih h
      refine ⟨by omega, ?_⟩
      have e : q.1 - k = (q.1 - (k + 1)) + 1 := by omega
      rw [e]
      exact h2
    cases a with
    | none => exact step h
    | some w =>
      rcases List.mem_cons.mp h with e | e
      · subst e
        refine ⟨Nat.le_refl _, ?_⟩
        show mm_at (some w :: l) (k - k) = some w
        rw [Nat.sub_self]
        rfl
      · exact step e
theorem mm_at_set {l : mm_L} {i j : Nat} {v w : Value} (h : mm_at (mm_set l i v) j = some w) : (j = i ∧ w = v) ∨ (j ≠ i ∧ mm_at l j = some w ∧ ¬ (j + 1 = i ∧ w.category = 2) ∧ ¬ (j = i + 1 ∧ v.category = 2)) := by
  induction l generalizing i j with
  | nil => cases h
  | cons a l ih =>
    match i, j with
    | 0, 0 =>
      have h : some v = some w := h
      exact Or.inl ⟨rfl, (Option.some.inj h).symm⟩
    | 0, j + 1 =>
      refine Or.inr ⟨by omega, ?_⟩
      have h0 : mm_at (match v.category with | 2 => mm_tl l | _ => l) j = some w := h
      rcases lv_cat v with hc | hc
      · rw [hc] at h0
        have h0 : mm_at l j = some w := h0
        exact ⟨h0, by omega, by omega⟩
      · rw [hc] at h0
        have h0 : mm_at (mm_tl l) j = some w := h0
        cases l with
        | nil => cases h0
        | cons b l =>
          cases j with
          | zero => cases h0
          | succ j =>
            have h0 : mm_at l j = some w := h0
            exact ⟨h0, by omega, by omega⟩
    | 1, 0 =>
      refine Or.inr ⟨by omega, ?_⟩
      have h : (match mm_c2 a with | true => none | false => a) = some w := h
      cases hc : mm_c2 a with
      | true => rw [hc] at h; cases h
      | false =>
        rw [hc] at h
        have h : a = some w := h
        subst h
        refine ⟨rfl, fun e => ?_, by omega⟩
        have e2 := e.2
        cases w <;> simp [mm_c2, Value.category] at hc e2
    | 1, j + 1 =>
      have h : mm_at (mm_set l 0 v) j = some w := h
      rcases ih h with ⟨e1, e2⟩ | ⟨e1, e2, e3, e4⟩
      · exact Or.inl ⟨by omega, e2⟩
      · exact Or.inr ⟨by omega, e2, fun e => e3 ⟨by omega, e.2⟩, fun e => e4 ⟨by omega, e.2⟩⟩
    | i + 2, 0 =>
      have h : a = some w := h
      subst h
      exact Or.inr ⟨by omega, rfl, fun e => by omega, fun e => by omega⟩
    | i + 2, j + 1 =>
      have h : mm_at (mm_set l (i + 1) v) j = some w := h
      rcases ih h with ⟨e1, e2⟩ | ⟨e1, e2, e3, e4⟩
      · exact Or.inl ⟨by omega, e2⟩
      · exact Or.inr ⟨by omega, e2, fun e => e3 ⟨by omega, e.2⟩, fun e => e4 ⟨by omega, e.2⟩⟩
theorem mm_has_set1 {ls : Array Slot} {nL i : Nat} {l : mm_L} {v : Value} (hc : v.category = 1) (h : lv_has ls nL ((i, v) :: (mm_ps 0 l).filter (fun q => !(q.1 == i) && !(q.1 + 1 == i && q.2.category == 2)))) : lv_has ls nL (mm_ps 0 (mm_set l i v)) := by
  refine ⟨h.1, h.2.1, fun q hq => h.2.2 q ?_⟩
  obtain ⟨-, h2⟩ := mm_ps_at hq
  rw [Nat.sub_zero] at h2
  rcases mm_at_set h2 with ⟨e1, e2⟩ | ⟨e1, e2, e3, e4⟩
  · rw [show q = (i, v) from Prod.ext e1 e2]; exact List.mem_cons_self
  · refine List.mem_cons_of_mem _ (List.mem_filter.mpr ⟨by have := mm_at_ps (k := 0) e2; rw [Nat.zero_add] at this; exact this, ?_⟩)
    simp only [Bool.and_eq_true, Bool.not_eq_true', beq_eq_false_iff_ne, ne_eq, Bool.and_eq_false_iff]
    refine ⟨e1, ?_⟩
    by_cases k : q.1 + 1 = i
    · exact Or.inr fun e => e3 ⟨k, e⟩
    · exact Or.inl k
theorem mm_has_set2 {ls : Array Slot} {nL i : Nat} {l : mm_L} {v : Value} (hc : v.category = 2) (h : lv_has ls nL ((i, v) :: (mm_ps 0 l).filter (fun q => !(q.1 == i) && (!(q.1 == i + 1) && !(q.1 + 1 == i && q.2.category == 2))))) : lv_has ls nL (mm_ps 0 (mm_set l i v)) := by
  refine ⟨h.1, h.2.1, fun q hq => h.2.2 q ?_⟩
  obtain ⟨-, h2⟩ := mm_ps_at hq
  rw [Nat.sub_zero] at h2
  rcases mm_at_set h2 with ⟨e1, e2⟩ | ⟨e1, e2, e3, e4⟩
  · rw [show q = (i, v) from Prod.ext e1 e2]; exact List.mem_cons_self
  · refine List.mem_cons_of_mem _ (List.mem_filter.mpr ⟨by have := mm_at_ps (k := 0) e2; rw [Nat.zero_add] at this; exact this, ?_⟩)
    simp only [Bool.and_eq_true, Bool.not_eq_true', beq_eq_false_iff_ne, ne_eq, Bool.and_eq_false_iff]
    refine ⟨e1, fun e => e4 ⟨e, hc⟩, ?_⟩
    by_cases k : q.1 + 1 = i
    · exact Or.inr fun e => e3 ⟨k, e⟩
    · exact Or.inl k
theorem mm_has_at {ls : Array Slot} {nL i : Nat} {l : mm_L} {v : Value} (h : lv_has ls nL (mm_ps 0 l)) (hv : mm_at l i = some v) : ls[i]? = some (.val v) := by
  have := h.2.2 _ (mm_at_ps (k := 0) hv)
  rw [Nat.zero_add] at this
  exact this
/-- fewer places are spoken of -/
def mm_le (l l' : mm_L) : Prop := ∀ (i : Nat) (v : Value), mm_at l' i = some v → mm_at l i = some v
theorem mm_has_le {ls : Array Slot} {nL : Nat} {l l' : mm_L} (h : lv_has ls nL (mm_ps 0 l)) (hl : mm_le l l') : lv_has ls nL (mm_ps 0 l') := by
  refine ⟨h.1, h.2.1, fun q hq => ?_⟩
  obtain ⟨-, h2⟩ := mm_ps_at hq
  rw [Nat.sub_zero] at h2
  exact mm_has_at h (hl _ _ h2)
/-- the locals at a method's entry -/
def mm_en : List Value → mm_L
  | [] => []
  | v :: vs => match v.category with
    | 2 => some v :: none :: mm_en vs
    | _ => some v :: mm_en vs
/-! METHODS: name, bytes, locals, what it answers, frames and words of locals that its calls may need -/
abbrev mm_M : Type := MethodName × ByteArray × Nat × Option FieldType × Nat × Nat
/-- what holds throughout a method's walk -/
def mm_X (g : mm_G) (M : mm_M) (p : Program) (R : Room) (s : State) (m : MethodId) (args : Array Value) (meth : Method) (c : Code) : Prop :=
  p.tables.exec = Jvm.exec ∧ c.code = M.2.1 ∧ c.maxLocals = M.2.2.1 ∧ meth.sig.returnType = M.2.2.2.1 ∧ meth.locks = false ∧ s.vm.findClass M.1.cls = some m.cls ∧ meth.name = M.1.name ∧ (∀ w ∈ lw_all, w.before args s = true) ∧ mm_K g s s.heap ∧ M.2.2.2.2.1 ≤ R.frames ∧ M.2.2.2.2.2 ≤ R.locals ∧ g.1 ≤ s.heap.size
def mm_Q (g : mm_G) (Z : mm_Z) : Array Value → State → Outcome → State → Prop := fun _ st o t =>
  o = .returned Z.1 ∧ mm_R g Z.2.1 Z.2.2.1 Z.2.2.2.1 Z.2.2.2.2 t t.heap ∧ va_F (fun q => g.1 ≤ q) st t
def Ev (g : mm_G) (M : mm_M) (pc : Nat) (lv : mm_L) (st : List Value) (B : mm_B) (I : mm_TI) (J : mm_TJ) (P : mm_TP) (Z : mm_Z) : Prop :=
  (mm_nx B ≤ mm_nx Z.2.1 ∧ mm_sl B ≤ mm_sl Z.2.1) ∧
  ∀ (p : Program) (l : Launch) (e : Env) (R : Room) (s : State) (m : MethodId) (args : Array Value) (below : List Frame) (meth : Method) (c : Code) (H : Heap) (locs : List Loc) (ls : Array Slot) (n0 s0 : Nat),
    mm_X g M p R s m args meth c → (n0 ≤ mm_nx B ∧ s0 ≤ mm_sl B ∧ mm_nx Z.2.1 ≤ n0 + R.cells ∧ mm_sl Z.2.1 ≤ s0 + R.slots) →
    mm_R g B I J P s H → va_S (fun q => g.1 ≤ q) s.heap H locs → lv_has ls M.2.2.1 (mm_ps 0 lv) →
    W p l e R s m args below meth c H locs (mm_nx B - n0) (mm_sl B - s0) (MQ below (mm_Q g Z) args s (mm_nx Z.2.1 - n0) (mm_sl Z.2.1 - s0) (fun q => g.1 ≤ q)) (F0 m pc ls st)
def mm_rm (M : mm_M) (B : mm_B) (Z : mm_Z) : Room := { frames := M.2.2.2.2.1, cells := mm_nx Z.2.1 - mm_nx B, slots := mm_sl Z.2.1 - mm_sl B, locals := M.2.2.2.2.2 }
def mm_ws (M : mm_M) : List Cond := Cond.code M.1 M.2.1 M.2.2.1 M.2.2.2.1 :: lw_all
def Ct (g : mm_G) (M : mm_M) (as : List Value) (B : mm_B) (I : mm_TI) (J : mm_TJ) (P : mm_TP) (Z : mm_Z) : Prop :=
  (mm_nx B ≤ mm_nx Z.2.1 ∧ mm_sl B ≤ mm_sl Z.2.1) ∧
  ∀ l : Launch, Met l M.1 (mm_ws M) (mm_rm M B Z) (va_Pc as (fun U => mm_K g U U.heap ∧ g.1 ≤ U.heap.size ∧ mm_R g B I J P U U.heap)) (mm_Q g Z) (mm_nx Z.2.1 - mm_nx B) (mm_sl Z.2.1 - mm_sl B) (fun q => g.1 ≤ q)
/-- a method's contract out of the walk from its entry -/
theorem ct_of {g : mm_G} {M : mm_M} {as : List Value} {lv : mm_L} {B : mm_B} {I : mm_TI} {J : mm_TJ} {P : mm_TP} {Z : mm_Z} (hn : plainName M.1.cls = true) (hl : (lg_sl as).length ≤ M.2.2.1) (hlv : mm_ps 0 lv = lv_args 0 as) (h : Ev g M 0 lv [] B I J P Z) : Ct g M as B I J P Z := by
  refine ⟨h.1, fun l => ?_⟩
  refine Met.ofW (cc := M.2.1) (maxL := M.2.2.1) (ret := M.2.2.2.1) hn rfl ?_
  intro p e s m args below meth c s₁ Bd hml hv
  obtain ⟨rfl, hK, hlo, hR⟩ := hv
  have hts := atoms_spec (ws := mm_ws M) Bd.pre
  have hent := lv_entry as (n := M.2.2.1) hl
  rw [lg_entry_eq]
  rw [← hlv] at hent
  have hw := h.2 p l e (headSpec (mm_ws M) (mm_rm M B Z)).room s m as.toArray below meth c s.heap [] _ (mm_nx B) (mm_sl B)
    ⟨Bd.exec, Bd.bytes, hml, Bd.returns, Bd.notSynchronized, findClass_of_methodNamed Bd.named, (name_of_methodNamed Bd.named Bd.method).1, fun w hw => hts w (List.mem_cons_of_mem _ hw), hK, Nat.le_refl _, Nat.le_refl _, hlo⟩
    ⟨Nat.le_refl _, Nat.le_refl _, by show _ ≤ mm_nx B + (mm_nx Z.2.1 - mm_nx B); have := h.1.1; omega, by show _ ≤ mm_sl B + (mm_sl Z.2.1 - mm_sl B); have := h.1.2; omega⟩
    hR va_S.rf hent
  rw [Nat.sub_self, Nat.sub_self] at hw
  exact hw
section EVS
variable {g : mm_G} {M : mm_M} {pc : Nat} {lv lv' : mm_L} {st : List Value} {B : mm_B} {I : mm_TI} {J : mm_TJ} {P : mm_TP} {Z : mm_Z}
/-- a step that touches no cell -/
theorem ev_st {pc' : Nat} {st' : List Value}
    (f : ∀ (p : Program) (l : Launch) (e : Env) (R : Room) (s : State) (m : MethodId) (args : Array Value) (below : List Frame) (meth : Method) (c : Code) (H : Heap) (locs : List Loc) (ls : Array Slot) (cells slots : Nat) (Q : State → Prop), mm_X g M p R s m args meth c → lv_has ls M.2.2.1 (mm_ps 0 lv) →
      (∀ ls' : Array Slot, lv_has ls' M.2.2.1 (mm_ps 0 lv') → W p l e R s m args below meth c H locs cells slots Q (F0 m pc' ls' st')) → W p l e R s m args below meth c H locs cells slots Q (F0 m pc ls st))
    (h : Ev g M pc' lv' st' B I J P Z) : Ev g M pc lv st B I J P Z :=
  ⟨h.1, fun p l e R s m args below meth c H locs ls n0 s0 hX hn hR hS hl => f p l e R s m args below meth c H locs ls _ _ _ hX hl (fun ls' hl' => h.2 p l e R s m args below meth c H locs ls' n0 s0 hX hn hR hS hl')⟩
theorem ev_le (hl : mm_le lv lv') (h : Ev g M pc lv' st B I J P Z) : Ev g M pc lv st B I J P Z :=
  ev_st (fun _ _ _ _ _ _ _ _ _ _ _ _ ls _ _ _ _ hh k => k ls (mm_has_le hh hl)) h
end EVS
