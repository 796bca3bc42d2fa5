section EVH
variable {g : mm_G} {M : mm_M} {pc : Nat} {lv lv' : mm_L} {st : List Value} {B : mm_B} {I : mm_TI} {J : mm_TJ} {P : mm_TP} {Z : mm_Z}
theorem mm_arr {q k : Nat} {s : State} {H : Heap} (hR : mm_R g B I J P s H) (ht : mm_T B q = 200 + k) : ∃ cA : ClassId, ArrOfT s cA (mm_ak k) ∧ va_RA s cA (mm_ak k) ∧ H[q]? = some (arrV cA (mm_N B q) (fun j => mm_v (mm_ak k) (I q j) (J q j) (P q j))) := (hR.2 q (by omega)).2.2.2.2 k ht
theorem mm_lt31 {q : Nat} {s : State} {H : Heap} (hR : mm_R g B I J P s H) (ht : mm_T B q ≠ 0) : mm_N B q < 2 ^ 31 := (hR.2 q ht).1.2
theorem mm_vin {n N : Nat} (h : n < N) (hN : N < 2 ^ 31) : ¬ (nI n < 0 ∨ N ≤ (nI n).toNatClampNeg) := nI_in h hN
theorem ev_iald (pc' : Nat) {q : Nat} {i : Int32} (n : Nat) (hd : decode M.2.1 pc = .ok (.iaload, 1)) (ht : mm_T B q = 200) (hi : i = nI n) (hlt : n < mm_N B q) (hp : pc + 1 = pc') (h : Ev g M pc' lv (.int (I q n) :: st) B I J P Z) : Ev g M pc lv (.int i :: .ref q :: st) B I J P Z := by
  subst hp
  subst hi
  refine ⟨h.1, fun p l e R s m args below meth c H locs ls n0 s0 hX hn hR hS hl => ?_⟩
  obtain ⟨cA, a1, a2, a3⟩ := mm_arr (k := 0) hR ht
  have h31 := mm_lt31 (q := q) hR (by omega)
  exact W.iald (v := .int (I q n)) hX.1 hX.2.1 a3 (a1 _ _) (fun h => by cases h) (by rw [arrV_size]; exact mm_vin hlt h31) (by rw [nI_clamp (by omega), arrV_read _ _ hlt]; rfl) rfl rfl hd (h.2 p l e R s m args below meth c H locs ls n0 s0 hX hn hR hS hl)
theorem ev_bald (pc' : Nat) {q : Nat} {i : Int32} (n : Nat) (hd : decode M.2.1 pc = .ok (.baload, 1)) (ht : mm_T B q = 201) (hi : i = nI n) (hlt : n < mm_N B q) (hp : pc + 1 = pc') (h : Ev g M pc' lv (.int (I q n) :: st) B I J P Z) : Ev g M pc lv (.int i :: .ref q :: st) B I J P Z := by
  subst hp
  subst hi
  refine ⟨h.1, fun p l e R s m args below meth c H locs ls n0 s0 hX hn hR hS hl => ?_⟩
  obtain ⟨cA, a1, a2, a3⟩ := mm_arr (k := 1) hR ht
  have h31 := mm_lt31 (q := q) hR (by omega)
  exact W.bald (v := .int (I q n)) hX.1 hX.2.1 a3 (a1 _ _) (fun h => by cases h) (by rw [arrV_size]; exact mm_vin hlt h31) (by rw [nI_clamp (by omega), arrV_read _ _ hlt]; rfl) rfl rfl hd (h.2 p l e R s m args below meth c H locs ls n0 s0 hX hn hR hS hl)
theorem ev_sald (pc' : Nat) {q : Nat} {i : Int32} (n : Nat) (hd : decode M.2.1 pc = .ok (.saload, 1)) (ht : mm_T B q = 202) (hi : i = nI n) (hlt : n < mm_N B q) (hp : pc + 1 = pc') (h : Ev g M pc' lv (.int (I q n) :: st) B I J P Z) : Ev g M pc lv (.int i :: .ref q :: st) B I J P Z := by
  subst hp
  subst hi
  refine ⟨h.1, fun p l e R s m args below meth c H locs ls n0 s0 hX hn hR hS hl => ?_⟩
  obtain ⟨cA, a1, a2, a3⟩ := mm_arr (k := 2) hR ht
  have h31 := mm_lt31 (q := q) hR (by omega)
  exact W.sald (v := .int (I q n)) hX.1 hX.2.1 a3 (a1 _ _) (fun h => by cases h) (by rw [arrV_size]; exact mm_vin hlt h31) (by rw [nI_clamp (by omega), arrV_read _ _ hlt]; rfl) rfl rfl hd (h.2 p l e R s m args below meth c H locs ls n0 s0 hX hn hR hS hl)
theorem ev_zald (pc' : Nat) {q : Nat} {i : Int32} (n : Nat) (hd : decode M.2.1 pc = .ok (.baload, 1)) (ht : mm_T B q = 203) (hi : i = nI n) (hlt : n < mm_N B q) (hp : pc + 1 = pc') (h : Ev g M pc' lv (.int (I q n) :: st) B I J P Z) : Ev g M pc lv (.int i :: .ref q :: st) B I J P Z := by
  subst hp
  subst hi
  refine ⟨h.1, fun p l e R s m args below meth c H locs ls n0 s0 hX hn hR hS hl => ?_⟩
  obtain ⟨cA, a1, a2, a3⟩ := mm_arr (k := 3) hR ht
  have h31 := mm_lt31 (q := q) hR (by omega)
  exact W.zald (v := .int (I q n)) hX.1 hX.2.1 a3 (a1 _ _) (fun h => by cases h) (by rw [arrV_size]; exact mm_vin hlt h31) (by rw [nI_clamp (by omega), arrV_read _ _ hlt]; rfl) rfl rfl hd (h.2 p l e R s m args below meth c H locs ls n0 s0 hX hn hR hS hl)
theorem ev_lald (pc' : Nat) {q : Nat} {i : Int32} (n : Nat) (hd : decode M.2.1 pc = .ok (.laload, 1)) (ht : mm_T B q = 204) (hi : i = nI n) (hlt : n < mm_N B q) (hp : pc + 1 = pc') (h : Ev g M pc' lv (.long (J q n) :: st) B I J P Z) : Ev g M pc lv (.int i :: .ref q :: st) B I J P Z := by
  subst hp
  subst hi
  refine ⟨h.1, fun p l e R s m args below meth c H locs ls n0 s0 hX hn hR hS hl => ?_⟩
  obtain ⟨cA, a1, a2, a3⟩ := mm_arr (k := 4) hR ht
  have h31 := mm_lt31 (q := q) hR (by omega)
  exact W.lald (v := .long (J q n)) hX.1 hX.2.1 a3 (a1 _ _) (fun h => by cases h) (by rw [arrV_size]; exact mm_vin hlt h31) (by rw [nI_clamp (by omega), arrV_read _ _ hlt]; rfl) rfl rfl hd (h.2 p l e R s m args below meth c H locs ls n0 s0 hX hn hR hS hl)
theorem ev_ialdR (pc' : Nat) {q : Nat} {i : Int32} (n : Nat) (hd : decode M.2.1 pc = .ok (.iaload, 1)) (ht : mm_T B q = 1) (hi : i = nI n) (hlt : n < mm_N B q) (hp : pc + 1 = pc') (h : Ev g M pc' lv (.int (I q n) :: st) B I J P Z) : Ev g M pc lv (.int i :: .ref q :: st) B I J P Z := by
  subst hp
  subst hi
  refine ⟨h.1, fun p l e R s m args below meth c H locs ls n0 s0 hX hn hR hS hl => ?_⟩
  obtain ⟨cell, a1, a2, a3, a4, a5, a6⟩ := (hR.2 q (by omega)).2.2.1 ht
  have h31 := mm_lt31 (q := q) hR (by omega)
  exact W.iald (v := .int (I q n)) hX.1 hX.2.1 a1 a2 a3 (fun hh => mm_vin hlt h31 (hh.imp id (fun x => Nat.le_trans a4 x))) (by rw [nI_clamp (by omega)]; exact a6 n hlt) rfl rfl hd (h.2 p l e R s m args below meth c H locs ls n0 s0 hX hn hR hS hl)
theorem ev_aald (pc' : Nat) {q : Nat} {i : Int32} (n k : Nat) (hd : decode M.2.1 pc = .ok (.aaload, 1)) (ht : mm_T B q = 205 + k) (hi : i = nI n) (hlt : n < mm_N B q) (hp : pc + 1 = pc') (h : Ev g M pc' lv (va_rf (P q n) :: st) B I J P Z) : Ev g M pc lv (.int i :: .ref q :: st) B I J P Z := by
  subst hp
  subst hi
  refine ⟨h.1, fun p l e R s m args below meth c H locs ls n0 s0 hX hn hR hS hl => ?_⟩
  obtain ⟨cA, a1, a2, a3⟩ := mm_arr (q := q) (k := k + 5) hR (by omega)
  have h31 := mm_lt31 (q := q) hR (by omega)
  exact W.aald (v := va_rf (P q n)) hX.1 hX.2.1 a3 (a1 _ _) rfl (fun h => by cases h) (by rw [arrV_size]; exact mm_vin hlt h31) (by rw [nI_clamp (by omega), arrV_read _ _ hlt]; rfl) rfl rfl hd (h.2 p l e R s m args below meth c H locs ls n0 s0 hX hn hR hS hl)
theorem ev_alen (pc' : Nat) {q : Nat} (k : Nat) (hd : decode M.2.1 pc = .ok (.arraylength, 1)) (ht : mm_T B q = 200 + k) (hp : pc + 1 = pc') (h : Ev g M pc' lv (.int (nI (mm_N B q)) :: st) B I J P Z) : Ev g M pc lv (.ref q :: st) B I J P Z := by
  subst hp
  refine ⟨h.1, fun p l e R s m args below meth c H locs ls n0 s0 hX hn hR hS hl => ?_⟩
  obtain ⟨cA, a1, a2, a3⟩ := mm_arr (q := q) (k := k) hR ht
  exact W.alen hX.1 hX.2.1 a3 (a1 _ _) (by rw [arrV_size]; rfl) rfl rfl hd (h.2 p l e R s m args below meth c H locs ls n0 s0 hX hn hR hS hl)
theorem ev_alenR (pc' : Nat) {q : Nat} (hd : decode M.2.1 pc = .ok (.arraylength, 1)) (ht : mm_T B q = 1) (hp : pc + 1 = pc') (h : Ev g M pc' lv (.int (nI (mm_N B q)) :: st) B I J P Z) : Ev g M pc lv (.ref q :: st) B I J P Z := by
  subst hp
  refine ⟨h.1, fun p l e R s m args below meth c H locs ls n0 s0 hX hn hR hS hl => ?_⟩
  obtain ⟨cell, a1, a2, a3, a4, a5, a6⟩ := (hR.2 q (by omega)).2.2.1 ht
  exact W.alen hX.1 hX.2.1 a1 a2 a5 rfl rfl hd (h.2 p l e R s m args below meth c H locs ls n0 s0 hX hn hR hS hl)
theorem ev_iast (pc' : Nat) {q : Nat} {i x : Int32} (n : Nat) (hd : decode M.2.1 pc = .ok (.iastore, 1)) (ht : mm_T B q = 200) (hi : i = nI n) (hlt : n < mm_N B q) (hp : pc + 1 = pc') (h : Ev g M pc' lv st B (va_up I q (va_up (I q) n (x))) J P Z) : Ev g M pc lv (.int x :: .int i :: .ref q :: st) B I J P Z := by
  subst hp
  subst hi
  refine ⟨h.1, fun p l e R s m args below meth c H locs ls n0 s0 hX hn hR hS hl => ?_⟩
  obtain ⟨cA, a1, a2, a3⟩ := mm_arr (k := 0) hR ht
  have h31 := mm_lt31 (q := q) hR (by omega)
  have hlo := (hR.2 q (by omega)).2.1 (by omega)
  refine W.iast hX.1 hX.2.1 a3 (a1 _ _) (fun h => by cases h) (by rw [arrV_size]; exact mm_vin hlt h31) rfl rfl hd fun H' e1 e2 e3 => ?_
  refine h.2 p l e R s m args below meth c H' _ ls n0 s0 hX hn (mm_R_put hR e2 e3 (fun z hz => by simp [va_up, hz]) (fun _ _ => rfl) (fun _ _ => rfl) ⟨fun e => by omega, fun ci hc e => by omega, fun k e => ?_⟩) (hS.put e2 e3 hlo) hl
  obtain rfl : k = 0 := by omega
  refine ⟨cA, a1, a2, ?_⟩
  rw [e1, nI_clamp (by omega), arrV_store]
  congr 2
  funext z
  by_cases hz : z = n <;> simp [updV, va_up, mm_v, mm_ak, hz, narrow]
theorem ev_bast (pc' : Nat) {q : Nat} {i x : Int32} (n : Nat) (hd : decode M.2.1 pc = .ok (.bastore, 1)) (ht : mm_T B q = 201) (hi : i = nI n) (hlt : n < mm_N B q) (hp : pc + 1 = pc') (h : Ev g M pc' lv st B (va_up I q (va_up (I q) n (x.toInt8.toInt32))) J P Z) : Ev g M pc lv (.int x :: .int i :: .ref q :: st) B I J P Z := by
  subst hp
  subst hi
  refine ⟨h.1, fun p l e R s m args below meth c H locs ls n0 s0 hX hn hR hS hl => ?_⟩
  obtain ⟨cA, a1, a2, a3⟩ := mm_arr (k := 1) hR ht
  have h31 := mm_lt31 (q := q) hR (by omega)
  have hlo := (hR.2 q (by omega)).2.1 (by omega)
  refine W.bast hX.1 hX.2.1 a3 (a1 _ _) (fun h => by cases h) (by rw [arrV_size]; exact mm_vin hlt h31) rfl rfl hd fun H' e1 e2 e3 => ?_
  refine h.2 p l e R s m args below meth c H' _ ls n0 s0 hX hn (mm_R_put hR e2 e3 (fun z hz => by simp [va_up, hz]) (fun _ _ => rfl) (fun _ _ => rfl) ⟨fun e => by omega, fun ci hc e => by omega, fun k e => ?_⟩) (hS.put e2 e3 hlo) hl
  obtain rfl : k = 1 := by omega
  refine ⟨cA, a1, a2, ?_⟩
  rw [e1, nI_clamp (by omega), arrV_store]
  congr 2
  funext z
  by_cases hz : z = n <;> simp [updV, va_up, mm_v, mm_ak, hz, narrow]
theorem ev_sast (pc' : Nat) {q : Nat} {i x : Int32} (n : Nat) (hd : decode M.2.1 pc = .ok (.sastore, 1)) (ht : mm_T B q = 202) (hi : i = nI n) (hlt : n < mm_N B q) (hp : pc + 1 = pc') (h : Ev g M pc' lv st B (va_up I q (va_up (I q) n (x.toInt16.toInt32))) J P Z) : Ev g M pc lv (.int x :: .int i :: .ref q :: st) B I J P Z := by
  subst hp
  subst hi
  refine ⟨h.1, fun p l e R s m args below meth c H locs ls n0 s0 hX hn hR hS hl => ?_⟩
  obtain ⟨cA, a1, a2, a3⟩ := mm_arr (k := 2) hR ht
  have h31 := mm_lt31 (q := q) hR (by omega)
  have hlo := (hR.2 q (by omega)).2.1 (by omega)
  refine W.sast hX.1 hX.2.1 a3 (a1 _ _) (fun h => by cases h) (by rw [arrV_size]; exact mm_vin hlt h31) rfl rfl hd fun H' e1 e2 e3 => ?_
  refine h.2 p l e R s m args below meth c H' _ ls n0 s0 hX hn (mm_R_put hR e2 e3 (fun z hz => by simp [va_up, hz]) (fun _ _ => rfl) (fun _ _ => rfl) ⟨fun e => by omega, fun ci hc e => by omega, fun k e => ?_⟩) (hS.put e2 e3 hlo) hl
  obtain rfl : k = 2 := by omega
  refine ⟨cA, a1, a2, ?_⟩
  rw [e1, nI_clamp (by omega), arrV_store]
  congr 2
  funext z
  by_cases hz : z = n <;> simp [updV, va_up, mm_v, mm_ak, hz, narrow]
theorem ev_zast (pc' : Nat) {q : Nat} {i x : Int32} (n : Nat) (hd : decode M.2.1 pc = .ok (.bastore, 1)) (ht : mm_T B q = 203) (hi : i = nI n) (hlt : n < mm_N B q) (hx : narrow .boolean (.int x) = .int x) (hp : pc + 1 = pc') (h : Ev g M pc' lv st B (va_up I q (va_up (I q) n x)) J P Z) : Ev g M pc lv (.int x :: .int i :: .ref q :: st) B I J P Z := by
  subst hp
  subst hi
  refine ⟨h.1, fun p l e R s m args below meth c H locs ls n0 s0 hX hn hR hS hl => ?_⟩
  obtain ⟨cA, a1, a2, a3⟩ := mm_arr (k := 3) hR ht
  have h31 := mm_lt31 (q := q) hR (by omega)
  have hlo := (hR.2 q (by omega)).2.1 (by omega)
  refine W.zast hX.1 hX.2.1 a3 (a1 _ _) (fun h => by cases h) (by rw [arrV_size]; exact mm_vin hlt h31) rfl rfl hd fun H' e1 e2 e3 => ?_
  refine h.2 p l e R s m args below meth c H' _ ls n0 s0 hX hn (mm_R_put hR e2 e3 (fun z hz => by simp [va_up, hz]) (fun _ _ => rfl) (fun _ _ => rfl) ⟨fun e => by omega, fun ci hc e => by omega, fun k e => ?_⟩) (hS.put e2 e3 hlo) hl
  obtain rfl : k = 3 := by omega
  refine ⟨cA, a1, a2, ?_⟩
  rw [e1, hx, nI_clamp (by omega), arrV_store]
  congr 2
  funext z
  by_cases hz : z = n <;> simp [updV, va_up, mm_v, mm_ak, hz]
theorem ev_last (pc' : Nat) {q : Nat} {i : Int32} {x : Int64} (n : Nat) (hd : decode M.2.1 pc = .ok (.lastore, 1)) (ht : mm_T B q = 204) (hi : i = nI n) (hlt : n < mm_N B q) (hp : pc + 1 = pc') (h : Ev g M pc' lv st B I (va_up J q (va_up (J q) n x)) P Z) : Ev g M pc lv (.long x :: .int i :: .ref q :: st) B I J P Z := by
  subst hp
  subst hi
  refine ⟨h.1, fun p l e R s m args below meth c H locs ls n0 s0 hX hn hR hS hl => ?_⟩
  obtain ⟨cA, a1, a2, a3⟩ := mm_arr (k := 4) hR ht
  have h31 := mm_lt31 (q := q) hR (by omega)
  have hlo := (hR.2 q (by omega)).2.1 (by omega)
  refine W.last hX.1 hX.2.1 a3 (a1 _ _) (fun h => by cases h) (by rw [arrV_size]; exact mm_vin hlt h31) rfl rfl hd fun H' e1 e2 e3 => ?_
  refine h.2 p l e R s m args below meth c H' _ ls n0 s0 hX hn (mm_R_put hR e2 e3 (fun _ _ => rfl) (fun z hz => by simp [va_up, hz]) (fun _ _ => rfl) ⟨fun e => by omega, fun ci hc e => by omega, fun k e => ?_⟩) (hS.put e2 e3 hlo) hl
  obtain rfl : k = 4 := by omega
  refine ⟨cA, a1, a2, ?_⟩
  rw [e1, nI_clamp (by omega), arrV_store]
  congr 2
  funext z
  by_cases hz : z = n <;> simp [updV, va_up, mm_v, mm_ak, hz]
theorem ev_aast (pc' : Nat) {q v : Nat} {i : Int32} (n k : Nat) {r : vw_C} (hd : decode M.2.1 pc = .ok (.aastore, 1)) (ht : mm_T B q = 205 + k) (hi : i = nI n) (hlt : n < mm_N B q) (hk : k < 100) (hr : vwCl[k]? = some r) (hv : mm_T B v = 100 + k) (hp : pc + 1 = pc') (h : Ev g M pc' lv st B I J (va_up P q (va_up (P q) n (some v))) Z) : Ev g M pc lv (.ref v :: .int i :: .ref q :: st) B I J P Z := by
  subst hp
  subst hi
  refine ⟨h.1, fun p l e R s m args below meth c H locs ls n0 s0 hX hn hR hS hl => ?_⟩
  obtain ⟨cA, a1, a2, a3⟩ := mm_arr (q := q) (k := k + 5) hR (by omega)
  have h31 := mm_lt31 (q := q) hR (by omega)
  have hlo := (hR.2 q (by omega)).2.1 (by omega)
  have hak : mm_ak (k + 5) = .object r.1 := by show FieldType.object _ = _; rw [hr]; rfl
  rw [hak] at a1 a2 a3
  obtain ⟨r', hr', cellV, g1, g2, g3, -⟩ := (hR.2 v (by omega)).2.2.2.1 k hk hv
  have hcls := (hX.2.2.2.2.2.2.2.2.1.1.1 k r hr).2
  obtain ⟨kA, comp, k1, k2, k3, k4⟩ := a2
  have hcomp : comp = g.2.1.1 k := Option.some.inj (k3.symm.trans hcls.1)
  subst hcomp
  obtain ⟨kC, hkC, -⟩ := hcls.2
  refine W.aast hX.1 hX.2.1 a3 (fun q h => by cases h) (fun h => by cases h) k1 k2 rfl hkC ⟨nI_pos (by omega), by show _ < (arrV _ _ _).slots.size; rw [arrV_size, nI_clamp (by omega)]; exact hlt⟩ g1 (fun q h => by rw [g3] at h; cases h) (by rw [g2]; exact hkC) (by rw [g2]; exact va_assign hcls) rfl rfl hd fun H' e1 e2 e3 => ?_
  refine h.2 p l e R s m args below meth c H' _ ls n0 s0 hX hn (mm_R_put hR e2 e3 (fun _ _ => rfl) (fun _ _ => rfl) (fun z hz => by simp [va_up, hz]) ⟨fun e => by omega, fun ci hc e => by omega, fun k' e => ?_⟩) (hS.put e2 e3 hlo) hl
  obtain rfl : k' = k + 5 := by omega
  rw [hak]
  refine ⟨cA, a1, ⟨kA, _, k1, k2, k3, k4⟩, ?_⟩
  rw [e1, nI_clamp (by omega), arrV_store]
  congr 2
  funext z
  by_cases hz : z = n <;> simp [updV, va_up, mm_v, va_rf, hz]
theorem ev_aastN (pc' : Nat) {q : Nat} {i : Int32} (n k : Nat) (hd : decode M.2.1 pc = .ok (.aastore, 1)) (ht : mm_T B q = 205 + k) (hi : i = nI n) (hlt : n < mm_N B q) (hp : pc + 1 = pc') (h : Ev g M pc' lv st B I J (va_up P q (va_up (P q) n none)) Z) : Ev g M pc lv (.null :: .int i :: .ref q :: st) B I J P Z := by
  subst hp
  subst hi
  refine ⟨h.1, fun p l e R s m args below meth c H locs ls n0 s0 hX hn hR hS hl => ?_⟩
  obtain ⟨cA, a1, a2, a3⟩ := mm_arr (q := q) (k := k + 5) hR (by omega)
  have h31 := mm_lt31 (q := q) hR (by omega)
  have hlo := (hR.2 q (by omega)).2.1 (by omega)
  refine va_WaastN hX.1 hX.2.1 a3 (a1 _ _) (fun h => by cases h) (by rw [arrV_size]; exact mm_vin hlt h31) rfl rfl hd fun H' e1 e2 e3 => ?_
  refine h.2 p l e R s m args below meth c H' _ ls n0 s0 hX hn (mm_R_put hR e2 e3 (fun _ _ => rfl) (fun _ _ => rfl) (fun z hz => by simp [va_up, hz]) ⟨fun e => by omega, fun ci hc e => by omega, fun k' e => ?_⟩) (hS.put e2 e3 hlo) hl
  obtain rfl : k' = k + 5 := by omega
  refine ⟨cA, a1, a2, ?_⟩
  rw [e1, nI_clamp (by omega), arrV_store]
  congr 2
  funext z
  by_cases hz : z = n <;> simp [updV, va_up, mm_v, mm_ak, va_rf, hz]
end EVH
