section EVR
variable {g : mm_G} {M : mm_M} {pc : Nat} {lv lv' : mm_L} {st : List Value} {B : mm_B} {I : mm_TI} {J : mm_TJ} {P : mm_TP} {Z : mm_Z}
theorem ev_iconst (pc' : Nat) {n : Int} {v : Int32} (hd : decode M.2.1 pc = .ok (.iconst n, 1)) (hv : Int32.ofInt n = v) (hp : pc + 1 = pc') (h : Ev g M pc' lv (.int v :: st) B I J P Z) : Ev g M (pc) lv (st) B I J P Z := by
  subst hp
  exact ev_st (fun _ _ _ _ _ _ _ _ _ _ _ _ ls _ _ _ hX hl k => lv_iconst hX.1 hX.2.1 hd hv (k ls hl)) h
theorem ev_bipush (pc' : Nat) {n : Int} {v : Int32} (hd : decode M.2.1 pc = .ok (.bipush n, 2)) (hv : (Int8.ofInt n).toInt32 = v) (hp : pc + 2 = pc') (h : Ev g M pc' lv (.int v :: st) B I J P Z) : Ev g M (pc) lv (st) B I J P Z := by
  subst hp
  exact ev_st (fun _ _ _ _ _ _ _ _ _ _ _ _ ls _ _ _ hX hl k => lv_bipush hX.1 hX.2.1 hd hv (k ls hl)) h
theorem ev_sipush (pc' : Nat) {n : Int} {v : Int32} (hd : decode M.2.1 pc = .ok (.sipush n, 3)) (hv : (Int16.ofInt n).toInt32 = v) (hp : pc + 3 = pc') (h : Ev g M pc' lv (.int v :: st) B I J P Z) : Ev g M (pc) lv (st) B I J P Z := by
  subst hp
  exact ev_st (fun _ _ _ _ _ _ _ _ _ _ _ _ ls _ _ _ hX hl k => lv_sipush hX.1 hX.2.1 hd hv (k ls hl)) h
theorem ev_lconst (pc' : Nat) {n : Fin 2} {v : Int64} (hd : decode M.2.1 pc = .ok (.lconst n, 1)) (hv : Int64.ofNat (n : Nat) = v) (hp : pc + 1 = pc') (h : Ev g M pc' lv (.long v :: st) B I J P Z) : Ev g M (pc) lv (st) B I J P Z := by
  subst hp
  exact ev_st (fun _ _ _ _ _ _ _ _ _ _ _ _ ls _ _ _ hX hl k => lv_lconst hX.1 hX.2.1 hd hv (k ls hl)) h
theorem ev_null (pc' : Nat)  (hd : decode M.2.1 pc = .ok (.aconst_null, 1)) (hp : pc + 1 = pc') (h : Ev g M pc' lv (.null :: st) B I J P Z) : Ev g M (pc) lv (st) B I J P Z := by
  subst hp
  exact ev_st (fun _ _ _ _ _ _ _ _ _ _ _ _ ls _ _ _ hX hl k => lv_null hX.1 hX.2.1 hd (k ls hl)) h
theorem ev_iload_n (pc' : Nat) {k : Fin 4} {x : Int32} (hd : decode M.2.1 pc = .ok (.iload_n k, 1)) (hv : mm_at lv (k : Nat) = some (.int x)) (hp : pc + 1 = pc') (h : Ev g M pc' lv (.int x :: st) B I J P Z) : Ev g M (pc) lv (st) B I J P Z := by
  subst hp
  exact ev_st (fun _ _ _ _ _ _ _ _ _ _ _ _ ls _ _ _ hX hl k => lv_iload_n hX.1 hX.2.1 hd rfl (mm_has_at hl hv) (k ls hl)) h
theorem ev_iload (pc' : Nat) {i : Nat} {x : Int32} (hd : decode M.2.1 pc = .ok (.iload i, 2)) (hv : mm_at lv i = some (.int x)) (hp : pc + 2 = pc') (h : Ev g M pc' lv (.int x :: st) B I J P Z) : Ev g M (pc) lv (st) B I J P Z := by
  subst hp
  exact ev_st (fun _ _ _ _ _ _ _ _ _ _ _ _ ls _ _ _ hX hl k => lv_iload hX.1 hX.2.1 hd (mm_has_at hl hv) (k ls hl)) h
theorem ev_lload_n (pc' : Nat) {k : Fin 4} {x : Int64} (hd : decode M.2.1 pc = .ok (.lload_n k, 1)) (hv : mm_at lv (k : Nat) = some (.long x)) (hp : pc + 1 = pc') (h : Ev g M pc' lv (.long x :: st) B I J P Z) : Ev g M (pc) lv (st) B I J P Z := by
  subst hp
  exact ev_st (fun _ _ _ _ _ _ _ _ _ _ _ _ ls _ _ _ hX hl k => lv_lload_n hX.1 hX.2.1 hd rfl (mm_has_at hl hv) (k ls hl)) h
theorem ev_lload (pc' : Nat) {i : Nat} {x : Int64} (hd : decode M.2.1 pc = .ok (.lload i, 2)) (hv : mm_at lv i = some (.long x)) (hp : pc + 2 = pc') (h : Ev g M pc' lv (.long x :: st) B I J P Z) : Ev g M (pc) lv (st) B I J P Z := by
  subst hp
  exact ev_st (fun _ _ _ _ _ _ _ _ _ _ _ _ ls _ _ _ hX hl k => lv_lload hX.1 hX.2.1 hd (mm_has_at hl hv) (k ls hl)) h
theorem ev_aload_n (pc' : Nat) {k : Fin 4} {x : Nat} (hd : decode M.2.1 pc = .ok (.aload_n k, 1)) (hv : mm_at lv (k : Nat) = some (.ref x)) (hp : pc + 1 = pc') (h : Ev g M pc' lv (.ref x :: st) B I J P Z) : Ev g M (pc) lv (st) B I J P Z := by
  subst hp
  exact ev_st (fun _ _ _ _ _ _ _ _ _ _ _ _ ls _ _ _ hX hl k => lv_aload_n hX.1 hX.2.1 hd rfl (mm_has_at hl hv) (k ls hl)) h
theorem ev_aload (pc' : Nat) {i : Nat} {x : Nat} (hd : decode M.2.1 pc = .ok (.aload i, 2)) (hv : mm_at lv i = some (.ref x)) (hp : pc + 2 = pc') (h : Ev g M pc' lv (.ref x :: st) B I J P Z) : Ev g M (pc) lv (st) B I J P Z := by
  subst hp
  exact ev_st (fun _ _ _ _ _ _ _ _ _ _ _ _ ls _ _ _ hX hl k => lv_aload hX.1 hX.2.1 hd (mm_has_at hl hv) (k ls hl)) h
theorem ev_aload_nN (pc' : Nat) {k : Fin 4} (hd : decode M.2.1 pc = .ok (.aload_n k, 1)) (hv : mm_at lv (k : Nat) = some .null) (hp : pc + 1 = pc') (h : Ev g M pc' lv (.null :: st) B I J P Z) : Ev g M (pc) lv (st) B I J P Z := by
  subst hp
  exact ev_st (fun _ _ _ _ _ _ _ _ _ _ _ _ ls _ _ _ hX hl k => lv_aload_nN hX.1 hX.2.1 hd rfl (mm_has_at hl hv) (k ls hl)) h
theorem ev_aloadN (pc' : Nat) {i : Nat} (hd : decode M.2.1 pc = .ok (.aload i, 2)) (hv : mm_at lv i = some .null) (hp : pc + 2 = pc') (h : Ev g M pc' lv (.null :: st) B I J P Z) : Ev g M (pc) lv (st) B I J P Z := by
  subst hp
  exact ev_st (fun _ _ _ _ _ _ _ _ _ _ _ _ ls _ _ _ hX hl k => lv_aloadN hX.1 hX.2.1 hd (mm_has_at hl hv) (k ls hl)) h
theorem ev_istore_n (pc' : Nat) {k : Fin 4} {x : Int32} (hd : decode M.2.1 pc = .ok (.istore_n k, 1)) (hn : (k : Nat) < M.2.2.1) (hs : mm_set lv (k : Nat) (Value.int x) = lv') (hp : pc + 1 = pc') (h : Ev g M pc' lv' (st) B I J P Z) : Ev g M (pc) lv (.int x :: st) B I J P Z := by
  subst hp
  subst hs
  exact ev_st (fun _ _ _ _ _ _ _ _ _ _ _ _ ls _ _ _ hX hl k => lv_istore_n hX.1 hX.2.1 hd rfl hl hn rfl (fun ls' hl' => k ls' (mm_has_set1 rfl hl'))) h
theorem ev_istore (pc' : Nat) {i : Nat} {x : Int32} (hd : decode M.2.1 pc = .ok (.istore i, 2)) (hn : i < M.2.2.1) (hs : mm_set lv i (Value.int x) = lv') (hp : pc + 2 = pc') (h : Ev g M pc' lv' (st) B I J P Z) : Ev g M (pc) lv (.int x :: st) B I J P Z := by
  subst hp
  subst hs
  exact ev_st (fun _ _ _ _ _ _ _ _ _ _ _ _ ls _ _ _ hX hl k => lv_istore hX.1 hX.2.1 hd hl hn rfl (fun ls' hl' => k ls' (mm_has_set1 rfl hl'))) h
theorem ev_lstore_n (pc' : Nat) {k : Fin 4} {x : Int64} (hd : decode M.2.1 pc = .ok (.lstore_n k, 1)) (hn : (k : Nat) + 1 < M.2.2.1) (hs : mm_set lv (k : Nat) (Value.long x) = lv') (hp : pc + 1 = pc') (h : Ev g M pc' lv' (st) B I J P Z) : Ev g M (pc) lv (.long x :: st) B I J P Z := by
  subst hp
  subst hs
  exact ev_st (fun _ _ _ _ _ _ _ _ _ _ _ _ ls _ _ _ hX hl k => lv_lstore_n hX.1 hX.2.1 hd rfl hl hn rfl (fun ls' hl' => k ls' (mm_has_set2 rfl hl'))) h
theorem ev_lstore (pc' : Nat) {i : Nat} {x : Int64} (hd : decode M.2.1 pc = .ok (.lstore i, 2)) (hn : i + 1 < M.2.2.1) (hs : mm_set lv i (Value.long x) = lv') (hp : pc + 2 = pc') (h : Ev g M pc' lv' (st) B I J P Z) : Ev g M (pc) lv (.long x :: st) B I J P Z := by
  subst hp
  subst hs
  exact ev_st (fun _ _ _ _ _ _ _ _ _ _ _ _ ls _ _ _ hX hl k => lv_lstore hX.1 hX.2.1 hd hl hn rfl (fun ls' hl' => k ls' (mm_has_set2 rfl hl'))) h
theorem ev_astore_n (pc' : Nat) {k : Fin 4} {x : Nat} (hd : decode M.2.1 pc = .ok (.astore_n k, 1)) (hn : (k : Nat) < M.2.2.1) (hs : mm_set lv (k : Nat) (Value.ref x) = lv') (hp : pc + 1 = pc') (h : Ev g M pc' lv' (st) B I J P Z) : Ev g M (pc) lv (.ref x :: st) B I J P Z := by
  subst hp
  subst hs
  exact ev_st (fun _ _ _ _ _ _ _ _ _ _ _ _ ls _ _ _ hX hl k => lv_astore_n hX.1 hX.2.1 hd rfl hl hn rfl (fun ls' hl' => k ls' (mm_has_set1 rfl hl'))) h
theorem ev_astore (pc' : Nat) {i : Nat} {x : Nat} (hd : decode M.2.1 pc = .ok (.astore i, 2)) (hn : i < M.2.2.1) (hs : mm_set lv i (Value.ref x) = lv') (hp : pc + 2 = pc') (h : Ev g M pc' lv' (st) B I J P Z) : Ev g M (pc) lv (.ref x :: st) B I J P Z := by
  subst hp
  subst hs
  exact ev_st (fun _ _ _ _ _ _ _ _ _ _ _ _ ls _ _ _ hX hl k => lv_astore hX.1 hX.2.1 hd hl hn rfl (fun ls' hl' => k ls' (mm_has_set1 rfl hl'))) h
theorem ev_astore_nN (pc' : Nat) {k : Fin 4}  (hd : decode M.2.1 pc = .ok (.astore_n k, 1)) (hn : (k : Nat) < M.2.2.1) (hs : mm_set lv (k : Nat) (Value.null) = lv') (hp : pc + 1 = pc') (h : Ev g M pc' lv' (st) B I J P Z) : Ev g M (pc) lv (.null :: st) B I J P Z := by
  subst hp
  subst hs
  exact ev_st (fun _ _ _ _ _ _ _ _ _ _ _ _ ls _ _ _ hX hl k => lv_astore_nN hX.1 hX.2.1 hd rfl hl hn rfl (fun ls' hl' => k ls' (mm_has_set1 rfl hl'))) h
theorem ev_astoreN (pc' : Nat) {i : Nat}  (hd : decode M.2.1 pc = .ok (.astore i, 2)) (hn : i < M.2.2.1) (hs : mm_set lv i (Value.null) = lv') (hp : pc + 2 = pc') (h : Ev g M pc' lv' (st) B I J P Z) : Ev g M (pc) lv (.null :: st) B I J P Z := by
  subst hp
  subst hs
  exact ev_st (fun _ _ _ _ _ _ _ _ _ _ _ _ ls _ _ _ hX hl k => lv_astoreN hX.1 hX.2.1 hd hl hn rfl (fun ls' hl' => k ls' (mm_has_set1 rfl hl'))) h
theorem ev_iinc (pc' : Nat) {i : Nat} {n : Int} {x v : Int32} (hd : decode M.2.1 pc = .ok (.iinc i n, 3)) (hv : mm_at lv i = some (.int x)) (hx : x + Int32.ofInt n = v) (hn : i < M.2.2.1) (hs : mm_set lv i (Value.int v) = lv') (hp : pc + 3 = pc') (h : Ev g M pc' lv' (st) B I J P Z) : Ev g M (pc) lv (st) B I J P Z := by
  subst hp
  subst hs
  refine ev_st (fun _ _ _ _ _ _ _ _ _ _ _ _ ls _ _ _ hX hl k => ?_) h
  obtain ⟨j, hj⟩ := List.getElem?_of_mem (mm_at_ps (k := 0) hv)
  rw [Nat.zero_add] at hj
  exact lv_iinc hX.1 hX.2.1 hd hl hj hx hn rfl (fun ls' hl' => k ls' (mm_has_set1 rfl hl'))
theorem ev_iadd (pc' : Nat) {x y : Int32} (hd : decode M.2.1 pc = .ok (.iadd, 1)) (hp : pc + 1 = pc') (h : Ev g M pc' lv (.int (x + y) :: st) B I J P Z) : Ev g M (pc) lv (.int y :: .int x :: st) B I J P Z := by
  subst hp
  exact ev_st (fun _ _ _ _ _ _ _ _ _ _ _ _ ls _ _ _ hX hl k => lv_iadd hX.1 hX.2.1 hd (k ls hl)) h
theorem ev_isub (pc' : Nat) {x y : Int32} (hd : decode M.2.1 pc = .ok (.isub, 1)) (hp : pc + 1 = pc') (h : Ev g M pc' lv (.int (x - y) :: st) B I J P Z) : Ev g M (pc) lv (.int y :: .int x :: st) B I J P Z := by
  subst hp
  exact ev_st (fun _ _ _ _ _ _ _ _ _ _ _ _ ls _ _ _ hX hl k => lv_isub hX.1 hX.2.1 hd (k ls hl)) h
theorem ev_imul (pc' : Nat) {x y : Int32} (hd : decode M.2.1 pc = .ok (.imul, 1)) (hp : pc + 1 = pc') (h : Ev g M pc' lv (.int (x * y) :: st) B I J P Z) : Ev g M (pc) lv (.int y :: .int x :: st) B I J P Z := by
  subst hp
  exact ev_st (fun _ _ _ _ _ _ _ _ _ _ _ _ ls _ _ _ hX hl k => lv_imul hX.1 hX.2.1 hd (k ls hl)) h
theorem ev_iand (pc' : Nat) {x y : Int32} (hd : decode M.2.1 pc = .ok (.iand, 1)) (hp : pc + 1 = pc') (h : Ev g M pc' lv (.int (x &&& y) :: st) B I J P Z) : Ev g M (pc) lv (.int y :: .int x :: st) B I J P Z := by
  subst hp
  exact ev_st (fun _ _ _ _ _ _ _ _ _ _ _ _ ls _ _ _ hX hl k => lv_iand hX.1 hX.2.1 hd (k ls hl)) h
theorem ev_ior (pc' : Nat) {x y : Int32} (hd : decode M.2.1 pc = .ok (.ior, 1)) (hp : pc + 1 = pc') (h : Ev g M pc' lv (.int (x ||| y) :: st) B I J P Z) : Ev g M (pc) lv (.int y :: .int x :: st) B I J P Z := by
  subst hp
  exact ev_st (fun _ _ _ _ _ _ _ _ _ _ _ _ ls _ _ _ hX hl k => lv_ior hX.1 hX.2.1 hd (k ls hl)) h
theorem ev_ixor (pc' : Nat) {x y : Int32} (hd : decode M.2.1 pc = .ok (.ixor, 1)) (hp : pc + 1 = pc') (h : Ev g M pc' lv (.int (x ^^^ y) :: st) B I J P Z) : Ev g M (pc) lv (.int y :: .int x :: st) B I J P Z := by
  subst hp
  exact ev_st (fun _ _ _ _ _ _ _ _ _ _ _ _ ls _ _ _ hX hl k => lv_ixor hX.1 hX.2.1 hd (k ls hl)) h
theorem ev_idiv (pc' : Nat) {x y : Int32} (hd : decode M.2.1 pc = .ok (.idiv, 1)) (hne : ¬ y = 0) (hp : pc + 1 = pc') (h : Ev g M pc' lv (.int (x / y) :: st) B I J P Z) : Ev g M (pc) lv (.int y :: .int x :: st) B I J P Z := by
  subst hp
  exact ev_st (fun _ _ _ _ _ _ _ _ _ _ _ _ ls _ _ _ hX hl k => lv_idiv hX.1 hX.2.1 hd hne (k ls hl)) h
theorem ev_irem (pc' : Nat) {x y : Int32} (hd : decode M.2.1 pc = .ok (.irem, 1)) (hne : ¬ y = 0) (hp : pc + 1 = pc') (h : Ev g M pc' lv (.int (x - x / y * y) :: st) B I J P Z) : Ev g M (pc) lv (.int y :: .int x :: st) B I J P Z := by
  subst hp
  exact ev_st (fun _ _ _ _ _ _ _ _ _ _ _ _ ls _ _ _ hX hl k => lv_irem hX.1 hX.2.1 hd hne (k ls hl)) h
theorem ev_ineg (pc' : Nat) {x : Int32} (hd : decode M.2.1 pc = .ok (.ineg, 1)) (hp : pc + 1 = pc') (h : Ev g M pc' lv (.int (-x) :: st) B I J P Z) : Ev g M (pc) lv (.int x :: st) B I J P Z := by
  subst hp
  exact ev_st (fun _ _ _ _ _ _ _ _ _ _ _ _ ls _ _ _ hX hl k => lv_ineg hX.1 hX.2.1 hd (k ls hl)) h
theorem ev_ladd (pc' : Nat) {x y : Int64} (hd : decode M.2.1 pc = .ok (.ladd, 1)) (hp : pc + 1 = pc') (h : Ev g M pc' lv (.long (x + y) :: st) B I J P Z) : Ev g M (pc) lv (.long y :: .long x :: st) B I J P Z := by
  subst hp
  exact ev_st (fun _ _ _ _ _ _ _ _ _ _ _ _ ls _ _ _ hX hl k => lv_ladd hX.1 hX.2.1 hd (k ls hl)) h
theorem ev_lsub (pc' : Nat) {x y : Int64} (hd : decode M.2.1 pc = .ok (.lsub, 1)) (hp : pc + 1 = pc') (h : Ev g M pc' lv (.long (x - y) :: st) B I J P Z) : Ev g M (pc) lv (.long y :: .long x :: st) B I J P Z := by
  subst hp
  exact ev_st (fun _ _ _ _ _ _ _ _ _ _ _ _ ls _ _ _ hX hl k => lv_lsub hX.1 hX.2.1 hd (k ls hl)) h
theorem ev_lmul (pc' : Nat) {x y : Int64} (hd : decode M.2.1 pc = .ok (.lmul, 1)) (hp : pc + 1 = pc') (h : Ev g M pc' lv (.long (x * y) :: st) B I J P Z) : Ev g M (pc) lv (.long y :: .long x :: st) B I J P Z := by
  subst hp
  exact ev_st (fun _ _ _ _ _ _ _ _ _ _ _ _ ls _ _ _ hX hl k => lv_lmul hX.1 hX.2.1 hd (k ls hl)) h
theorem ev_land (pc' : Nat) {x y : Int64} (hd : decode M.2.1 pc = .ok (.land, 1)) (hp : pc + 1 = pc') (h : Ev g M pc' lv (.long (x &&& y) :: st) B I J P Z) : Ev g M (pc) lv (.long y :: .long x :: st) B I J P Z := by
  subst hp
  exact ev_st (fun _ _ _ _ _ _ _ _ _ _ _ _ ls _ _ _ hX hl k => lv_land hX.1 hX.2.1 hd (k ls hl)) h
theorem ev_lor (pc' : Nat) {x y : Int64} (hd : decode M.2.1 pc = .ok (.lor, 1)) (hp : pc + 1 = pc') (h : Ev g M pc' lv (.long (x ||| y) :: st) B I J P Z) : Ev g M (pc) lv (.long y :: .long x :: st) B I J P Z := by
  subst hp
  exact ev_st (fun _ _ _ _ _ _ _ _ _ _ _ _ ls _ _ _ hX hl k => lv_lor hX.1 hX.2.1 hd (k ls hl)) h
theorem ev_lxor (pc' : Nat) {x y : Int64} (hd : decode M.2.1 pc = .ok (.lxor, 1)) (hp : pc + 1 = pc') (h : Ev g M pc' lv (.long (x ^^^ y) :: st) B I J P Z) : Ev g M (pc) lv (.long y :: .long x :: st) B I J P Z := by
  subst hp
  exact ev_st (fun _ _ _ _ _ _ _ _ _ _ _ _ ls _ _ _ hX hl k => lv_lxor hX.1 hX.2.1 hd (k ls hl)) h
theorem ev_ldiv (pc' : Nat) {x y : Int64} (hd : decode M.2.1 pc = .ok (.ldiv, 1)) (hne : ¬ y = 0) (hp : pc + 1 = pc') (h : Ev g M pc' lv (.long (x / y) :: st) B I J P Z) : Ev g M (pc) lv (.long y :: .long x :: st) B I J P Z := by
  subst hp
  exact ev_st (fun _ _ _ _ _ _ _ _ _ _ _ _ ls _ _ _ hX hl k => lv_ldiv hX.1 hX.2.1 hd hne (k ls hl)) h
theorem ev_lrem (pc' : Nat) {x y : Int64} (hd : decode M.2.1 pc = .ok (.lrem, 1)) (hne : ¬ y = 0) (hp : pc + 1 = pc') (h : Ev g M pc' lv (.long (x - x / y * y) :: st) B I J P Z) : Ev g M (pc) lv (.long y :: .long x :: st) B I J P Z := by
  subst hp
  exact ev_st (fun _ _ _ _ _ _ _ _ _ _ _ _ ls _ _ _ hX hl k => lv_lrem hX.1 hX.2.1 hd hne (k ls hl)) h
theorem ev_lneg (pc' : Nat) {x : Int64} (hd : decode M.2.1 pc = .ok (.lneg, 1)) (hp : pc + 1 = pc') (h : Ev g M pc' lv (.long (-x) :: st) B I J P Z) : Ev g M (pc) lv (.long x :: st) B I J P Z := by
  subst hp
  exact ev_st (fun _ _ _ _ _ _ _ _ _ _ _ _ ls _ _ _ hX hl k => lv_lneg hX.1 hX.2.1 hd (k ls hl)) h
theorem ev_ishl (pc' : Nat) {x y : Int32} (hd : decode M.2.1 pc = .ok (.ishl, 1)) (hp : pc + 1 = pc') (h : Ev g M pc' lv (.int (x <<< (y &&& 31)) :: st) B I J P Z) : Ev g M (pc) lv (.int y :: .int x :: st) B I J P Z := by
  subst hp
  exact ev_st (fun _ _ _ _ _ _ _ _ _ _ _ _ ls _ _ _ hX hl k => lv_ishl hX.1 hX.2.1 hd (k ls hl)) h
theorem ev_ishr (pc' : Nat) {x y : Int32} (hd : decode M.2.1 pc = .ok (.ishr, 1)) (hp : pc + 1 = pc') (h : Ev g M pc' lv (.int (x >>> (y &&& 31)) :: st) B I J P Z) : Ev g M (pc) lv (.int y :: .int x :: st) B I J P Z := by
  subst hp
  exact ev_st (fun _ _ _ _ _ _ _ _ _ _ _ _ ls _ _ _ hX hl k => lv_ishr hX.1 hX.2.1 hd (k ls hl)) h
theorem ev_i2l (pc' : Nat) {x : Int32} (hd : decode M.2.1 pc = .ok (.i2l, 1)) (hp : pc + 1 = pc') (h : Ev g M pc' lv (.long x.toInt64 :: st) B I J P Z) : Ev g M (pc) lv (.int x :: st) B I J P Z := by
  subst hp
  exact ev_st (fun _ _ _ _ _ _ _ _ _ _ _ _ ls _ _ _ hX hl k => lv_i2l hX.1 hX.2.1 hd rfl (k ls hl)) h
theorem ev_l2i (pc' : Nat) {x : Int64} (hd : decode M.2.1 pc = .ok (.l2i, 1)) (hp : pc + 1 = pc') (h : Ev g M pc' lv (.int x.toInt32 :: st) B I J P Z) : Ev g M (pc) lv (.long x :: st) B I J P Z := by
  subst hp
  exact ev_st (fun _ _ _ _ _ _ _ _ _ _ _ _ ls _ _ _ hX hl k => lv_l2i hX.1 hX.2.1 hd rfl (k ls hl)) h
theorem ev_i2b (pc' : Nat) {x : Int32} (hd : decode M.2.1 pc = .ok (.i2b, 1)) (hp : pc + 1 = pc') (h : Ev g M pc' lv (.int x.toInt8.toInt32 :: st) B I J P Z) : Ev g M (pc) lv (.int x :: st) B I J P Z := by
  subst hp
  exact ev_st (fun _ _ _ _ _ _ _ _ _ _ _ _ ls _ _ _ hX hl k => lv_i2b hX.1 hX.2.1 hd rfl (k ls hl)) h
theorem ev_i2s (pc' : Nat) {x : Int32} (hd : decode M.2.1 pc = .ok (.i2s, 1)) (hp : pc + 1 = pc') (h : Ev g M pc' lv (.int x.toInt16.toInt32 :: st) B I J P Z) : Ev g M (pc) lv (.int x :: st) B I J P Z := by
  subst hp
  exact ev_st (fun _ _ _ _ _ _ _ _ _ _ _ _ ls _ _ _ hX hl k => lv_i2s hX.1 hX.2.1 hd rfl (k ls hl)) h
theorem ev_lshl (pc' : Nat) {x : Int64} {y : Int32} (hd : decode M.2.1 pc = .ok (.lshl, 1)) (hp : pc + 1 = pc') (h : Ev g M pc' lv (.long (x <<< (y.toInt64 &&& 63)) :: st) B I J P Z) : Ev g M (pc) lv (.int y :: .long x :: st) B I J P Z := by
  subst hp
  exact ev_st (fun _ _ _ _ _ _ _ _ _ _ _ _ ls _ _ _ hX hl k => lv_lshl hX.1 hX.2.1 hd rfl (k ls hl)) h
theorem ev_lshr (pc' : Nat) {x : Int64} {y : Int32} (hd : decode M.2.1 pc = .ok (.lshr, 1)) (hp : pc + 1 = pc') (h : Ev g M pc' lv (.long (x >>> (y.toInt64 &&& 63)) :: st) B I J P Z) : Ev g M (pc) lv (.int y :: .long x :: st) B I J P Z := by
  subst hp
  exact ev_st (fun _ _ _ _ _ _ _ _ _ _ _ _ ls _ _ _ hX hl k => lv_lshr hX.1 hX.2.1 hd rfl (k ls hl)) h
theorem ev_lcmp (pc' : Nat) {x y : Int64} (hd : decode M.2.1 pc = .ok (.lcmp, 1)) (hp : pc + 1 = pc') (h : Ev g M pc' lv (.int (lg_cmp x y) :: st) B I J P Z) : Ev g M (pc) lv (.long y :: .long x :: st) B I J P Z := by
  subst hp
  exact ev_st (fun _ _ _ _ _ _ _ _ _ _ _ _ ls _ _ _ hX hl k => W.lcmp hX.1 hX.2.1 hd (k ls hl)) h
theorem ev_dup (pc' : Nat) {a : Value} (hd : decode M.2.1 pc = .ok (.dup, 1)) (ha : a.category = 1) (hp : pc + 1 = pc') (h : Ev g M pc' lv (a :: a :: st) B I J P Z) : Ev g M (pc) lv (a :: st) B I J P Z := by
  subst hp
  exact ev_st (fun _ _ _ _ _ _ _ _ _ _ _ _ ls _ _ _ hX hl k => lv_dup hX.1 hX.2.1 hd ha (k ls hl)) h
theorem ev_pop (pc' : Nat) {a : Value} (hd : decode M.2.1 pc = .ok (.pop, 1)) (ha : a.category = 1) (hp : pc + 1 = pc') (h : Ev g M pc' lv (st) B I J P Z) : Ev g M (pc) lv (a :: st) B I J P Z := by
  subst hp
  exact ev_st (fun _ _ _ _ _ _ _ _ _ _ _ _ ls _ _ _ hX hl k => lv_pop hX.1 hX.2.1 hd ha (k ls hl)) h
theorem ev_dup_x1 (pc' : Nat) {a b : Value} (hd : decode M.2.1 pc = .ok (.dup_x1, 1)) (ha : a.category = 1) (hb : b.category = 1) (hp : pc + 1 = pc') (h : Ev g M pc' lv (a :: b :: a :: st) B I J P Z) : Ev g M (pc) lv (a :: b :: st) B I J P Z := by
  subst hp
  exact ev_st (fun _ _ _ _ _ _ _ _ _ _ _ _ ls _ _ _ hX hl k => lv_dup_x1 hX.1 hX.2.1 hd ha hb (k ls hl)) h
theorem ev_dup_x2 (pc' : Nat) {a b d : Value} (hd : decode M.2.1 pc = .ok (.dup_x2, 1)) (ha : a.category = 1) (hb : b.category = 1) (hc : d.category = 1) (hp : pc + 1 = pc') (h : Ev g M pc' lv (a :: b :: d :: a :: st) B I J P Z) : Ev g M (pc) lv (a :: b :: d :: st) B I J P Z := by
  subst hp
  exact ev_st (fun _ _ _ _ _ _ _ _ _ _ _ _ ls _ _ _ hX hl k => lv_dup_x2 hX.1 hX.2.1 hd ha hb hc (k ls hl)) h
theorem ev_dup2_11 (pc' : Nat) {a b : Value} (hd : decode M.2.1 pc = .ok (.dup2, 1)) (ha : a.category = 1) (hb : b.category = 1) (hp : pc + 1 = pc') (h : Ev g M pc' lv (a :: b :: a :: b :: st) B I J P Z) : Ev g M (pc) lv (a :: b :: st) B I J P Z := by
  subst hp
  exact ev_st (fun _ _ _ _ _ _ _ _ _ _ _ _ ls _ _ _ hX hl k => lv_dup2_11 hX.1 hX.2.1 hd ha hb (k ls hl)) h
theorem ev_dup2_2 (pc' : Nat) {a : Value} (hd : decode M.2.1 pc = .ok (.dup2, 1)) (ha : a.category = 2) (hp : pc + 1 = pc') (h : Ev g M pc' lv (a :: a :: st) B I J P Z) : Ev g M (pc) lv (a :: st) B I J P Z := by
  subst hp
  exact ev_st (fun _ _ _ _ _ _ _ _ _ _ _ _ ls _ _ _ hX hl k => lv_dup2_2 hX.1 hX.2.1 hd ha (k ls hl)) h
theorem ev_dup2_x1_2 (pc' : Nat) {a b : Value} (hd : decode M.2.1 pc = .ok (.dup2_x1, 1)) (ha : a.category = 2) (hb : b.category = 1) (hp : pc + 1 = pc') (h : Ev g M pc' lv (a :: b :: a :: st) B I J P Z) : Ev g M (pc) lv (a :: b :: st) B I J P Z := by
  subst hp
  exact ev_st (fun _ _ _ _ _ _ _ _ _ _ _ _ ls _ _ _ hX hl k => lv_dup2_x1_2 hX.1 hX.2.1 hd ha hb (k ls hl)) h
theorem ev_dup2_x2_2 (pc' : Nat) {a b d : Value} (hd : decode M.2.1 pc = .ok (.dup2_x2, 1)) (ha : a.category = 2) (hb : b.category = 1) (hc : d.category = 1) (hp : pc + 1 = pc') (h : Ev g M pc' lv (a :: b :: d :: a :: st) B I J P Z) : Ev g M (pc) lv (a :: b :: d :: st) B I J P Z := by
  subst hp
  exact ev_st (fun _ _ _ _ _ _ _ _ _ _ _ _ ls _ _ _ hX hl k => lv_dup2_x2_2 hX.1 hX.2.1 hd ha hb hc (k ls hl)) h
end EVR
section EVB
variable {g : mm_G} {M : mm_M} {pc : Nat} {lv lv' : mm_L} {st : List Value} {B : mm_B} {I : mm_TI} {J : mm_TJ} {P : mm_TP} {Z : mm_Z}
theorem ev_if_eq (pc' : Nat) {x : Int32} {off : Int} (tgt : Nat) (hd : decode M.2.1 pc = .ok (.ifCond .eq off, 3)) (ht : (pc : Int) + off = (tgt : Int)) (hp : pc + 3 = pc') (kt : x = 0 → Ev g M (tgt) lv (st) B I J P Z) (kf : ¬ x = 0 → Ev g M pc' lv (st) B I J P Z) : Ev g M (pc) lv (.int x :: st) B I J P Z := by
  subst hp
  have h1 : mm_nx B ≤ mm_nx Z.2.1 ∧ mm_sl B ≤ mm_sl Z.2.1 := by
    by_cases hc : x = 0
    · exact (kt hc).1
    · exact (kf hc).1
  exact ⟨h1, fun p l e R s m args below meth c H locs ls n0 s0 hX hn hR hS hl => lv_if_eq hX.1 hX.2.1 hd ht (fun hc => (kt hc).2 p l e R s m args below meth c H locs ls n0 s0 hX hn hR hS hl) (fun hc => (kf hc).2 p l e R s m args below meth c H locs ls n0 s0 hX hn hR hS hl)⟩
theorem ev_icmp_eq (pc' : Nat) {x y : Int32} {off : Int} (tgt : Nat) (hd : decode M.2.1 pc = .ok (.if_icmp .eq off, 3)) (ht : (pc : Int) + off = (tgt : Int)) (hp : pc + 3 = pc') (kt : x = y → Ev g M (tgt) lv (st) B I J P Z) (kf : ¬ x = y → Ev g M pc' lv (st) B I J P Z) : Ev g M (pc) lv (.int y :: .int x :: st) B I J P Z := by
  subst hp
  have h1 : mm_nx B ≤ mm_nx Z.2.1 ∧ mm_sl B ≤ mm_sl Z.2.1 := by
    by_cases hc : x = y
    · exact (kt hc).1
    · exact (kf hc).1
  exact ⟨h1, fun p l e R s m args below meth c H locs ls n0 s0 hX hn hR hS hl => lv_icmp_eq hX.1 hX.2.1 hd ht (fun hc => (kt hc).2 p l e R s m args below meth c H locs ls n0 s0 hX hn hR hS hl) (fun hc => (kf hc).2 p l e R s m args below meth c H locs ls n0 s0 hX hn hR hS hl)⟩
theorem ev_if_ne (pc' : Nat) {x : Int32} {off : Int} (tgt : Nat) (hd : decode M.2.1 pc = .ok (.ifCond .ne off, 3)) (ht : (pc : Int) + off = (tgt : Int)) (hp : pc + 3 = pc') (kt : ¬ x = 0 → Ev g M (tgt) lv (st) B I J P Z) (kf : x = 0 → Ev g M pc' lv (st) B I J P Z) : Ev g M (pc) lv (.int x :: st) B I J P Z := by
  subst hp
  have h1 : mm_nx B ≤ mm_nx Z.2.1 ∧ mm_sl B ≤ mm_sl Z.2.1 := by
    by_cases hc : x = 0
    · exact (kf hc).1
    · exact (kt hc).1
  exact ⟨h1, fun p l e R s m args below meth c H locs ls n0 s0 hX hn hR hS hl => lv_if_ne hX.1 hX.2.1 hd ht (fun hc => (kt hc).2 p l e R s m args below meth c H locs ls n0 s0 hX hn hR hS hl) (fun hc => (kf hc).2 p l e R s m args below meth c H locs ls n0 s0 hX hn hR hS hl)⟩
theorem ev_icmp_ne (pc' : Nat) {x y : Int32} {off : Int} (tgt : Nat) (hd : decode M.2.1 pc = .ok (.if_icmp .ne off, 3)) (ht : (pc : Int) + off = (tgt : Int)) (hp : pc + 3 = pc') (kt : ¬ x = y → Ev g M (tgt) lv (st) B I J P Z) (kf : x = y → Ev g M pc' lv (st) B I J P Z) : Ev g M (pc) lv (.int y :: .int x :: st) B I J P Z := by
  subst hp
  have h1 : mm_nx B ≤ mm_nx Z.2.1 ∧ mm_sl B ≤ mm_sl Z.2.1 := by
    by_cases hc : x = y
    · exact (kf hc).1
    · exact (kt hc).1
  exact ⟨h1, fun p l e R s m args below meth c H locs ls n0 s0 hX hn hR hS hl => lv_icmp_ne hX.1 hX.2.1 hd ht (fun hc => (kt hc).2 p l e R s m args below meth c H locs ls n0 s0 hX hn hR hS hl) (fun hc => (kf hc).2 p l e R s m args below meth c H locs ls n0 s0 hX hn hR hS hl)⟩
theorem ev_if_lt (pc' : Nat) {x : Int32} {off : Int} (tgt : Nat) (hd : decode M.2.1 pc = .ok (.ifCond .lt off, 3)) (ht : (pc : Int) + off = (tgt : Int)) (hp : pc + 3 = pc') (kt : x < 0 → Ev g M (tgt) lv (st) B I J P Z) (kf : ¬ x < 0 → Ev g M pc' lv (st) B I J P Z) : Ev g M (pc) lv (.int x :: st) B I J P Z := by
  subst hp
  have h1 : mm_nx B ≤ mm_nx Z.2.1 ∧ mm_sl B ≤ mm_sl Z.2.1 := by
    by_cases hc : x < 0
    · exact (kt hc).1
    · exact (kf hc).1
  exact ⟨h1, fun p l e R s m args below meth c H locs ls n0 s0 hX hn hR hS hl => lv_if_lt hX.1 hX.2.1 hd ht (fun hc => (kt hc).2 p l e R s m args below meth c H locs ls n0 s0 hX hn hR hS hl) (fun hc => (kf hc).2 p l e R s m args below meth c H locs ls n0 s0 hX hn hR hS hl)⟩
theorem ev_icmp_lt (pc' : Nat) {x y : Int32} {off : Int} (tgt : Nat) (hd : decode M.2.1 pc = .ok (.if_icmp .lt off, 3)) (ht : (pc : Int) + off = (tgt : Int)) (hp : pc + 3 = pc') (kt : x < y → Ev g M (tgt) lv (st) B I J P Z) (kf : ¬ x < y → Ev g M pc' lv (st) B I J P Z) : Ev g M (pc) lv (.int y :: .int x :: st) B I J P Z := by
  subst hp
  have h1 : mm_nx B ≤ mm_nx Z.2.1 ∧ mm_sl B ≤ mm_sl Z.2.1 := by
    by_cases hc : x < y
    · exact (kt hc).1
    · exact (kf hc).1
  exact ⟨h1, fun p l e R s m args below meth c H locs ls n0 s0 hX hn hR hS hl => lv_icmp_lt hX.1 hX.2.1 hd ht (fun hc => (kt hc).2 p l e R s m args below meth c H locs ls n0 s0 hX hn hR hS hl) (fun hc => (kf hc).2 p l e R s m args below meth c H locs ls n0 s0 hX hn hR hS hl)⟩
theorem ev_if_ge (pc' : Nat) {x : Int32} {off : Int} (tgt : Nat) (hd : decode M.2.1 pc = .ok (.ifCond .ge off, 3)) (ht : (pc : Int) + off = (tgt : Int)) (hp : pc + 3 = pc') (kt : 0 ≤ x → Ev g M (tgt) lv (st) B I J P Z) (kf : ¬ 0 ≤ x → Ev g M pc' lv (st) B I J P Z) : Ev g M (pc) lv (.int x :: st) B I J P Z := by
  subst hp
  have h1 : mm_nx B ≤ mm_nx Z.2.1 ∧ mm_sl B ≤ mm_sl Z.2.1 := by
    by_cases hc : 0 ≤ x
    · exact (kt hc).1
    · exact (kf hc).1
  exact ⟨h1, fun p l e R s m args below meth c H locs ls n0 s0 hX hn hR hS hl => lv_if_ge hX.1 hX.2.1 hd ht (fun hc => (kt hc).2 p l e R s m args below meth c H locs ls n0 s0 hX hn hR hS hl) (fun hc => (kf hc).2 p l e R s m args below meth c H locs ls n0 s0 hX hn hR hS hl)⟩
theorem ev_icmp_ge (pc' : Nat) {x y : Int32} {off : Int} (tgt : Nat) (hd : decode M.2.1 pc = .ok (.if_icmp .ge off, 3)) (ht : (pc : Int) + off = (tgt : Int)) (hp : pc + 3 = pc') (kt : y ≤ x → Ev g M (tgt) lv (st) B I J P Z) (kf : ¬ y ≤ x → Ev g M pc' lv (st) B I J P Z) : Ev g M (pc) lv (.int y :: .int x :: st) B I J P Z := by
  subst hp
  have h1 : mm_nx B ≤ mm_nx Z.2.1 ∧ mm_sl B ≤ mm_sl Z.2.1 := by
    by_cases hc : y ≤ x
    · exact (kt hc).1
    · exact (kf hc).1
  exact ⟨h1, fun p l e R s m args below meth c H locs ls n0 s0 hX hn hR hS hl => lv_icmp_ge hX.1 hX.2.1 hd ht (fun hc => (kt hc).2 p l e R s m args below meth c H locs ls n0 s0 hX hn hR hS hl) (fun hc => (kf hc).2 p l e R s m args below meth c H locs ls n0 s0 hX hn hR hS hl)⟩
theorem ev_if_gt (pc' : Nat) {x : Int32} {off : Int} (tgt : Nat) (hd : decode M.2.1 pc = .ok (.ifCond .gt off, 3)) (ht : (pc : Int) + off = (tgt : Int)) (hp : pc + 3 = pc') (kt : 0 < x → Ev g M (tgt) lv (st) B I J P Z) (kf : ¬ 0 < x → Ev g M pc' lv (st) B I J P Z) : Ev g M (pc) lv (.int x :: st) B I J P Z := by
  subst hp
  have h1 : mm_nx B ≤ mm_nx Z.2.1 ∧ mm_sl B ≤ mm_sl Z.2.1 := by
    by_cases hc : 0 < x
    · exact (kt hc).1
    · exact (kf hc).1
  exact ⟨h1, fun p l e R s m args below meth c H locs ls n0 s0 hX hn hR hS hl => lv_if_gt hX.1 hX.2.1 hd ht (fun hc => (kt hc).2 p l e R s m args below meth c H locs ls n0 s0 hX hn hR hS hl) (fun hc => (kf hc).2 p l e R s m args below meth c H locs ls n0 s0 hX hn hR hS hl)⟩
theorem ev_icmp_gt (pc' : Nat) {x y : Int32} {off : Int} (tgt : Nat) (hd : decode M.2.1 pc = .ok (.if_icmp .gt off, 3)) (ht : (pc : Int) + off = (tgt : Int)) (hp : pc + 3 = pc') (kt : y < x → Ev g M (tgt) lv (st) B I J P Z) (kf : ¬ y < x → Ev g M pc' lv (st) B I J P Z) : Ev g M (pc) lv (.int y :: .int x :: st) B I J P Z := by
  subst hp
  have h1 : mm_nx B ≤ mm_nx Z.2.1 ∧ mm_sl B ≤ mm_sl Z.2.1 := by
    by_cases hc : y < x
    · exact (kt hc).1
    · exact (kf hc).1
  exact ⟨h1, fun p l e R s m args below meth c H locs ls n0 s0 hX hn hR hS hl => lv_icmp_gt hX.1 hX.2.1 hd ht (fun hc => (kt hc).2 p l e R s m args below meth c H locs ls n0 s0 hX hn hR hS hl) (fun hc => (kf hc).2 p l e R s m args below meth c H locs ls n0 s0 hX hn hR hS hl)⟩
theorem ev_if_le (pc' : Nat) {x : Int32} {off : Int} (tgt : Nat) (hd : decode M.2.1 pc = .ok (.ifCond .le off, 3)) (ht : (pc : Int) + off = (tgt : Int)) (hp : pc + 3 = pc') (kt : x ≤ 0 → Ev g M (tgt) lv (st) B I J P Z) (kf : ¬ x ≤ 0 → Ev g M pc' lv (st) B I J P Z) : Ev g M (pc) lv (.int x :: st) B I J P Z := by
  subst hp
  have h1 : mm_nx B ≤ mm_nx Z.2.1 ∧ mm_sl B ≤ mm_sl Z.2.1 := by
    by_cases hc : x ≤ 0
    · exact (kt hc).1
    · exact (kf hc).1
  exact ⟨h1, fun p l e R s m args below meth c H locs ls n0 s0 hX hn hR hS hl => lv_if_le hX.1 hX.2.1 hd ht (fun hc => (kt hc).2 p l e R s m args below meth c H locs ls n0 s0 hX hn hR hS hl) (fun hc => (kf hc).2 p l e R s m args below meth c H locs ls n0 s0 hX hn hR hS hl)⟩
theorem ev_icmp_le (pc' : Nat) {x y : Int32} {off : Int} (tgt : Nat) (hd : decode M.2.1 pc = .ok (.if_icmp .le off, 3)) (ht : (pc : Int) + off = (tgt : Int)) (hp : pc + 3 = pc') (kt : x ≤ y → Ev g M (tgt) lv (st) B I J P Z) (kf : ¬ x ≤ y → Ev g M pc' lv (st) B I J P Z) : Ev g M (pc) lv (.int y :: .int x :: st) B I J P Z := by
  subst hp
  have h1 : mm_nx B ≤ mm_nx Z.2.1 ∧ mm_sl B ≤ mm_sl Z.2.1 := by
    by_cases hc : x ≤ y
    · exact (kt hc).1
    · exact (kf hc).1
  exact ⟨h1, fun p l e R s m args below meth c H locs ls n0 s0 hX hn hR hS hl => lv_icmp_le hX.1 hX.2.1 hd ht (fun hc => (kt hc).2 p l e R s m args below meth c H locs ls n0 s0 hX hn hR hS hl) (fun hc => (kf hc).2 p l e R s m args below meth c H locs ls n0 s0 hX hn hR hS hl)⟩
theorem ev_goto {off : Int} (tgt : Nat) (hd : decode M.2.1 pc = .ok (.goto off, 3)) (ht : (pc : Int) + off = (tgt : Int)) (h : Ev g M (tgt) lv (st) B I J P Z) : Ev g M (pc) lv (st) B I J P Z :=
  ev_st (fun _ _ _ _ _ _ _ _ _ _ _ _ ls _ _ _ hX hl k => lv_goto hX.1 hX.2.1 hd ht (k ls hl)) h
theorem ev_ifnull_r (pc' : Nat) {x : Nat} {off : Int} (hd : decode M.2.1 pc = .ok (.ifnull off, 3)) (hp : pc + 3 = pc') (h : Ev g M pc' lv (st) B I J P Z) : Ev g M (pc) lv (.ref x :: st) B I J P Z := by
  subst hp
  exact ev_st (fun _ _ _ _ _ _ _ _ _ _ _ _ ls _ _ _ hX hl k => lv_ifnull hX.1 hX.2.1 hd (k ls hl)) h
theorem ev_ifnull_n {off : Int} (tgt : Nat) (hd : decode M.2.1 pc = .ok (.ifnull off, 3)) (ht : (pc : Int) + off = (tgt : Int)) (h : Ev g M (tgt) lv (st) B I J P Z) : Ev g M (pc) lv (.null :: st) B I J P Z :=
  ev_st (fun _ _ _ _ _ _ _ _ _ _ _ _ ls _ _ _ hX hl k => lv_ifnullN hX.1 hX.2.1 hd ht (k ls hl)) h
theorem ev_ifnonnull_r {x : Nat} {off : Int} (tgt : Nat) (hd : decode M.2.1 pc = .ok (.ifnonnull off, 3)) (ht : (pc : Int) + off = (tgt : Int)) (h : Ev g M (tgt) lv (st) B I J P Z) : Ev g M (pc) lv (.ref x :: st) B I J P Z :=
  ev_st (fun _ _ _ _ _ _ _ _ _ _ _ _ ls _ _ _ hX hl k => lv_ifnonnull hX.1 hX.2.1 hd ht (k ls hl)) h
theorem ev_ifnonnull_n (pc' : Nat) {off : Int} (hd : decode M.2.1 pc = .ok (.ifnonnull off, 3)) (hp : pc + 3 = pc') (h : Ev g M pc' lv (st) B I J P Z) : Ev g M (pc) lv (.null :: st) B I J P Z := by
  subst hp
  exact ev_st (fun _ _ _ _ _ _ _ _ _ _ _ _ ls _ _ _ hX hl k => lv_ifnonnullN hX.1 hX.2.1 hd (k ls hl)) h
theorem ev_tableIn {dflt lo hi : Int} {offs : Array Int} {len : Nat} {x : Int32} {off : Int} (tgt : Nat) (hd : decode M.2.1 pc = .ok (.tableswitch dflt lo hi offs, len)) (h1 : ¬ x.toInt < lo) (h2 : ¬ hi < x.toInt) (ho : offs[(x.toInt - lo).toNat]? = some off) (ht : (pc : Int) + off = (tgt : Int)) (h : Ev g M (tgt) lv (st) B I J P Z) : Ev g M (pc) lv (.int x :: st) B I J P Z :=
  ev_st (fun _ _ _ _ _ _ _ _ _ _ _ _ ls _ _ _ hX hl k => lv_tableIn hX.1 hX.2.1 hd h1 h2 ho ht (k ls hl)) h
theorem ev_tableOut {dflt lo hi : Int} {offs : Array Int} {len : Nat} {x : Int32} (tgt : Nat) (hd : decode M.2.1 pc = .ok (.tableswitch dflt lo hi offs, len)) (h1 : x.toInt < lo ∨ hi < x.toInt) (ht : (pc : Int) + dflt = (tgt : Int)) (h : Ev g M (tgt) lv (st) B I J P Z) : Ev g M (pc) lv (.int x :: st) B I J P Z :=
  ev_st (fun _ _ _ _ _ _ _ _ _ _ _ _ ls _ _ _ hX hl k => lv_tableOut hX.1 hX.2.1 hd h1 ht (k ls hl)) h
theorem ev_ldc (pc' : Nat) {i : Nat} {v : Int32} (hd : decode M.2.1 pc = .ok (.ldc i, 2)) (hw : Cond.constant M.1.cls i v ∈ lw_all) (hp : pc + 2 = pc') (h : Ev g M pc' lv (.int v :: st) B I J P Z) : Ev g M (pc) lv (st) B I J P Z := by
  subst hp
  exact ev_st (fun _ _ _ _ _ _ _ _ _ _ _ _ ls _ _ _ hX hl k => W.ldc hX.1 hX.2.1 hX.2.2.2.2.2.1 (hX.2.2.2.2.2.2.2.1 _ hw) rfl hd (k ls hl)) h
theorem ev_ldc2 (pc' : Nat) {i : Nat} {v : Int64} (hd : decode M.2.1 pc = .ok (.ldc2_w i, 3)) (hw : Cond.constantLong M.1.cls i v ∈ lw_all) (hp : pc + 3 = pc') (h : Ev g M pc' lv (.long v :: st) B I J P Z) : Ev g M (pc) lv (st) B I J P Z := by
  subst hp
  exact ev_st (fun _ _ _ _ _ _ _ _ _ _ _ _ ls _ _ _ hX hl k => W.ldc2 hX.1 hX.2.1 hX.2.2.2.2.2.1 (hX.2.2.2.2.2.2.2.1 _ hw) rfl hd (k ls hl)) h
end EVB
