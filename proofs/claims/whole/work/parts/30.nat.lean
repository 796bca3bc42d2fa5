section EVN0
variable {g : mm_G} {M : mm_M} {pc : Nat} {lv lv' : mm_L} {st : List Value} {B : mm_B} {I : mm_TI} {J : mm_TJ} {P : mm_TP} {Z : mm_Z}
theorem ev_eqI {x y : Int32} (e : x = y) (h : Ev g M pc lv (.int y :: st) B I J P Z) : Ev g M pc lv (.int x :: st) B I J P Z := by rw [e]; exact h
theorem ev_eqJ {x y : Int64} (e : x = y) (h : Ev g M pc lv (.long y :: st) B I J P Z) : Ev g M pc lv (.long x :: st) B I J P Z := by rw [e]; exact h
theorem mm_ofI (n : Nat) : Int32.ofInt (n : Int) = nI n := by
  apply Int32.toBitVec_inj.mp
  show BitVec.ofInt 32 (n : Int) = BitVec.ofNat 32 n
  exact BitVec.ofInt_natCast ..
theorem mm_subI {a n : Nat} (h : n ≤ a) : nI a + Int32.ofInt (-(n : Int)) = nI (a - n) := by
  have e : Int32.ofInt (-(n : Int)) = - nI n := by
    rw [← mm_ofI]; simp
  rw [e, ← Int32.sub_eq_add_neg]
  exact pk_sub h
theorem ev_iconstN (pc' n : Nat) (hd : decode M.2.1 pc = .ok (.iconst (n : Int), 1)) (hp : pc + 1 = pc') (h : Ev g M pc' lv (.int (nI n) :: st) B I J P Z) : Ev g M pc lv st B I J P Z := ev_iconst pc' hd (mm_ofI n) hp h
theorem ev_bipushN (pc' n : Nat) (hd : decode M.2.1 pc = .ok (.bipush (n : Int), 2)) (hv : (Int8.ofInt (n : Int)).toInt32 = nI n) (hp : pc + 2 = pc') (h : Ev g M pc' lv (.int (nI n) :: st) B I J P Z) : Ev g M pc lv st B I J P Z := ev_bipush pc' hd hv hp h
theorem ev_sipushN (pc' n : Nat) (hd : decode M.2.1 pc = .ok (.sipush (n : Int), 3)) (hv : (Int16.ofInt (n : Int)).toInt32 = nI n) (hp : pc + 3 = pc') (h : Ev g M pc' lv (.int (nI n) :: st) B I J P Z) : Ev g M pc lv st B I J P Z := ev_sipush pc' hd hv hp h
theorem ev_iaddN (pc' : Nat) {a b : Nat} (hd : decode M.2.1 pc = .ok (.iadd, 1)) (hp : pc + 1 = pc') (h : Ev g M pc' lv (.int (nI (a + b)) :: st) B I J P Z) : Ev g M pc lv (.int (nI b) :: .int (nI a) :: st) B I J P Z := ev_iadd pc' hd hp (by rw [nI_add]; exact h)
theorem ev_isubN (pc' : Nat) {a b : Nat} (hd : decode M.2.1 pc = .ok (.isub, 1)) (hb : b ≤ a) (hp : pc + 1 = pc') (h : Ev g M pc' lv (.int (nI (a - b)) :: st) B I J P Z) : Ev g M pc lv (.int (nI b) :: .int (nI a) :: st) B I J P Z := ev_isub pc' hd hp (by rw [pk_sub hb]; exact h)
theorem ev_imulN (pc' : Nat) {a b : Nat} (hd : decode M.2.1 pc = .ok (.imul, 1)) (hp : pc + 1 = pc') (h : Ev g M pc' lv (.int (nI (a * b)) :: st) B I J P Z) : Ev g M pc lv (.int (nI b) :: .int (nI a) :: st) B I J P Z := ev_imul pc' hd hp (by rw [pk_mul]; exact h)
theorem ev_idivN (pc' : Nat) {a b : Nat} (hd : decode M.2.1 pc = .ok (.idiv, 1)) (ha : a < 2 ^ 31) (h0 : 0 < b) (hb : b < 2 ^ 31) (hp : pc + 1 = pc') (h : Ev g M pc' lv (.int (nI (a / b)) :: st) B I J P Z) : Ev g M pc lv (.int (nI b) :: .int (nI a) :: st) B I J P Z := ev_idiv pc' hd (nI_ne0 h0 hb) hp (by rw [pk_div ha h0 hb]; exact h)
theorem ev_iremN (pc' : Nat) {a b : Nat} (hd : decode M.2.1 pc = .ok (.irem, 1)) (ha : a < 2 ^ 31) (h0 : 0 < b) (hb : b < 2 ^ 31) (hp : pc + 1 = pc') (h : Ev g M pc' lv (.int (nI (a % b)) :: st) B I J P Z) : Ev g M pc lv (.int (nI b) :: .int (nI a) :: st) B I J P Z := ev_irem pc' hd (nI_ne0 h0 hb) hp (by rw [pk_rem ha h0 hb]; exact h)
theorem ev_iincN (pc' : Nat) {i a : Nat} (n : Nat) (hd : decode M.2.1 pc = .ok (.iinc i (n : Int), 3)) (hv : mm_at lv i = some (.int (nI a))) (hn : i < M.2.2.1) (hs : mm_set lv i (Value.int (nI (a + n))) = lv') (hp : pc + 3 = pc') (h : Ev g M pc' lv' st B I J P Z) : Ev g M pc lv st B I J P Z := ev_iinc pc' hd hv (by rw [mm_ofI, nI_add]) hn hs hp h
theorem ev_iincM (pc' : Nat) {i a : Nat} (n : Nat) (hd : decode M.2.1 pc = .ok (.iinc i (-(n : Int)), 3)) (hv : mm_at lv i = some (.int (nI a))) (ha : n ≤ a) (hn : i < M.2.2.1) (hs : mm_set lv i (Value.int (nI (a - n))) = lv') (hp : pc + 3 = pc') (h : Ev g M pc' lv' st B I J P Z) : Ev g M pc lv st B I J P Z := ev_iinc pc' hd hv (mm_subI ha) hn hs hp h
theorem ev_icmp_eqN (pc' : Nat) {a b : Nat} {off : Int} (tgt : Nat) (hd : decode M.2.1 pc = .ok (.if_icmp .eq off, 3)) (ht : (pc : Int) + off = (tgt : Int)) (ha : a < 2 ^ 31) (hb : b < 2 ^ 31) (hp : pc + 3 = pc') (kt : a = b → Ev g M tgt lv st B I J P Z) (kf : ¬ a = b → Ev g M pc' lv st B I J P Z) : Ev g M pc lv (.int (nI b) :: .int (nI a) :: st) B I J P Z :=
  ev_icmp_eq pc' tgt hd ht hp (fun h => kt ((nI_eq ha hb).mp h)) (fun h => kf (fun z => h ((nI_eq ha hb).mpr z)))
theorem ev_icmp_ltN (pc' : Nat) {a b : Nat} {off : Int} (tgt : Nat) (hd : decode M.2.1 pc = .ok (.if_icmp .lt off, 3)) (ht : (pc : Int) + off = (tgt : Int)) (ha : a < 2 ^ 31) (hb : b < 2 ^ 31) (hp : pc + 3 = pc') (kt : a < b → Ev g M tgt lv st B I J P Z) (kf : ¬ a < b → Ev g M pc' lv st B I J P Z) : Ev g M pc lv (.int (nI b) :: .int (nI a) :: st) B I J P Z :=
  ev_icmp_lt pc' tgt hd ht hp (fun h => kt ((nI_ltI ha hb).mp h)) (fun h => kf (fun z => h ((nI_ltI ha hb).mpr z)))
theorem ev_icmp_geN (pc' : Nat) {a b : Nat} {off : Int} (tgt : Nat) (hd : decode M.2.1 pc = .ok (.if_icmp .ge off, 3)) (ht : (pc : Int) + off = (tgt : Int)) (ha : a < 2 ^ 31) (hb : b < 2 ^ 31) (hp : pc + 3 = pc') (kt : b ≤ a → Ev g M tgt lv st B I J P Z) (kf : ¬ b ≤ a → Ev g M pc' lv st B I J P Z) : Ev g M pc lv (.int (nI b) :: .int (nI a) :: st) B I J P Z :=
  ev_icmp_ge pc' tgt hd ht hp (fun h => kt ((nI_leI hb ha).mp h)) (fun h => kf (fun z => h ((nI_leI hb ha).mpr z)))
theorem ev_icmp_gtN (pc' : Nat) {a b : Nat} {off : Int} (tgt : Nat) (hd : decode M.2.1 pc = .ok (.if_icmp .gt off, 3)) (ht : (pc : Int) + off = (tgt : Int)) (ha : a < 2 ^ 31) (hb : b < 2 ^ 31) (hp : pc + 3 = pc') (kt : b < a → Ev g M tgt lv st B I J P Z) (kf : ¬ b < a → Ev g M pc' lv st B I J P Z) : Ev g M pc lv (.int (nI b) :: .int (nI a) :: st) B I J P Z :=
  ev_icmp_gt pc' tgt hd ht hp (fun h => kt ((nI_ltI hb ha).mp h)) (fun h => kf (fun z => h ((nI_ltI hb ha).mpr z)))
theorem ev_icmp_leN (pc' : Nat) {a b : Nat} {off : Int} (tgt : Nat) (hd : decode M.2.1 pc = .ok (.if_icmp .le off, 3)) (ht : (pc : Int) + off = (tgt : Int)) (ha : a < 2 ^ 31) (hb : b < 2 ^ 31) (hp : pc + 3 = pc') (kt : a ≤ b → Ev g M tgt lv st B I J P Z) (kf : ¬ a ≤ b → Ev g M pc' lv st B I J P Z) : Ev g M pc lv (.int (nI b) :: .int (nI a) :: st) B I J P Z :=
  ev_icmp_le pc' tgt hd ht hp (fun h => kt ((nI_leI ha hb).mp h)) (fun h => kf (fun z => h ((nI_leI ha hb).mpr z)))
theorem ev_icmp_neN (pc' : Nat) {a b : Nat} {off : Int} (tgt : Nat) (hd : decode M.2.1 pc = .ok (.if_icmp .ne off, 3)) (ht : (pc : Int) + off = (tgt : Int)) (ha : a < 2 ^ 31) (hb : b < 2 ^ 31) (hp : pc + 3 = pc') (kt : ¬ a = b → Ev g M tgt lv st B I J P Z) (kf : a = b → Ev g M pc' lv st B I J P Z) : Ev g M pc lv (.int (nI b) :: .int (nI a) :: st) B I J P Z :=
  ev_icmp_ne pc' tgt hd ht hp (fun h => kt (fun z => h ((nI_eq ha hb).mpr z))) (fun h => kf ((nI_eq ha hb).mp h))
theorem ev_if_eqN (pc' : Nat) {a : Nat} {off : Int} (tgt : Nat) (hd : decode M.2.1 pc = .ok (.ifCond .eq off, 3)) (ht : (pc : Int) + off = (tgt : Int)) (ha : a < 2 ^ 31) (hp : pc + 3 = pc') (kt : a = 0 → Ev g M tgt lv st B I J P Z) (kf : ¬ a = 0 → Ev g M pc' lv st B I J P Z) : Ev g M pc lv (.int (nI a) :: st) B I J P Z :=
  ev_if_eq pc' tgt hd ht hp (fun h => kt ((nI_eq ha (by decide)).mp (h.trans nI_0.symm))) (fun h => kf (fun z => h (by rw [z]; exact nI_0)))
theorem ev_if_neN (pc' : Nat) {a : Nat} {off : Int} (tgt : Nat) (hd : decode M.2.1 pc = .ok (.ifCond .ne off, 3)) (ht : (pc : Int) + off = (tgt : Int)) (ha : a < 2 ^ 31) (hp : pc + 3 = pc') (kt : ¬ a = 0 → Ev g M tgt lv st B I J P Z) (kf : a = 0 → Ev g M pc' lv st B I J P Z) : Ev g M pc lv (.int (nI a) :: st) B I J P Z :=
  ev_if_ne pc' tgt hd ht hp (fun h => kt (fun z => h (by rw [z]; exact nI_0))) (fun h => kf ((nI_eq ha (by decide)).mp (h.trans nI_0.symm)))
theorem ev_if_gtN (pc' : Nat) {a : Nat} {off : Int} (tgt : Nat) (hd : decode M.2.1 pc = .ok (.ifCond .gt off, 3)) (ht : (pc : Int) + off = (tgt : Int)) (ha : a < 2 ^ 31) (hp : pc + 3 = pc') (kt : 0 < a → Ev g M tgt lv st B I J P Z) (kf : ¬ 0 < a → Ev g M pc' lv st B I J P Z) : Ev g M pc lv (.int (nI a) :: st) B I J P Z :=
  ev_if_gt pc' tgt hd ht hp (fun h => kt ((nI_ltI (by decide) ha).mp (nI_0 ▸ h))) (fun h => kf (fun z => h (nI_0 ▸ (nI_ltI (by decide) ha).mpr z)))
theorem ev_if_leN (pc' : Nat) {a : Nat} {off : Int} (tgt : Nat) (hd : decode M.2.1 pc = .ok (.ifCond .le off, 3)) (ht : (pc : Int) + off = (tgt : Int)) (ha : a < 2 ^ 31) (hp : pc + 3 = pc') (kt : a ≤ 0 → Ev g M tgt lv st B I J P Z) (kf : ¬ a ≤ 0 → Ev g M pc' lv st B I J P Z) : Ev g M pc lv (.int (nI a) :: st) B I J P Z :=
  ev_if_le pc' tgt hd ht hp (fun h => kt ((nI_leI ha (by decide)).mp (nI_0 ▸ h))) (fun h => kf (fun z => h (nI_0 ▸ (nI_leI ha (by decide)).mpr z)))
theorem ev_if_ltN (pc' : Nat) {a : Nat} {off : Int} (tgt : Nat) (hd : decode M.2.1 pc = .ok (.ifCond .lt off, 3)) (ht : (pc : Int) + off = (tgt : Int)) (ha : a < 2 ^ 31) (hp : pc + 3 = pc') (_kt : False → Ev g M tgt lv st B I J P Z) (kf : ¬ False → Ev g M pc' lv st B I J P Z) : Ev g M pc lv (.int (nI a) :: st) B I J P Z :=
  ev_if_lt pc' tgt hd ht hp (fun h => absurd h (nI_pos ha)) (fun _ => kf id)
theorem ev_if_geN (pc' : Nat) {a : Nat} {off : Int} (tgt : Nat) (hd : decode M.2.1 pc = .ok (.ifCond .ge off, 3)) (ht : (pc : Int) + off = (tgt : Int)) (ha : a < 2 ^ 31) (hp : pc + 3 = pc') (kt : True → Ev g M tgt lv st B I J P Z) (_kf : ¬ True → Ev g M pc' lv st B I J P Z) : Ev g M pc lv (.int (nI a) :: st) B I J P Z :=
  ev_if_ge pc' tgt hd ht hp (fun _ => kt trivial) (fun h => absurd (nI_pos' ha) h)
theorem ev_ldc_w (pc' : Nat) {i : Nat} {v : Int32} (hd : decode M.2.1 pc = .ok (.ldc_w i, 3)) (hw : Cond.constant M.1.cls i v ∈ lw_all) (hp : pc + 3 = pc') (h : Ev g M pc' lv (.int v :: st) B I J P Z) : Ev g M pc lv st B I J P Z := by
  subst hp
  exact ev_st (fun _ _ _ _ _ _ _ _ _ _ _ _ ls _ _ _ hX hl k => lv_ldcw hX.1 hX.2.1 hX.2.2.2.2.2.1 (hX.2.2.2.2.2.2.2.1 _ hw) hd (k ls hl)) h
end EVN0
