section EVL
variable {g : mm_G} {M : mm_M} {pc : Nat} {lv lv' : mm_L} {st : List Value} {B : mm_B} {I : mm_TI} {J : mm_TJ} {P : mm_TP} {Z : mm_Z}
theorem mm_cmp_gt {x y : Int64} : 0 < lg_cmp x y ↔ y < x := by
  unfold lg_cmp
  by_cases h1 : y < x
  · simp [h1]
  · by_cases h2 : x = y
    · subst h2; simp
    · simp [h1, h2]
theorem mm_cmp_lt {x y : Int64} : lg_cmp x y < 0 ↔ x < y := by
  unfold lg_cmp
  by_cases h1 : y < x
  · have : ¬ x < y := by rw [Int64.lt_iff_toInt_lt] at h1 ⊢; omega
    simp [h1, this]
  · by_cases h2 : x = y
    · subst h2; simp
    · have : x < y := by
        rw [Int64.lt_iff_toInt_lt] at h1 ⊢
        have h3 : x.toInt ≠ y.toInt := fun e => h2 (Int64.toInt_inj.mp e)
        omega
      simp [h1, h2, this]
theorem mm_cmp_eq {x y : Int64} : lg_cmp x y = 0 ↔ x = y := by
  unfold lg_cmp
  by_cases h1 : y < x
  · have : ¬ x = y := fun e => by subst e; rw [Int64.lt_iff_toInt_lt] at h1; omega
    simp [h1, this]
  · by_cases h2 : x = y
    · subst h2; simp
    · simp [h1, h2]
theorem ev_lc_gt (pc' : Nat) {x y : Int64} {off : Int} (tgt : Nat) (hd : decode M.2.1 pc = .ok (.ifCond .gt off, 3)) (ht : (pc : Int) + off = (tgt : Int)) (hp : pc + 3 = pc') (kt : y < x → Ev g M tgt lv st B I J P Z) (kf : ¬ y < x → Ev g M pc' lv st B I J P Z) : Ev g M pc lv (.int (lg_cmp x y) :: st) B I J P Z :=
  ev_if_gt pc' tgt hd ht hp (fun h => kt (mm_cmp_gt.mp h)) (fun h => kf (fun z => h (mm_cmp_gt.mpr z)))
theorem ev_lc_lt (pc' : Nat) {x y : Int64} {off : Int} (tgt : Nat) (hd : decode M.2.1 pc = .ok (.ifCond .lt off, 3)) (ht : (pc : Int) + off = (tgt : Int)) (hp : pc + 3 = pc') (kt : x < y → Ev g M tgt lv st B I J P Z) (kf : ¬ x < y → Ev g M pc' lv st B I J P Z) : Ev g M pc lv (.int (lg_cmp x y) :: st) B I J P Z :=
  ev_if_lt pc' tgt hd ht hp (fun h => kt (mm_cmp_lt.mp h)) (fun h => kf (fun z => h (mm_cmp_lt.mpr z)))
theorem ev_lc_eq (pc' : Nat) {x y : Int64} {off : Int} (tgt : Nat) (hd : decode M.2.1 pc = .ok (.ifCond .eq off, 3)) (ht : (pc : Int) + off = (tgt : Int)) (hp : pc + 3 = pc') (kt : x = y → Ev g M tgt lv st B I J P Z) (kf : ¬ x = y → Ev g M pc' lv st B I J P Z) : Ev g M pc lv (.int (lg_cmp x y) :: st) B I J P Z :=
  ev_if_eq pc' tgt hd ht hp (fun h => kt (mm_cmp_eq.mp h)) (fun h => kf (fun z => h (mm_cmp_eq.mpr z)))
theorem ev_lc_le (pc' : Nat) {x y : Int64} {off : Int} (tgt : Nat) (hd : decode M.2.1 pc = .ok (.ifCond .le off, 3)) (ht : (pc : Int) + off = (tgt : Int)) (hp : pc + 3 = pc') (kt : ¬ y < x → Ev g M tgt lv st B I J P Z) (kf : y < x → Ev g M pc' lv st B I J P Z) : Ev g M pc lv (.int (lg_cmp x y) :: st) B I J P Z :=
  ev_if_le pc' tgt hd ht hp (fun h => kt (fun z => absurd (mm_cmp_gt.mpr z) (Int32.not_lt.mpr h))) (fun h => kf (mm_cmp_gt.mp (Int32.not_le.mp h)))
theorem ev_lc_ge (pc' : Nat) {x y : Int64} {off : Int} (tgt : Nat) (hd : decode M.2.1 pc = .ok (.ifCond .ge off, 3)) (ht : (pc : Int) + off = (tgt : Int)) (hp : pc + 3 = pc') (kt : ¬ x < y → Ev g M tgt lv st B I J P Z) (kf : x < y → Ev g M pc' lv st B I J P Z) : Ev g M pc lv (.int (lg_cmp x y) :: st) B I J P Z :=
  ev_if_ge pc' tgt hd ht hp (fun h => kt (fun z => absurd (mm_cmp_lt.mpr z) (Int32.not_lt.mpr h))) (fun h => kf (mm_cmp_lt.mp (Int32.not_le.mp h)))
theorem ev_lc_ne (pc' : Nat) {x y : Int64} {off : Int} (tgt : Nat) (hd : decode M.2.1 pc = .ok (.ifCond .ne off, 3)) (ht : (pc : Int) + off = (tgt : Int)) (hp : pc + 3 = pc') (kt : ¬ x = y → Ev g M tgt lv st B I J P Z) (kf : x = y → Ev g M pc' lv st B I J P Z) : Ev g M pc lv (.int (lg_cmp x y) :: st) B I J P Z :=
  ev_if_ne pc' tgt hd ht hp (fun h => kt (fun z => h (mm_cmp_eq.mpr z))) (fun h => kf (mm_cmp_eq.mp h))
end EVL
theorem mle_0 : mm_le [] [] := fun _ _ h => h
theorem mle_n {l l' : mm_L} {a : Option Value} (h : mm_le l l') : mm_le (a :: l) (none :: l') := fun i v e => by
  cases i with
  | zero => cases e
  | succ i => exact h i v e
theorem mle_s {l l' : mm_L} {a : Option Value} (h : mm_le l l') : mm_le (a :: l) (a :: l') := fun i v e => by
  cases i with
  | zero => exact e
  | succ i => exact h i v e
