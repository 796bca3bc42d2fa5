/-! CONSTRUCTORS that make rows -/
def als (B : mm_B) : List (Nat × Nat × Nat) → mm_B
  | [] => B
  | r :: l => als (mm_al B r.1 r.2.1 r.2.2) l
theorem als_x : ∀ (l : List (Nat × Nat × Nat)) (B : mm_B), mm_nx (als B l) = mm_nx B + l.length := by
  intro l
  induction l with
  | nil => intro B; rfl
  | cons r l ih => intro B; show mm_nx (als (mm_al B r.1 r.2.1 r.2.2) l) = _; rw [ih, al_x, List.length_cons]; omega
theorem als_lo : ∀ (l : List (Nat × Nat × Nat)) (B : mm_B) (q : Nat), q < mm_nx B → mm_T (als B l) q = mm_T B q ∧ mm_N (als B l) q = mm_N B q := by
  intro l
  induction l with
  | nil => intro B q _; exact ⟨rfl, rfl⟩
  | cons r l ih =>
    intro B q hq
    have := ih (mm_al B r.1 r.2.1 r.2.2) q (by rw [al_x]; omega)
    exact ⟨this.1.trans (al_T (by omega)), this.2.trans (al_N (by omega))⟩
theorem als_at : ∀ (l : List (Nat × Nat × Nat)) (B : mm_B) (i : Nat) (r : Nat × Nat × Nat), l[i]? = some r → mm_T (als B l) (mm_nx B + i) = r.1 ∧ mm_N (als B l) (mm_nx B + i) = r.2.1 := by
  intro l
  induction l with
  | nil => intro B i r h; cases h
  | cons s l ih =>
    intro B i r h
    cases i with
    | zero =>
      have h : some s = some r := h
      cases h
      have := als_lo l (mm_al B s.1 s.2.1 s.2.2) (mm_nx B) (by rw [al_x]; omega)
      exact ⟨this.1.trans al_Ts, this.2.trans al_Ns⟩
    | succ i =>
      have := ih (mm_al B s.1 s.2.1 s.2.2) i r h
      rw [al_x, show mm_nx B + 1 + i = mm_nx B + (i + 1) by omega] at this
      exact this
theorem als_T {l : List (Nat × Nat × Nat)} {B : mm_B} {z i : Nat} {r : Nat × Nat × Nat} (hz : mm_nx B = z) (h : l[i]? = some r) : mm_T (als B l) (z + i) = r.1 := by rw [← hz]; exact (als_at l B i r h).1
theorem als_N {l : List (Nat × Nat × Nat)} {B : mm_B} {z i : Nat} {r : Nat × Nat × Nat} (hz : mm_nx B = z) (h : l[i]? = some r) : mm_N (als B l) (z + i) = r.2.1 := by rw [← hz]; exact (als_at l B i r h).2
theorem als_t {l : List (Nat × Nat × Nat)} {B : mm_B} {z i a v : Nat} {r : Nat × Nat × Nat} (hz : mm_nx B = z) (ha : a = z + i) (h : l[i]? = some r) (hv : r.1 = v) : mm_T (als B l) a = v := by rw [ha, als_T hz h]; exact hv
theorem als_n {l : List (Nat × Nat × Nat)} {B : mm_B} {z i a v : Nat} {r : Nat × Nat × Nat} (hz : mm_nx B = z) (ha : a = z + i) (h : l[i]? = some r) (hv : r.2.1 = v) : mm_N (als B l) a = v := by rw [ha, als_N hz h]; exact hv
theorem als_Ext : ∀ (l : List (Nat × Nat × Nat)) (B : mm_B), (∀ q, mm_nx B ≤ q → mm_T B q = 0) → Ext B (als B l) ∧ ∀ q, mm_nx (als B l) ≤ q → mm_T (als B l) q = 0 := by
  intro l
  induction l with
  | nil => intro B h; exact ⟨Ext_rf B, h⟩
  | cons r l ih =>
    intro B h
    obtain ⟨a, b⟩ := ih (mm_al B r.1 r.2.1 r.2.2) (al_z h)
    exact ⟨Ext_tr (Ext_al h) a, b⟩
def als_s : List (Nat × Nat × Nat) → Nat
  | [] => 0
  | r :: l => r.2.2 + als_s l
theorem als_sl : ∀ (l : List (Nat × Nat × Nat)) (B : mm_B), mm_sl (als B l) = mm_sl B + als_s l := by
  intro l
  induction l with
  | nil => intro B; rfl
  | cons r l ih =>
    intro B
    show mm_sl (als (mm_al B r.1 r.2.1 r.2.2) l) = mm_sl B + (r.2.2 + als_s l)
    rw [ih]; show mm_sl B + r.2.2 + als_s l = _; omega
def ly_al (TL : List (Option Nat)) (f : Nat × Nat × Nat → Nat) (l : List (Nat × Nat × Nat)) (k : Nat) : Bool := match TL[k]? with
  | some (some t) => (match l[k]? with | some r => decide (f r = t) | none => false)
  | _ => true
theorem ly_T_als {B : mm_B} {z : Nat} {TL : List (Option Nat)} {l : List (Nat × Nat × Nat)} (hz : mm_nx B = z) (h : (List.range TL.length).all (ly_al TL (fun r => r.1) l) = true) : ly_T (als B l) z TL := fun k t e => by
  have hk : k < TL.length := (List.getElem?_eq_some_iff.mp e).1
  have q : ly_al TL (fun r => r.1) l k = true := List.all_eq_true.mp h _ (List.mem_range.mpr hk)
  unfold ly_al at q
  rw [e] at q
  simp only at q
  split at q
  · rename_i r e'
    rw [als_T hz e']; exact of_decide_eq_true q
  · cases q
theorem ly_N_als {B : mm_B} {z : Nat} {TL : List (Option Nat)} {l : List (Nat × Nat × Nat)} (hz : mm_nx B = z) (h : (List.range TL.length).all (ly_al TL (fun r => r.2.1) l) = true) : ly_N (als B l) z TL := fun k t e => by
  have hk : k < TL.length := (List.getElem?_eq_some_iff.mp e).1
  have q : ly_al TL (fun r => r.2.1) l k = true := List.all_eq_true.mp h _ (List.mem_range.mpr hk)
  unfold ly_al at q
  rw [e] at q
  simp only at q
  split at q
  · rename_i r e'
    rw [als_N hz e']; exact of_decide_eq_true q
  · cases q
section AR0
variable {g : mm_G} {B : mm_B} {I : mm_TI} {J : mm_TJ} {P : mm_TP}
def lX10_init : List (Nat × Nat × Nat) := [(110, 0, 4), (200, 8, 8), (200, 32, 32)]
theorem cx_X10_init : ∃ (I' : mm_TI) (J' : mm_TJ) (P' : mm_TP), Ct g mX10_init [.ref (mm_nx B)] (als B (lX10_init.take 1)) I J P (none, als B lX10_init, I', J', P') ∧ (∀ q, mm_nx B + 1 ≤ q → q < mm_nx B + 3 → I' q = (fun _ => 0) ∧ J' q = (fun _ => 0)) ∧ (∀ q, q < mm_nx B + 1 ∨ mm_nx B + 3 ≤ q → I' q = I q ∧ J' q = J q) ∧ P' (mm_nx B) = va_up (va_up (P (mm_nx B)) 0 (some (mm_nx B + 1))) 1 (some (mm_nx B + 2)) ∧ (∀ q, q < mm_nx B ∨ mm_nx B + 3 ≤ q → P' q = P q) := by
  generalize hz : mm_nx B = z
  obtain ⟨I0, J0, P0, b0, fz0, fo0, fp0, fq0⟩ : ∃ (I' : mm_TI) (J' : mm_TJ) (P' : mm_TP), (∀ Z : mm_Z, Ev g mX10_init 20 [some (.ref z)] [] (als B (lX10_init.take 3)) I' J' P' Z → Ev g mX10_init 0 [some (.ref z)] [] (als B (lX10_init.take 1)) I J P Z) ∧ (∀ q, z + 1 ≤ q → q < z + 3 → I' q = (fun _ => 0) ∧ J' q = (fun _ => 0)) ∧ (∀ q, q < z + 1 ∨ z + 3 ≤ q → I' q = I q ∧ J' q = J q) ∧ P' z = va_up (va_up (P z) 0 (some (z + 1))) 1 (some (z + 2)) ∧ (∀ q, q ≠ z → q < z + 1 ∨ z + 3 ≤ q → P' q = P q) := ⟨_, _, _, by
    intro Z K
    have t0 : mm_T (als B (lX10_init.take 1)) z = 110 := als_t (i := 0) hz rfl rfl rfl
    have t1 : mm_T (als B (lX10_init.take 2)) z = 110 := als_t (i := 0) hz rfl rfl rfl
    have t2 : mm_T (als B (lX10_init.take 3)) z = 110 := als_t (i := 0) hz rfl rfl rfl
    have x0 : mm_nx (als B (lX10_init.take 1)) = z + 1 := by rw [als_x, hz]; rfl
    have x1 : mm_nx (als B (lX10_init.take 2)) = z + 2 := by rw [als_x, hz]; rfl
    have x2 : mm_nx (als B (lX10_init.take 3)) = z + 3 := by rw [als_x, hz]; rfl
    refine ev_aload_n 1 dX10_init_0 rfl rfl ?_
    refine ev_objInit 4 dX10_init_1 lk104 lk97 lk98 (Nat.le_of_ble_eq_true rfl) (Nat.le_of_ble_eq_true rfl) (Nat.le_of_ble_eq_true rfl) rfl ?_
    refine ev_aload_n 5 dX10_init_4 rfl rfl ?_
    refine ev_bipushN 7 8 dX10_init_5 (by decide +kernel) rfl ?_
    refine ev_newa 9 (8) 0 dX10_init_7 rfl (by decide) lk125 rfl (by omega) rfl ?_
    rw [x0]
    show Ev g _ 9 _ _ (als B (lX10_init.take 2)) _ _ _ _
    refine ev_putFP 12 mm_cl10 (j := 0) (Nat.le_of_ble_eq_true rfl) dX10_init_9 lk105 rfl rfl rfl (fun _ _ _ => rfl) rfl rfl t1 rfl ?_
    refine ev_aload_n 13 dX10_init_12 rfl rfl ?_
    refine ev_bipushN 15 32 dX10_init_13 (by decide +kernel) rfl ?_
    refine ev_newa 17 (32) 0 dX10_init_15 rfl (by decide) lk125 rfl (by omega) rfl ?_
    rw [x1]
    show Ev g _ 17 _ _ (als B (lX10_init.take 3)) _ _ _ _
    refine ev_putFP 20 mm_cl10 (j := 1) (Nat.le_of_ble_eq_true rfl) dX10_init_17 lk108 rfl rfl rfl (fun _ _ _ => rfl) rfl rfl t2 rfl ?_
    exact K
    , by
    refine ⟨fun q q1 q2 => ?_, fun q hq => ?_, ?_, fun q q1 q2 => ?_⟩
    · have : q = z + 1 ∨ q = z + 2 := by omega
      rcases this with rfl | rfl <;> constructor <;> simp (disch := omega) only [va_up_s, va_up_n]
    · constructor <;> simp (disch := omega) only [va_up_s, va_up_n]
    · simp (disch := omega) only [va_up_s, va_up_n]
    · simp (disch := omega) only [va_up_s, va_up_n]⟩
  refine ⟨I0, J0, P0, ?_, fun q q1 q2 => ?_, fun q hq => ?_, ?_, fun q hq => ?_⟩
  · refine ct_of (lv := [some (.ref z)]) (by decide +kernel) (Nat.le_of_ble_eq_true rfl) rfl ?_
    refine b0 _ ?_
    exact ev_vret dX10_init_20 rfl (rfl)
  · have h : z + 1 ≤ q ∧ q < z + 3 := ⟨q1, q2⟩
    exact fz0 q h.1 h.2
  · rw [(fo0 q (by omega)).1, (fo0 q (by omega)).2]; exact ⟨rfl, rfl⟩
  · rw [fp0]
  · rw [fq0 q (by omega) (by omega)]
def lX8_init : List (Nat × Nat × Nat) := [(108, 0, 12), (200, 320, 320), (200, 321, 321), (200, 80, 80), (200, 80, 80), (200, 80, 80), (200, 160, 160), (200, 80, 80), (200, 80, 80), (200, 80, 80), (200, 80, 80), (204, 9, 9), (204, 8, 8)]
theorem cx_X8_init : ∃ (I' : mm_TI) (J' : mm_TJ) (P' : mm_TP), Ct g mX8_init [.ref (mm_nx B)] (als B (lX8_init.take 1)) I J P (none, als B lX8_init, I', J', P') ∧ (∀ q, mm_nx B + 1 ≤ q → q < mm_nx B + 13 → I' q = (fun _ => 0) ∧ J' q = (fun _ => 0)) ∧ (∀ q, q < mm_nx B + 1 ∨ mm_nx B + 13 ≤ q → I' q = I q ∧ J' q = J q) ∧ P' (mm_nx B) = va_up (va_up (va_up (va_up (va_up (va_up (va_up (va_up (va_up (va_up (va_up (va_up (P (mm_nx B)) 0 (some (mm_nx B + 1))) 1 (some (mm_nx B + 2))) 2 (some (mm_nx B + 3))) 3 (some (mm_nx B + 4))) 4 (some (mm_nx B + 5))) 5 (some (mm_nx B + 6))) 6 (some (mm_nx B + 7))) 7 (some (mm_nx B + 8))) 8 (some (mm_nx B + 9))) 9 (some (mm_nx B + 10))) 10 (some (mm_nx B + 11))) 11 (some (mm_nx B + 12)) ∧ (∀ q, q < mm_nx B ∨ mm_nx B + 13 ≤ q → P' q = P q) := by
  generalize hz : mm_nx B = z
  obtain ⟨I0, J0, P0, b0, fz0, fo0, fp0, fq0⟩ : ∃ (I' : mm_TI) (J' : mm_TJ) (P' : mm_TP), (∀ Z : mm_Z, Ev g mX8_init 103 [some (.ref z)] [] (als B (lX8_init.take 13)) I' J' P' Z → Ev g mX8_init 0 [some (.ref z)] [] (als B (lX8_init.take 1)) I J P Z) ∧ (∀ q, z + 1 ≤ q → q < z + 13 → I' q = (fun _ => 0) ∧ J' q = (fun _ => 0)) ∧ (∀ q, q < z + 1 ∨ z + 13 ≤ q → I' q = I q ∧ J' q = J q) ∧ P' z = va_up (va_up (va_up (va_up (va_up (va_up (va_up (va_up (va_up (va_up (va_up (va_up (P z) 0 (some (z + 1))) 1 (some (z + 2))) 2 (some (z + 3))) 3 (some (z + 4))) 4 (some (z + 5))) 5 (some (z + 6))) 6 (some (z + 7))) 7 (some (z + 8))) 8 (some (z + 9))) 9 (some (z + 10))) 10 (some (z + 11))) 11 (some (z + 12)) ∧ (∀ q, q ≠ z → q < z + 1 ∨ z + 13 ≤ q → P' q = P q) := ⟨_, _, _, by
    intro Z K
    have t0 : mm_T (als B (lX8_init.take 1)) z = 108 := als_t (i := 0) hz rfl rfl rfl
    have t1 : mm_T (als B (lX8_init.take 2)) z = 108 := als_t (i := 0) hz rfl rfl rfl
    have t2 : mm_T (als B (lX8_init.take 3)) z = 108 := als_t (i := 0) hz rfl rfl rfl
    have t3 : mm_T (als B (lX8_init.take 4)) z = 108 := als_t (i := 0) hz rfl rfl rfl
    have t4 : mm_T (als B (lX8_init.take 5)) z = 108 := als_t (i := 0) hz rfl rfl rfl
    have t5 : mm_T (als B (lX8_init.take 6)) z = 108 := als_t (i := 0) hz rfl rfl rfl
    have t6 : mm_T (als B (lX8_init.take 7)) z = 108 := als_t (i := 0) hz rfl rfl rfl
    have t7 : mm_T (als B (lX8_init.take 8)) z = 108 := als_t (i := 0) hz rfl rfl rfl
    have t8 : mm_T (als B (lX8_init.take 9)) z = 108 := als_t (i := 0) hz rfl rfl rfl
    have t9 : mm_T (als B (lX8_init.take 10)) z = 108 := als_t (i := 0) hz rfl rfl rfl
    have t10 : mm_T (als B (lX8_init.take 11)) z = 108 := als_t (i := 0) hz rfl rfl rfl
    have t11 : mm_T (als B (lX8_init.take 12)) z = 108 := als_t (i := 0) hz rfl rfl rfl
    have t12 : mm_T (als B (lX8_init.take 13)) z = 108 := als_t (i := 0) hz rfl rfl rfl
    have x0 : mm_nx (als B (lX8_init.take 1)) = z + 1 := by rw [als_x, hz]; rfl
    have x1 : mm_nx (als B (lX8_init.take 2)) = z + 2 := by rw [als_x, hz]; rfl
    have x2 : mm_nx (als B (lX8_init.take 3)) = z + 3 := by rw [als_x, hz]; rfl
    have x3 : mm_nx (als B (lX8_init.take 4)) = z + 4 := by rw [als_x, hz]; rfl
    have x4 : mm_nx (als B (lX8_init.take 5)) = z + 5 := by rw [als_x, hz]; rfl
    have x5 : mm_nx (als B (lX8_init.take 6)) = z + 6 := by rw [als_x, hz]; rfl
    have x6 : mm_nx (als B (lX8_init.take 7)) = z + 7 := by rw [als_x, hz]; rfl
    have x7 : mm_nx (als B (lX8_init.take 8)) = z + 8 := by rw [als_x, hz]; rfl
    have x8 : mm_nx (als B (lX8_init.take 9)) = z + 9 := by rw [als_x, hz]; rfl
    have x9 : mm_nx (als B (lX8_init.take 10)) = z + 10 := by rw [als_x, hz]; rfl
    have x10 : mm_nx (als B (lX8_init.take 11)) = z + 11 := by rw [als_x, hz]; rfl
    have x11 : mm_nx (als B (lX8_init.take 12)) = z + 12 := by rw [als_x, hz]; rfl
    have x12 : mm_nx (als B (lX8_init.take 13)) = z + 13 := by rw [als_x, hz]; rfl
    refine ev_aload_n 1 dX8_init_0 rfl rfl ?_
    refine ev_objInit 4 dX8_init_1 lk131 lk97 lk98 (Nat.le_of_ble_eq_true rfl) (Nat.le_of_ble_eq_true rfl) (Nat.le_of_ble_eq_true rfl) rfl ?_
    refine ev_aload_n 5 dX8_init_4 rfl rfl ?_
    refine ev_sipushN 8 320 dX8_init_5 (by decide +kernel) rfl ?_
    refine ev_newa 10 (320) 0 dX8_init_8 rfl (by decide) lk125 rfl (by omega) rfl ?_
    rw [x0]
    show Ev g _ 10 _ _ (als B (lX8_init.take 2)) _ _ _ _
    refine ev_putFP 13 mm_cl8 (j := 0) (Nat.le_of_ble_eq_true rfl) dX8_init_10 lk132 rfl rfl rfl (fun _ _ _ => rfl) rfl rfl t1 rfl ?_
    refine ev_aload_n 14 dX8_init_13 rfl rfl ?_
    refine ev_sipushN 17 321 dX8_init_14 (by decide +kernel) rfl ?_
    refine ev_newa 19 (321) 0 dX8_init_17 rfl (by decide) lk125 rfl (by omega) rfl ?_
    rw [x1]
    show Ev g _ 19 _ _ (als B (lX8_init.take 3)) _ _ _ _
    refine ev_putFP 22 mm_cl8 (j := 1) (Nat.le_of_ble_eq_true rfl) dX8_init_19 lk135 rfl rfl rfl (fun _ _ _ => rfl) rfl rfl t2 rfl ?_
    refine ev_aload_n 23 dX8_init_22 rfl rfl ?_
    refine ev_bipushN 25 80 dX8_init_23 (by decide +kernel) rfl ?_
    refine ev_newa 27 (80) 0 dX8_init_25 rfl (by decide) lk125 rfl (by omega) rfl ?_
    rw [x2]
    show Ev g _ 27 _ _ (als B (lX8_init.take 4)) _ _ _ _
    refine ev_putFP 30 mm_cl8 (j := 2) (Nat.le_of_ble_eq_true rfl) dX8_init_27 lk138 rfl rfl rfl (fun _ _ _ => rfl) rfl rfl t3 rfl ?_
    refine ev_aload_n 31 dX8_init_30 rfl rfl ?_
    refine ev_bipushN 33 80 dX8_init_31 (by decide +kernel) rfl ?_
    refine ev_newa 35 (80) 0 dX8_init_33 rfl (by decide) lk125 rfl (by omega) rfl ?_
    rw [x3]
    show Ev g _ 35 _ _ (als B (lX8_init.take 5)) _ _ _ _
    refine ev_putFP 38 mm_cl8 (j := 3) (Nat.le_of_ble_eq_true rfl) dX8_init_35 lk141 rfl rfl rfl (fun _ _ _ => rfl) rfl rfl t4 rfl ?_
    refine ev_aload_n 39 dX8_init_38 rfl rfl ?_
    refine ev_bipushN 41 80 dX8_init_39 (by decide +kernel) rfl ?_
    refine ev_newa 43 (80) 0 dX8_init_41 rfl (by decide) lk125 rfl (by omega) rfl ?_
    rw [x4]
    show Ev g _ 43 _ _ (als B (lX8_init.take 6)) _ _ _ _
    refine ev_putFP 46 mm_cl8 (j := 4) (Nat.le_of_ble_eq_true rfl) dX8_init_43 lk143 rfl rfl rfl (fun _ _ _ => rfl) rfl rfl t5 rfl ?_
    refine ev_aload_n 47 dX8_init_46 rfl rfl ?_
    refine ev_sipushN 50 160 dX8_init_47 (by decide +kernel) rfl ?_
    refine ev_newa 52 (160) 0 dX8_init_50 rfl (by decide) lk125 rfl (by omega) rfl ?_
    rw [x5]
    show Ev g _ 52 _ _ (als B (lX8_init.take 7)) _ _ _ _
    refine ev_putFP 55 mm_cl8 (j := 5) (Nat.le_of_ble_eq_true rfl) dX8_init_52 lk146 rfl rfl rfl (fun _ _ _ => rfl) rfl rfl t6 rfl ?_
    refine ev_aload_n 56 dX8_init_55 rfl rfl ?_
    refine ev_bipushN 58 80 dX8_init_56 (by decide +kernel) rfl ?_
    refine ev_newa 60 (80) 0 dX8_init_58 rfl (by decide) lk125 rfl (by omega) rfl ?_
    rw [x6]
    show Ev g _ 60 _ _ (als B (lX8_init.take 8)) _ _ _ _
    refine ev_putFP 63 mm_cl8 (j := 6) (Nat.le_of_ble_eq_true rfl) dX8_init_60 lk148 rfl rfl rfl (fun _ _ _ => rfl) rfl rfl t7 rfl ?_
    refine ev_aload_n 64 dX8_init_63 rfl rfl ?_
    refine ev_bipushN 66 80 dX8_init_64 (by decide +kernel) rfl ?_
    refine ev_newa 68 (80) 0 dX8_init_66 rfl (by decide) lk125 rfl (by omega) rfl ?_
    rw [x7]
    show Ev g _ 68 _ _ (als B (lX8_init.take 9)) _ _ _ _
    refine ev_putFP 71 mm_cl8 (j := 7) (Nat.le_of_ble_eq_true rfl) dX8_init_68 lk150 rfl rfl rfl (fun _ _ _ => rfl) rfl rfl t8 rfl ?_
    refine ev_aload_n 72 dX8_init_71 rfl rfl ?_
    refine ev_bipushN 74 80 dX8_init_72 (by decide +kernel) rfl ?_
    refine ev_newa 76 (80) 0 dX8_init_74 rfl (by decide) lk125 rfl (by omega) rfl ?_
    rw [x8]
    show Ev g _ 76 _ _ (als B (lX8_init.take 10)) _ _ _ _
    refine ev_putFP 79 mm_cl8 (j := 8) (Nat.le_of_ble_eq_true rfl) dX8_init_76 lk152 rfl rfl rfl (fun _ _ _ => rfl) rfl rfl t9 rfl ?_
    refine ev_aload_n 80 dX8_init_79 rfl rfl ?_
    refine ev_bipushN 82 80 dX8_init_80 (by decide +kernel) rfl ?_
    refine ev_newa 84 (80) 0 dX8_init_82 rfl (by decide) lk125 rfl (by omega) rfl ?_
    rw [x9]
    show Ev g _ 84 _ _ (als B (lX8_init.take 11)) _ _ _ _
    refine ev_putFP 87 mm_cl8 (j := 9) (Nat.le_of_ble_eq_true rfl) dX8_init_84 lk154 rfl rfl rfl (fun _ _ _ => rfl) rfl rfl t10 rfl ?_
    refine ev_aload_n 88 dX8_init_87 rfl rfl ?_
    refine ev_bipushN 90 9 dX8_init_88 (by decide +kernel) rfl ?_
    refine ev_newa 92 (9) 4 dX8_init_90 rfl (by decide) lk185 rfl (by omega) rfl ?_
    rw [x10]
    show Ev g _ 92 _ _ (als B (lX8_init.take 12)) _ _ _ _
    refine ev_putFP 95 mm_cl8 (j := 10) (Nat.le_of_ble_eq_true rfl) dX8_init_92 lk156 rfl rfl rfl (fun _ _ _ => rfl) rfl rfl t11 rfl ?_
    refine ev_aload_n 96 dX8_init_95 rfl rfl ?_
    refine ev_bipushN 98 8 dX8_init_96 (by decide +kernel) rfl ?_
    refine ev_newa 100 (8) 4 dX8_init_98 rfl (by decide) lk185 rfl (by omega) rfl ?_
    rw [x11]
    show Ev g _ 100 _ _ (als B (lX8_init.take 13)) _ _ _ _
    refine ev_putFP 103 mm_cl8 (j := 11) (Nat.le_of_ble_eq_true rfl) dX8_init_100 lk158 rfl rfl rfl (fun _ _ _ => rfl) rfl rfl t12 rfl ?_
    exact K
    , by
    refine ⟨fun q q1 q2 => ?_, fun q hq => ?_, ?_, fun q q1 q2 => ?_⟩
    · have : q = z + 1 ∨ q = z + 2 ∨ q = z + 3 ∨ q = z + 4 ∨ q = z + 5 ∨ q = z + 6 ∨ q = z + 7 ∨ q = z + 8 ∨ q = z + 9 ∨ q = z + 10 ∨ q = z + 11 ∨ q = z + 12 := by omega
      rcases this with rfl | rfl | rfl | rfl | rfl | rfl | rfl | rfl | rfl | rfl | rfl | rfl <;> constructor <;> simp (disch := omega) only [va_up_s, va_up_n]
    · constructor <;> simp (disch := omega) only [va_up_s, va_up_n]
    · simp (disch := omega) only [va_up_s, va_up_n]
    · simp (disch := omega) only [va_up_s, va_up_n]⟩
  refine ⟨I0, J0, P0, ?_, fun q q1 q2 => ?_, fun q hq => ?_, ?_, fun q hq => ?_⟩
  · refine ct_of (lv := [some (.ref z)]) (by decide +kernel) (Nat.le_of_ble_eq_true rfl) rfl ?_
    refine b0 _ ?_
    exact ev_vret dX8_init_103 rfl (rfl)
  · have h : z + 1 ≤ q ∧ q < z + 13 := ⟨q1, q2⟩
    exact fz0 q h.1 h.2
  · rw [(fo0 q (by omega)).1, (fo0 q (by omega)).2]; exact ⟨rfl, rfl⟩
  · rw [fp0]
  · rw [fq0 q (by omega) (by omega)]
def lX12_init : List (Nat × Nat × Nat) := [(112, 0, 81), (200, 8, 8), (200, 64, 64), (200, 64, 64), (200, 1400, 1400), (200, 8, 8), (203, 8, 8), (200, 16, 16), (200, 8, 8), (203, 8, 8), (200, 8, 8), (200, 8, 8), (200, 5120, 5120), (200, 8, 8), (200, 8, 8), (200, 2560, 2560), (200, 128, 128), (200, 128, 128), (200, 16, 16), (200, 64, 64), (200, 8, 8), (200, 64, 64), (200, 224, 224), (204, 32, 32), (204, 32, 32), (200, 8, 8), (200, 2560, 2560), (200, 5120, 5120), (200, 8, 8), (200, 2000, 2000), (200, 2000, 2000), (200, 4300, 4300), (203, 4300, 4300), (200, 275200, 275200), (200, 8, 8), (200, 8, 8), (200, 8, 8), (200, 8, 8), (200, 8, 8), (200, 8, 8), (200, 8, 8), (200, 8, 8), (200, 8, 8), (200, 8, 8), (200, 8, 8), (200, 2576, 2576), (200, 8, 8), (200, 8, 8), (200, 32, 32), (200, 32, 32), (200, 32, 32), (200, 32, 32), (200, 5120, 5120), (200, 320, 320), (200, 340, 340), (200, 80, 80), (200, 80, 80), (200, 80, 80), (200, 84, 84), (204, 80, 80), (204, 80, 80), (204, 9, 9), (204, 9, 9), (204, 9, 9)]
theorem cx_X12_init : ∃ (I' : mm_TI) (J' : mm_TJ) (P' : mm_TP), Ct g mX12_init [.ref (mm_nx B)] (als B (lX12_init.take 1)) I J P (none, als B lX12_init, I', J', P') ∧ (∀ q, mm_nx B + 1 ≤ q → q < mm_nx B + 64 → I' q = (fun _ => 0) ∧ J' q = (fun _ => 0)) ∧ (∀ q, q < mm_nx B + 1 ∨ mm_nx B + 64 ≤ q → I' q = I q ∧ J' q = J q) ∧ P' (mm_nx B) = va_up (va_up (va_up (va_up (va_up (va_up (va_up (va_up (va_up (va_up (va_up (va_up (va_up (va_up (va_up (va_up (va_up (va_up (va_up (va_up (va_up (va_up (va_up (va_up (va_up (va_up (va_up (va_up (va_up (va_up (va_up (va_up (va_up (va_up (va_up (va_up (va_up (va_up (va_up (va_up (va_up (va_up (va_up (va_up (va_up (va_up (va_up (va_up (va_up (va_up (va_up (va_up (va_up (va_up (va_up (va_up (va_up (va_up (va_up (va_up (va_up (va_up (va_up (P (mm_nx B)) 3 (some (mm_nx B + 1))) 4 (some (mm_nx B + 2))) 6 (some (mm_nx B + 3))) 8 (some (mm_nx B + 4))) 10 (some (mm_nx B + 5))) 11 (some (mm_nx B + 6))) 12 (some (mm_nx B + 7))) 13 (some (mm_nx B + 8))) 14 (some (mm_nx B + 9))) 15 (some (mm_nx B + 10))) 16 (some (mm_nx B + 11))) 17 (some (mm_nx B + 12))) 18 (some (mm_nx B + 13))) 19 (some (mm_nx B + 14))) 20 (some (mm_nx B + 15))) 21 (some (mm_nx B + 16))) 22 (some (mm_nx B + 17))) 23 (some (mm_nx B + 18))) 24 (some (mm_nx B + 19))) 25 (some (mm_nx B + 20))) 26 (some (mm_nx B + 21))) 27 (some (mm_nx B + 22))) 28 (some (mm_nx B + 23))) 29 (some (mm_nx B + 24))) 30 (some (mm_nx B + 25))) 31 (some (mm_nx B + 26))) 32 (some (mm_nx B + 27))) 33 (some (mm_nx B + 28))) 34 (some (mm_nx B + 29))) 35 (some (mm_nx B + 30))) 37 (some (mm_nx B + 31))) 38 (some (mm_nx B + 32))) 39 (some (mm_nx B + 33))) 40 (some (mm_nx B + 34))) 41 (some (mm_nx B + 35))) 42 (some (mm_nx B + 36))) 43 (some (mm_nx B + 37))) 44 (some (mm_nx B + 38))) 45 (some (mm_nx B + 39))) 46 (some (mm_nx B + 40))) 47 (some (mm_nx B + 41))) 48 (some (mm_nx B + 42))) 49 (some (mm_nx B + 43))) 50 (some (mm_nx B + 44))) 51 (some (mm_nx B + 45))) 52 (some (mm_nx B + 46))) 53 (some (mm_nx B + 47))) 54 (some (mm_nx B + 48))) 55 (some (mm_nx B + 49))) 56 (some (mm_nx B + 50))) 57 (some (mm_nx B + 51))) 58 (some (mm_nx B + 52))) 59 (some (mm_nx B + 53))) 60 (some (mm_nx B + 54))) 61 (some (mm_nx B + 55))) 62 (some (mm_nx B + 56))) 63 (some (mm_nx B + 57))) 64 (some (mm_nx B + 58))) 65 (some (mm_nx B + 59))) 66 (some (mm_nx B + 60))) 67 (some (mm_nx B + 61))) 68 (some (mm_nx B + 62))) 69 (some (mm_nx B + 63)) ∧ (∀ q, q < mm_nx B ∨ mm_nx B + 64 ≤ q → P' q = P q) := by
  generalize hz : mm_nx B = z
  obtain ⟨I0, J0, P0, b0, fz0, fo0, fp0, fq0⟩ : ∃ (I' : mm_TI) (J' : mm_TJ) (P' : mm_TP), (∀ Z : mm_Z, Ev g mX12_init 69 [some (.ref z)] [] (als B (lX12_init.take 9)) I' J' P' Z → Ev g mX12_init 0 [some (.ref z)] [] (als B (lX12_init.take 1)) I J P Z) ∧ (∀ q, z + 1 ≤ q → q < z + 9 → I' q = (fun _ => 0) ∧ J' q = (fun _ => 0)) ∧ (∀ q, q < z + 1 ∨ z + 9 ≤ q → I' q = I q ∧ J' q = J q) ∧ P' z = va_up (va_up (va_up (va_up (va_up (va_up (va_up (va_up (P z) 3 (some (z + 1))) 4 (some (z + 2))) 6 (some (z + 3))) 8 (some (z + 4))) 10 (some (z + 5))) 11 (some (z + 6))) 12 (some (z + 7))) 13 (some (z + 8)) ∧ (∀ q, q ≠ z → q < z + 1 ∨ z + 9 ≤ q → P' q = P q) := ⟨_, _, _, by
    intro Z K
    have t0 : mm_T (als B (lX12_init.take 1)) z = 112 := als_t (i := 0) hz rfl rfl rfl
    have t1 : mm_T (als B (lX12_init.take 2)) z = 112 := als_t (i := 0) hz rfl rfl rfl
    have t2 : mm_T (als B (lX12_init.take 3)) z = 112 := als_t (i := 0) hz rfl rfl rfl
    have t3 : mm_T (als B (lX12_init.take 4)) z = 112 := als_t (i := 0) hz rfl rfl rfl
    have t4 : mm_T (als B (lX12_init.take 5)) z = 112 := als_t (i := 0) hz rfl rfl rfl
    have t5 : mm_T (als B (lX12_init.take 6)) z = 112 := als_t (i := 0) hz rfl rfl rfl
    have t6 : mm_T (als B (lX12_init.take 7)) z = 112 := als_t (i := 0) hz rfl rfl rfl
    have t7 : mm_T (als B (lX12_init.take 8)) z = 112 := als_t (i := 0) hz rfl rfl rfl
    have t8 : mm_T (als B (lX12_init.take 9)) z = 112 := als_t (i := 0) hz rfl rfl rfl
    have x0 : mm_nx (als B (lX12_init.take 1)) = z + 1 := by rw [als_x, hz]; rfl
    have x1 : mm_nx (als B (lX12_init.take 2)) = z + 2 := by rw [als_x, hz]; rfl
    have x2 : mm_nx (als B (lX12_init.take 3)) = z + 3 := by rw [als_x, hz]; rfl
    have x3 : mm_nx (als B (lX12_init.take 4)) = z + 4 := by rw [als_x, hz]; rfl
    have x4 : mm_nx (als B (lX12_init.take 5)) = z + 5 := by rw [als_x, hz]; rfl
    have x5 : mm_nx (als B (lX12_init.take 6)) = z + 6 := by rw [als_x, hz]; rfl
    have x6 : mm_nx (als B (lX12_init.take 7)) = z + 7 := by rw [als_x, hz]; rfl
    have x7 : mm_nx (als B (lX12_init.take 8)) = z + 8 := by rw [als_x, hz]; rfl
    have x8 : mm_nx (als B (lX12_init.take 9)) = z + 9 := by rw [als_x, hz]; rfl
    refine ev_aload_n 1 dX12_init_0 rfl rfl ?_
    refine ev_objInit 4 dX12_init_1 lk1283 lk97 lk98 (Nat.le_of_ble_eq_true rfl) (Nat.le_of_ble_eq_true rfl) (Nat.le_of_ble_eq_true rfl) rfl ?_
    refine ev_aload_n 5 dX12_init_4 rfl rfl ?_
    refine ev_bipushN 7 8 dX12_init_5 (by decide +kernel) rfl ?_
    refine ev_newa 9 (8) 0 dX12_init_7 rfl (by decide) lk125 rfl (by omega) rfl ?_
    rw [x0]
    show Ev g _ 9 _ _ (als B (lX12_init.take 2)) _ _ _ _
    refine ev_putFP 12 mm_cl12 (j := 3) (Nat.le_of_ble_eq_true rfl) dX12_init_9 lk1288 rfl rfl rfl (fun _ _ _ => rfl) rfl rfl t1 rfl ?_
    refine ev_aload_n 13 dX12_init_12 rfl rfl ?_
    refine ev_bipushN 15 64 dX12_init_13 (by decide +kernel) rfl ?_
    refine ev_newa 17 (64) 0 dX12_init_15 rfl (by decide) lk125 rfl (by omega) rfl ?_
    rw [x1]
    show Ev g _ 17 _ _ (als B (lX12_init.take 3)) _ _ _ _
    refine ev_putFP 20 mm_cl12 (j := 4) (Nat.le_of_ble_eq_true rfl) dX12_init_17 lk1289 rfl rfl rfl (fun _ _ _ => rfl) rfl rfl t2 rfl ?_
    refine ev_aload_n 21 dX12_init_20 rfl rfl ?_
    refine ev_bipushN 23 64 dX12_init_21 (by decide +kernel) rfl ?_
    refine ev_newa 25 (64) 0 dX12_init_23 rfl (by decide) lk125 rfl (by omega) rfl ?_
    rw [x2]
    show Ev g _ 25 _ _ (als B (lX12_init.take 4)) _ _ _ _
    refine ev_putFP 28 mm_cl12 (j := 6) (Nat.le_of_ble_eq_true rfl) dX12_init_25 lk1291 rfl rfl rfl (fun _ _ _ => rfl) rfl rfl t3 rfl ?_
    refine ev_aload_n 29 dX12_init_28 rfl rfl ?_
    refine ev_sipushN 32 1400 dX12_init_29 (by decide +kernel) rfl ?_
    refine ev_newa 34 (1400) 0 dX12_init_32 rfl (by decide) lk125 rfl (by omega) rfl ?_
    rw [x3]
    show Ev g _ 34 _ _ (als B (lX12_init.take 5)) _ _ _ _
    refine ev_putFP 37 mm_cl12 (j := 8) (Nat.le_of_ble_eq_true rfl) dX12_init_34 lk1293 rfl rfl rfl (fun _ _ _ => rfl) rfl rfl t4 rfl ?_
    refine ev_aload_n 38 dX12_init_37 rfl rfl ?_
    refine ev_bipushN 40 8 dX12_init_38 (by decide +kernel) rfl ?_
    refine ev_newa 42 (8) 0 dX12_init_40 rfl (by decide) lk125 rfl (by omega) rfl ?_
    rw [x4]
    show Ev g _ 42 _ _ (als B (lX12_init.take 6)) _ _ _ _
    refine ev_putFP 45 mm_cl12 (j := 10) (Nat.le_of_ble_eq_true rfl) dX12_init_42 lk1295 rfl rfl rfl (fun _ _ _ => rfl) rfl rfl t5 rfl ?_
    refine ev_aload_n 46 dX12_init_45 rfl rfl ?_
    refine ev_bipushN 48 8 dX12_init_46 (by decide +kernel) rfl ?_
    refine ev_newa 50 (8) 3 dX12_init_48 rfl (by decide) lk1529 rfl (by omega) rfl ?_
    rw [x5]
    show Ev g _ 50 _ _ (als B (lX12_init.take 7)) _ _ _ _
    refine ev_putFP 53 mm_cl12 (j := 11) (Nat.le_of_ble_eq_true rfl) dX12_init_50 lk1296 rfl rfl rfl (fun _ _ _ => rfl) rfl rfl t6 rfl ?_
    refine ev_aload_n 54 dX12_init_53 rfl rfl ?_
    refine ev_bipushN 56 16 dX12_init_54 (by decide +kernel) rfl ?_
    refine ev_newa 58 (16) 0 dX12_init_56 rfl (by decide) lk125 rfl (by omega) rfl ?_
    rw [x6]
    show Ev g _ 58 _ _ (als B (lX12_init.take 8)) _ _ _ _
    refine ev_putFP 61 mm_cl12 (j := 12) (Nat.le_of_ble_eq_true rfl) dX12_init_58 lk1297 rfl rfl rfl (fun _ _ _ => rfl) rfl rfl t7 rfl ?_
    refine ev_aload_n 62 dX12_init_61 rfl rfl ?_
    refine ev_bipushN 64 8 dX12_init_62 (by decide +kernel) rfl ?_
    refine ev_newa 66 (8) 0 dX12_init_64 rfl (by decide) lk125 rfl (by omega) rfl ?_
    rw [x7]
    show Ev g _ 66 _ _ (als B (lX12_init.take 9)) _ _ _ _
    refine ev_putFP 69 mm_cl12 (j := 13) (Nat.le_of_ble_eq_true rfl) dX12_init_66 lk1298 rfl rfl rfl (fun _ _ _ => rfl) rfl rfl t8 rfl ?_
    exact K
    , by
    refine ⟨fun q q1 q2 => ?_, fun q hq => ?_, ?_, fun q q1 q2 => ?_⟩
    · have : q = z + 1 ∨ q = z + 2 ∨ q = z + 3 ∨ q = z + 4 ∨ q = z + 5 ∨ q = z + 6 ∨ q = z + 7 ∨ q = z + 8 := by omega
      rcases this with rfl | rfl | rfl | rfl | rfl | rfl | rfl | rfl <;> constructor <;> simp (disch := omega) only [va_up_s, va_up_n]
    · constructor <;> simp (disch := omega) only [va_up_s, va_up_n]
    · simp (disch := omega) only [va_up_s, va_up_n]
    · simp (disch := omega) only [va_up_s, va_up_n]⟩
  obtain ⟨I1, J1, P1, b1, fz1, fo1, fp1, fq1⟩ : ∃ (I' : mm_TI) (J' : mm_TJ) (P' : mm_TP), (∀ Z : mm_Z, Ev g mX12_init 136 [some (.ref z)] [] (als B (lX12_init.take 17)) I' J' P' Z → Ev g mX12_init 69 [some (.ref z)] [] (als B (lX12_init.take 9)) I0 J0 P0 Z) ∧ (∀ q, z + 9 ≤ q → q < z + 17 → I' q = (fun _ => 0) ∧ J' q = (fun _ => 0)) ∧ (∀ q, q < z + 9 ∨ z + 17 ≤ q → I' q = I0 q ∧ J' q = J0 q) ∧ P' z = va_up (va_up (va_up (va_up (va_up (va_up (va_up (va_up (P0 z) 14 (some (z + 9))) 15 (some (z + 10))) 16 (some (z + 11))) 17 (some (z + 12))) 18 (some (z + 13))) 19 (some (z + 14))) 20 (some (z + 15))) 21 (some (z + 16)) ∧ (∀ q, q ≠ z → q < z + 9 ∨ z + 17 ≤ q → P' q = P0 q) := ⟨_, _, _, by
    intro Z K
    have t8 : mm_T (als B (lX12_init.take 9)) z = 112 := als_t (i := 0) hz rfl rfl rfl
    have t9 : mm_T (als B (lX12_init.take 10)) z = 112 := als_t (i := 0) hz rfl rfl rfl
    have t10 : mm_T (als B (lX12_init.take 11)) z = 112 := als_t (i := 0) hz rfl rfl rfl
    have t11 : mm_T (als B (lX12_init.take 12)) z = 112 := als_t (i := 0) hz rfl rfl rfl
    have t12 : mm_T (als B (lX12_init.take 13)) z = 112 := als_t (i := 0) hz rfl rfl rfl
    have t13 : mm_T (als B (lX12_init.take 14)) z = 112 := als_t (i := 0) hz rfl rfl rfl
    have t14 : mm_T (als B (lX12_init.take 15)) z = 112 := als_t (i := 0) hz rfl rfl rfl
    have t15 : mm_T (als B (lX12_init.take 16)) z = 112 := als_t (i := 0) hz rfl rfl rfl
    have t16 : mm_T (als B (lX12_init.take 17)) z = 112 := als_t (i := 0) hz rfl rfl rfl
    have x8 : mm_nx (als B (lX12_init.take 9)) = z + 9 := by rw [als_x, hz]; rfl
    have x9 : mm_nx (als B (lX12_init.take 10)) = z + 10 := by rw [als_x, hz]; rfl
    have x10 : mm_nx (als B (lX12_init.take 11)) = z + 11 := by rw [als_x, hz]; rfl
    have x11 : mm_nx (als B (lX12_init.take 12)) = z + 12 := by rw [als_x, hz]; rfl
    have x12 : mm_nx (als B (lX12_init.take 13)) = z + 13 := by rw [als_x, hz]; rfl
    have x13 : mm_nx (als B (lX12_init.take 14)) = z + 14 := by rw [als_x, hz]; rfl
    have x14 : mm_nx (als B (lX12_init.take 15)) = z + 15 := by rw [als_x, hz]; rfl
    have x15 : mm_nx (als B (lX12_init.take 16)) = z + 16 := by rw [als_x, hz]; rfl
    have x16 : mm_nx (als B (lX12_init.take 17)) = z + 17 := by rw [als_x, hz]; rfl
    refine ev_aload_n 70 dX12_init_69 rfl rfl ?_
    refine ev_bipushN 72 8 dX12_init_70 (by decide +kernel) rfl ?_
    refine ev_newa 74 (8) 3 dX12_init_72 rfl (by decide) lk1529 rfl (by omega) rfl ?_
    rw [x8]
    show Ev g _ 74 _ _ (als B (lX12_init.take 10)) _ _ _ _
    refine ev_putFP 77 mm_cl12 (j := 14) (Nat.le_of_ble_eq_true rfl) dX12_init_74 lk1299 rfl rfl rfl (fun _ _ _ => rfl) rfl rfl t9 rfl ?_
    refine ev_aload_n 78 dX12_init_77 rfl rfl ?_
    refine ev_bipushN 80 8 dX12_init_78 (by decide +kernel) rfl ?_
    refine ev_newa 82 (8) 0 dX12_init_80 rfl (by decide) lk125 rfl (by omega) rfl ?_
    rw [x9]
    show Ev g _ 82 _ _ (als B (lX12_init.take 11)) _ _ _ _
    refine ev_putFP 85 mm_cl12 (j := 15) (Nat.le_of_ble_eq_true rfl) dX12_init_82 lk1300 rfl rfl rfl (fun _ _ _ => rfl) rfl rfl t10 rfl ?_
    refine ev_aload_n 86 dX12_init_85 rfl rfl ?_
    refine ev_bipushN 88 8 dX12_init_86 (by decide +kernel) rfl ?_
    refine ev_newa 90 (8) 0 dX12_init_88 rfl (by decide) lk125 rfl (by omega) rfl ?_
    rw [x10]
    show Ev g _ 90 _ _ (als B (lX12_init.take 12)) _ _ _ _
    refine ev_putFP 93 mm_cl12 (j := 16) (Nat.le_of_ble_eq_true rfl) dX12_init_90 lk1301 rfl rfl rfl (fun _ _ _ => rfl) rfl rfl t11 rfl ?_
    refine ev_aload_n 94 dX12_init_93 rfl rfl ?_
    refine ev_sipushN 97 5120 dX12_init_94 (by decide +kernel) rfl ?_
    refine ev_newa 99 (5120) 0 dX12_init_97 rfl (by decide) lk125 rfl (by omega) rfl ?_
    rw [x11]
    show Ev g _ 99 _ _ (als B (lX12_init.take 13)) _ _ _ _
    refine ev_putFP 102 mm_cl12 (j := 17) (Nat.le_of_ble_eq_true rfl) dX12_init_99 lk1302 rfl rfl rfl (fun _ _ _ => rfl) rfl rfl t12 rfl ?_
    refine ev_aload_n 103 dX12_init_102 rfl rfl ?_
    refine ev_bipushN 105 8 dX12_init_103 (by decide +kernel) rfl ?_
    refine ev_newa 107 (8) 0 dX12_init_105 rfl (by decide) lk125 rfl (by omega) rfl ?_
    rw [x12]
    show Ev g _ 107 _ _ (als B (lX12_init.take 14)) _ _ _ _
    refine ev_putFP 110 mm_cl12 (j := 18) (Nat.le_of_ble_eq_true rfl) dX12_init_107 lk1303 rfl rfl rfl (fun _ _ _ => rfl) rfl rfl t13 rfl ?_
    refine ev_aload_n 111 dX12_init_110 rfl rfl ?_
    refine ev_bipushN 113 8 dX12_init_111 (by decide +kernel) rfl ?_
    refine ev_newa 115 (8) 0 dX12_init_113 rfl (by decide) lk125 rfl (by omega) rfl ?_
    rw [x13]
    show Ev g _ 115 _ _ (als B (lX12_init.take 15)) _ _ _ _
    refine ev_putFP 118 mm_cl12 (j := 19) (Nat.le_of_ble_eq_true rfl) dX12_init_115 lk1304 rfl rfl rfl (fun _ _ _ => rfl) rfl rfl t14 rfl ?_
    refine ev_aload_n 119 dX12_init_118 rfl rfl ?_
    refine ev_sipushN 122 2560 dX12_init_119 (by decide +kernel) rfl ?_
    refine ev_newa 124 (2560) 0 dX12_init_122 rfl (by decide) lk125 rfl (by omega) rfl ?_
    rw [x14]
    show Ev g _ 124 _ _ (als B (lX12_init.take 16)) _ _ _ _
    refine ev_putFP 127 mm_cl12 (j := 20) (Nat.le_of_ble_eq_true rfl) dX12_init_124 lk1305 rfl rfl rfl (fun _ _ _ => rfl) rfl rfl t15 rfl ?_
    refine ev_aload_n 128 dX12_init_127 rfl rfl ?_
    refine ev_sipushN 131 128 dX12_init_128 (by decide +kernel) rfl ?_
    refine ev_newa 133 (128) 0 dX12_init_131 rfl (by decide) lk125 rfl (by omega) rfl ?_
    rw [x15]
    show Ev g _ 133 _ _ (als B (lX12_init.take 17)) _ _ _ _
    refine ev_putFP 136 mm_cl12 (j := 21) (Nat.le_of_ble_eq_true rfl) dX12_init_133 lk1306 rfl rfl rfl (fun _ _ _ => rfl) rfl rfl t16 rfl ?_
    exact K
    , by
    refine ⟨fun q q1 q2 => ?_, fun q hq => ?_, ?_, fun q q1 q2 => ?_⟩
    · have : q = z + 9 ∨ q = z + 10 ∨ q = z + 11 ∨ q = z + 12 ∨ q = z + 13 ∨ q = z + 14 ∨ q = z + 15 ∨ q = z + 16 := by omega
      rcases this with rfl | rfl | rfl | rfl | rfl | rfl | rfl | rfl <;> constructor <;> simp (disch := omega) only [va_up_s, va_up_n]
    · constructor <;> simp (disch := omega) only [va_up_s, va_up_n]
    · simp (disch := omega) only [va_up_s, va_up_n]
    · simp (disch := omega) only [va_up_s, va_up_n]⟩
  obtain ⟨I2, J2, P2, b2, fz2, fo2, fp2, fq2⟩ : ∃ (I' : mm_TI) (J' : mm_TJ) (P' : mm_TP), (∀ Z : mm_Z, Ev g mX12_init 202 [some (.ref z)] [] (als B (lX12_init.take 25)) I' J' P' Z → Ev g mX12_init 136 [some (.ref z)] [] (als B (lX12_init.take 17)) I1 J1 P1 Z) ∧ (∀ q, z + 17 ≤ q → q < z + 25 → I' q = (fun _ => 0) ∧ J' q = (fun _ => 0)) ∧ (∀ q, q < z + 17 ∨ z + 25 ≤ q → I' q = I1 q ∧ J' q = J1 q) ∧ P' z = va_up (va_up (va_up (va_up (va_up (va_up (va_up (va_up (P1 z) 22 (some (z + 17))) 23 (some (z + 18))) 24 (some (z + 19))) 25 (some (z + 20))) 26 (some (z + 21))) 27 (some (z + 22))) 28 (some (z + 23))) 29 (some (z + 24)) ∧ (∀ q, q ≠ z → q < z + 17 ∨ z + 25 ≤ q → P' q = P1 q) := ⟨_, _, _, by
    intro Z K
    have t16 : mm_T (als B (lX12_init.take 17)) z = 112 := als_t (i := 0) hz rfl rfl rfl
    have t17 : mm_T (als B (lX12_init.take 18)) z = 112 := als_t (i := 0) hz rfl rfl rfl
    have t18 : mm_T (als B (lX12_init.take 19)) z = 112 := als_t (i := 0) hz rfl rfl rfl
    have t19 : mm_T (als B (lX12_init.take 20)) z = 112 := als_t (i := 0) hz rfl rfl rfl
    have t20 : mm_T (als B (lX12_init.take 21)) z = 112 := als_t (i := 0) hz rfl rfl rfl
    have t21 : mm_T (als B (lX12_init.take 22)) z = 112 := als_t (i := 0) hz rfl rfl rfl
    have t22 : mm_T (als B (lX12_init.take 23)) z = 112 := als_t (i := 0) hz rfl rfl rfl
    have t23 : mm_T (als B (lX12_init.take 24)) z = 112 := als_t (i := 0) hz rfl rfl rfl
    have t24 : mm_T (als B (lX12_init.take 25)) z = 112 := als_t (i := 0) hz rfl rfl rfl
    have x16 : mm_nx (als B (lX12_init.take 17)) = z + 17 := by rw [als_x, hz]; rfl
    have x17 : mm_nx (als B (lX12_init.take 18)) = z + 18 := by rw [als_x, hz]; rfl
    have x18 : mm_nx (als B (lX12_init.take 19)) = z + 19 := by rw [als_x, hz]; rfl
    have x19 : mm_nx (als B (lX12_init.take 20)) = z + 20 := by rw [als_x, hz]; rfl
    have x20 : mm_nx (als B (lX12_init.take 21)) = z + 21 := by rw [als_x, hz]; rfl
    have x21 : mm_nx (als B (lX12_init.take 22)) = z + 22 := by rw [als_x, hz]; rfl
    have x22 : mm_nx (als B (lX12_init.take 23)) = z + 23 := by rw [als_x, hz]; rfl
    have x23 : mm_nx (als B (lX12_init.take 24)) = z + 24 := by rw [als_x, hz]; rfl
    have x24 : mm_nx (als B (lX12_init.take 25)) = z + 25 := by rw [als_x, hz]; rfl
    refine ev_aload_n 137 dX12_init_136 rfl rfl ?_
    refine ev_sipushN 140 128 dX12_init_137 (by decide +kernel) rfl ?_
    refine ev_newa 142 (128) 0 dX12_init_140 rfl (by decide) lk125 rfl (by omega) rfl ?_
    rw [x16]
    show Ev g _ 142 _ _ (als B (lX12_init.take 18)) _ _ _ _
    refine ev_putFP 145 mm_cl12 (j := 22) (Nat.le_of_ble_eq_true rfl) dX12_init_142 lk1307 rfl rfl rfl (fun _ _ _ => rfl) rfl rfl t17 rfl ?_
    refine ev_aload_n 146 dX12_init_145 rfl rfl ?_
    refine ev_bipushN 148 16 dX12_init_146 (by decide +kernel) rfl ?_
    refine ev_newa 150 (16) 0 dX12_init_148 rfl (by decide) lk125 rfl (by omega) rfl ?_
    rw [x17]
    show Ev g _ 150 _ _ (als B (lX12_init.take 19)) _ _ _ _
    refine ev_putFP 153 mm_cl12 (j := 23) (Nat.le_of_ble_eq_true rfl) dX12_init_150 lk1308 rfl rfl rfl (fun _ _ _ => rfl) rfl rfl t18 rfl ?_
    refine ev_aload_n 154 dX12_init_153 rfl rfl ?_
    refine ev_bipushN 156 64 dX12_init_154 (by decide +kernel) rfl ?_
    refine ev_newa 158 (64) 0 dX12_init_156 rfl (by decide) lk125 rfl (by omega) rfl ?_
    rw [x18]
    show Ev g _ 158 _ _ (als B (lX12_init.take 20)) _ _ _ _
    refine ev_putFP 161 mm_cl12 (j := 24) (Nat.le_of_ble_eq_true rfl) dX12_init_158 lk1309 rfl rfl rfl (fun _ _ _ => rfl) rfl rfl t19 rfl ?_
    refine ev_aload_n 162 dX12_init_161 rfl rfl ?_
    refine ev_bipushN 164 8 dX12_init_162 (by decide +kernel) rfl ?_
    refine ev_newa 166 (8) 0 dX12_init_164 rfl (by decide) lk125 rfl (by omega) rfl ?_
    rw [x19]
    show Ev g _ 166 _ _ (als B (lX12_init.take 21)) _ _ _ _
    refine ev_putFP 169 mm_cl12 (j := 25) (Nat.le_of_ble_eq_true rfl) dX12_init_166 lk1310 rfl rfl rfl (fun _ _ _ => rfl) rfl rfl t20 rfl ?_
    refine ev_aload_n 170 dX12_init_169 rfl rfl ?_
    refine ev_bipushN 172 64 dX12_init_170 (by decide +kernel) rfl ?_
    refine ev_newa 174 (64) 0 dX12_init_172 rfl (by decide) lk125 rfl (by omega) rfl ?_
    rw [x20]
    show Ev g _ 174 _ _ (als B (lX12_init.take 22)) _ _ _ _
    refine ev_putFP 177 mm_cl12 (j := 26) (Nat.le_of_ble_eq_true rfl) dX12_init_174 lk1311 rfl rfl rfl (fun _ _ _ => rfl) rfl rfl t21 rfl ?_
    refine ev_aload_n 178 dX12_init_177 rfl rfl ?_
    refine ev_sipushN 181 224 dX12_init_178 (by decide +kernel) rfl ?_
    refine ev_newa 183 (224) 0 dX12_init_181 rfl (by decide) lk125 rfl (by omega) rfl ?_
    rw [x21]
    show Ev g _ 183 _ _ (als B (lX12_init.take 23)) _ _ _ _
    refine ev_putFP 186 mm_cl12 (j := 27) (Nat.le_of_ble_eq_true rfl) dX12_init_183 lk1312 rfl rfl rfl (fun _ _ _ => rfl) rfl rfl t22 rfl ?_
    refine ev_aload_n 187 dX12_init_186 rfl rfl ?_
    refine ev_bipushN 189 32 dX12_init_187 (by decide +kernel) rfl ?_
    refine ev_newa 191 (32) 4 dX12_init_189 rfl (by decide) lk185 rfl (by omega) rfl ?_
    rw [x22]
    show Ev g _ 191 _ _ (als B (lX12_init.take 24)) _ _ _ _
    refine ev_putFP 194 mm_cl12 (j := 28) (Nat.le_of_ble_eq_true rfl) dX12_init_191 lk1313 rfl rfl rfl (fun _ _ _ => rfl) rfl rfl t23 rfl ?_
    refine ev_aload_n 195 dX12_init_194 rfl rfl ?_
    refine ev_bipushN 197 32 dX12_init_195 (by decide +kernel) rfl ?_
    refine ev_newa 199 (32) 4 dX12_init_197 rfl (by decide) lk185 rfl (by omega) rfl ?_
    rw [x23]
    show Ev g _ 199 _ _ (als B (lX12_init.take 25)) _ _ _ _
    refine ev_putFP 202 mm_cl12 (j := 29) (Nat.le_of_ble_eq_true rfl) dX12_init_199 lk1314 rfl rfl rfl (fun _ _ _ => rfl) rfl rfl t24 rfl ?_
    exact K
    , by
    refine ⟨fun q q1 q2 => ?_, fun q hq => ?_, ?_, fun q q1 q2 => ?_⟩
    · have : q = z + 17 ∨ q = z + 18 ∨ q = z + 19 ∨ q = z + 20 ∨ q = z + 21 ∨ q = z + 22 ∨ q = z + 23 ∨ q = z + 24 := by omega
      rcases this with rfl | rfl | rfl | rfl | rfl | rfl | rfl | rfl <;> constructor <;> simp (disch := omega) only [va_up_s, va_up_n]
    · constructor <;> simp (disch := omega) only [va_up_s, va_up_n]
    · simp (disch := omega) only [va_up_s, va_up_n]
    · simp (disch := omega) only [va_up_s, va_up_n]⟩
  obtain ⟨I3, J3, P3, b3, fz3, fo3, fp3, fq3⟩ : ∃ (I' : mm_TI) (J' : mm_TJ) (P' : mm_TP), (∀ Z : mm_Z, Ev g mX12_init 272 [some (.ref z)] [] (als B (lX12_init.take 33)) I' J' P' Z → Ev g mX12_init 202 [some (.ref z)] [] (als B (lX12_init.take 25)) I2 J2 P2 Z) ∧ (∀ q, z + 25 ≤ q → q < z + 33 → I' q = (fun _ => 0) ∧ J' q = (fun _ => 0)) ∧ (∀ q, q < z + 25 ∨ z + 33 ≤ q → I' q = I2 q ∧ J' q = J2 q) ∧ P' z = va_up (va_up (va_up (va_up (va_up (va_up (va_up (va_up (P2 z) 30 (some (z + 25))) 31 (some (z + 26))) 32 (some (z + 27))) 33 (some (z + 28))) 34 (some (z + 29))) 35 (some (z + 30))) 37 (some (z + 31))) 38 (some (z + 32)) ∧ (∀ q, q ≠ z → q < z + 25 ∨ z + 33 ≤ q → P' q = P2 q) := ⟨_, _, _, by
    intro Z K
    have t24 : mm_T (als B (lX12_init.take 25)) z = 112 := als_t (i := 0) hz rfl rfl rfl
    have t25 : mm_T (als B (lX12_init.take 26)) z = 112 := als_t (i := 0) hz rfl rfl rfl
    have t26 : mm_T (als B (lX12_init.take 27)) z = 112 := als_t (i := 0) hz rfl rfl rfl
    have t27 : mm_T (als B (lX12_init.take 28)) z = 112 := als_t (i := 0) hz rfl rfl rfl
    have t28 : mm_T (als B (lX12_init.take 29)) z = 112 := als_t (i := 0) hz rfl rfl rfl
    have t29 : mm_T (als B (lX12_init.take 30)) z = 112 := als_t (i := 0) hz rfl rfl rfl
    have t30 : mm_T (als B (lX12_init.take 31)) z = 112 := als_t (i := 0) hz rfl rfl rfl
    have t31 : mm_T (als B (lX12_init.take 32)) z = 112 := als_t (i := 0) hz rfl rfl rfl
    have t32 : mm_T (als B (lX12_init.take 33)) z = 112 := als_t (i := 0) hz rfl rfl rfl
    have x24 : mm_nx (als B (lX12_init.take 25)) = z + 25 := by rw [als_x, hz]; rfl
    have x25 : mm_nx (als B (lX12_init.take 26)) = z + 26 := by rw [als_x, hz]; rfl
    have x26 : mm_nx (als B (lX12_init.take 27)) = z + 27 := by rw [als_x, hz]; rfl
    have x27 : mm_nx (als B (lX12_init.take 28)) = z + 28 := by rw [als_x, hz]; rfl
    have x28 : mm_nx (als B (lX12_init.take 29)) = z + 29 := by rw [als_x, hz]; rfl
    have x29 : mm_nx (als B (lX12_init.take 30)) = z + 30 := by rw [als_x, hz]; rfl
    have x30 : mm_nx (als B (lX12_init.take 31)) = z + 31 := by rw [als_x, hz]; rfl
    have x31 : mm_nx (als B (lX12_init.take 32)) = z + 32 := by rw [als_x, hz]; rfl
    have x32 : mm_nx (als B (lX12_init.take 33)) = z + 33 := by rw [als_x, hz]; rfl
    refine ev_aload_n 203 dX12_init_202 rfl rfl ?_
    refine ev_bipushN 205 8 dX12_init_203 (by decide +kernel) rfl ?_
    refine ev_newa 207 (8) 0 dX12_init_205 rfl (by decide) lk125 rfl (by omega) rfl ?_
    rw [x24]
    show Ev g _ 207 _ _ (als B (lX12_init.take 26)) _ _ _ _
    refine ev_putFP 210 mm_cl12 (j := 30) (Nat.le_of_ble_eq_true rfl) dX12_init_207 lk1315 rfl rfl rfl (fun _ _ _ => rfl) rfl rfl t25 rfl ?_
    refine ev_aload_n 211 dX12_init_210 rfl rfl ?_
    refine ev_sipushN 214 2560 dX12_init_211 (by decide +kernel) rfl ?_
    refine ev_newa 216 (2560) 0 dX12_init_214 rfl (by decide) lk125 rfl (by omega) rfl ?_
    rw [x25]
    show Ev g _ 216 _ _ (als B (lX12_init.take 27)) _ _ _ _
    refine ev_putFP 219 mm_cl12 (j := 31) (Nat.le_of_ble_eq_true rfl) dX12_init_216 lk1316 rfl rfl rfl (fun _ _ _ => rfl) rfl rfl t26 rfl ?_
    refine ev_aload_n 220 dX12_init_219 rfl rfl ?_
    refine ev_sipushN 223 5120 dX12_init_220 (by decide +kernel) rfl ?_
    refine ev_newa 225 (5120) 0 dX12_init_223 rfl (by decide) lk125 rfl (by omega) rfl ?_
    rw [x26]
    show Ev g _ 225 _ _ (als B (lX12_init.take 28)) _ _ _ _
    refine ev_putFP 228 mm_cl12 (j := 32) (Nat.le_of_ble_eq_true rfl) dX12_init_225 lk1317 rfl rfl rfl (fun _ _ _ => rfl) rfl rfl t27 rfl ?_
    refine ev_aload_n 229 dX12_init_228 rfl rfl ?_
    refine ev_bipushN 231 8 dX12_init_229 (by decide +kernel) rfl ?_
    refine ev_newa 233 (8) 0 dX12_init_231 rfl (by decide) lk125 rfl (by omega) rfl ?_
    rw [x27]
    show Ev g _ 233 _ _ (als B (lX12_init.take 29)) _ _ _ _
    refine ev_putFP 236 mm_cl12 (j := 33) (Nat.le_of_ble_eq_true rfl) dX12_init_233 lk1318 rfl rfl rfl (fun _ _ _ => rfl) rfl rfl t28 rfl ?_
    refine ev_aload_n 237 dX12_init_236 rfl rfl ?_
    refine ev_sipushN 240 2000 dX12_init_237 (by decide +kernel) rfl ?_
    refine ev_newa 242 (2000) 0 dX12_init_240 rfl (by decide) lk125 rfl (by omega) rfl ?_
    rw [x28]
    show Ev g _ 242 _ _ (als B (lX12_init.take 30)) _ _ _ _
    refine ev_putFP 245 mm_cl12 (j := 34) (Nat.le_of_ble_eq_true rfl) dX12_init_242 lk1319 rfl rfl rfl (fun _ _ _ => rfl) rfl rfl t29 rfl ?_
    refine ev_aload_n 246 dX12_init_245 rfl rfl ?_
    refine ev_sipushN 249 2000 dX12_init_246 (by decide +kernel) rfl ?_
    refine ev_newa 251 (2000) 0 dX12_init_249 rfl (by decide) lk125 rfl (by omega) rfl ?_
    rw [x29]
    show Ev g _ 251 _ _ (als B (lX12_init.take 31)) _ _ _ _
    refine ev_putFP 254 mm_cl12 (j := 35) (Nat.le_of_ble_eq_true rfl) dX12_init_251 lk1320 rfl rfl rfl (fun _ _ _ => rfl) rfl rfl t30 rfl ?_
    refine ev_aload_n 255 dX12_init_254 rfl rfl ?_
    refine ev_sipushN 258 4300 dX12_init_255 (by decide +kernel) rfl ?_
    refine ev_newa 260 (4300) 0 dX12_init_258 rfl (by decide) lk125 rfl (by omega) rfl ?_
    rw [x30]
    show Ev g _ 260 _ _ (als B (lX12_init.take 32)) _ _ _ _
    refine ev_putFP 263 mm_cl12 (j := 37) (Nat.le_of_ble_eq_true rfl) dX12_init_260 lk1322 rfl rfl rfl (fun _ _ _ => rfl) rfl rfl t31 rfl ?_
    refine ev_aload_n 264 dX12_init_263 rfl rfl ?_
    refine ev_sipushN 267 4300 dX12_init_264 (by decide +kernel) rfl ?_
    refine ev_newa 269 (4300) 3 dX12_init_267 rfl (by decide) lk1529 rfl (by omega) rfl ?_
    rw [x31]
    show Ev g _ 269 _ _ (als B (lX12_init.take 33)) _ _ _ _
    refine ev_putFP 272 mm_cl12 (j := 38) (Nat.le_of_ble_eq_true rfl) dX12_init_269 lk1323 rfl rfl rfl (fun _ _ _ => rfl) rfl rfl t32 rfl ?_
    exact K
    , by
    refine ⟨fun q q1 q2 => ?_, fun q hq => ?_, ?_, fun q q1 q2 => ?_⟩
    · have : q = z + 25 ∨ q = z + 26 ∨ q = z + 27 ∨ q = z + 28 ∨ q = z + 29 ∨ q = z + 30 ∨ q = z + 31 ∨ q = z + 32 := by omega
      rcases this with rfl | rfl | rfl | rfl | rfl | rfl | rfl | rfl <;> constructor <;> simp (disch := omega) only [va_up_s, va_up_n]
    · constructor <;> simp (disch := omega) only [va_up_s, va_up_n]
    · simp (disch := omega) only [va_up_s, va_up_n]
    · simp (disch := omega) only [va_up_s, va_up_n]⟩
  obtain ⟨I4, J4, P4, b4, fz4, fo4, fp4, fq4⟩ : ∃ (I' : mm_TI) (J' : mm_TJ) (P' : mm_TP), (∀ Z : mm_Z, Ev g mX12_init 336 [some (.ref z)] [] (als B (lX12_init.take 41)) I' J' P' Z → Ev g mX12_init 272 [some (.ref z)] [] (als B (lX12_init.take 33)) I3 J3 P3 Z) ∧ (∀ q, z + 33 ≤ q → q < z + 41 → I' q = (fun _ => 0) ∧ J' q = (fun _ => 0)) ∧ (∀ q, q < z + 33 ∨ z + 41 ≤ q → I' q = I3 q ∧ J' q = J3 q) ∧ P' z = va_up (va_up (va_up (va_up (va_up (va_up (va_up (va_up (P3 z) 39 (some (z + 33))) 40 (some (z + 34))) 41 (some (z + 35))) 42 (some (z + 36))) 43 (some (z + 37))) 44 (some (z + 38))) 45 (some (z + 39))) 46 (some (z + 40)) ∧ (∀ q, q ≠ z → q < z + 33 ∨ z + 41 ≤ q → P' q = P3 q) := ⟨_, _, _, by
    intro Z K
    have t32 : mm_T (als B (lX12_init.take 33)) z = 112 := als_t (i := 0) hz rfl rfl rfl
    have t33 : mm_T (als B (lX12_init.take 34)) z = 112 := als_t (i := 0) hz rfl rfl rfl
    have t34 : mm_T (als B (lX12_init.take 35)) z = 112 := als_t (i := 0) hz rfl rfl rfl
    have t35 : mm_T (als B (lX12_init.take 36)) z = 112 := als_t (i := 0) hz rfl rfl rfl
    have t36 : mm_T (als B (lX12_init.take 37)) z = 112 := als_t (i := 0) hz rfl rfl rfl
    have t37 : mm_T (als B (lX12_init.take 38)) z = 112 := als_t (i := 0) hz rfl rfl rfl
    have t38 : mm_T (als B (lX12_init.take 39)) z = 112 := als_t (i := 0) hz rfl rfl rfl
    have t39 : mm_T (als B (lX12_init.take 40)) z = 112 := als_t (i := 0) hz rfl rfl rfl
    have t40 : mm_T (als B (lX12_init.take 41)) z = 112 := als_t (i := 0) hz rfl rfl rfl
    have x32 : mm_nx (als B (lX12_init.take 33)) = z + 33 := by rw [als_x, hz]; rfl
    have x33 : mm_nx (als B (lX12_init.take 34)) = z + 34 := by rw [als_x, hz]; rfl
    have x34 : mm_nx (als B (lX12_init.take 35)) = z + 35 := by rw [als_x, hz]; rfl
    have x35 : mm_nx (als B (lX12_init.take 36)) = z + 36 := by rw [als_x, hz]; rfl
    have x36 : mm_nx (als B (lX12_init.take 37)) = z + 37 := by rw [als_x, hz]; rfl
    have x37 : mm_nx (als B (lX12_init.take 38)) = z + 38 := by rw [als_x, hz]; rfl
    have x38 : mm_nx (als B (lX12_init.take 39)) = z + 39 := by rw [als_x, hz]; rfl
    have x39 : mm_nx (als B (lX12_init.take 40)) = z + 40 := by rw [als_x, hz]; rfl
    have x40 : mm_nx (als B (lX12_init.take 41)) = z + 41 := by rw [als_x, hz]; rfl
    refine ev_aload_n 273 dX12_init_272 rfl rfl ?_
    refine ev_ldc 275 dX12_init_273 lk1284 rfl ?_
    refine ev_eqI (y := nI 275200) (by decide +kernel) ?_
    refine ev_newa 277 (275200) 0 dX12_init_275 rfl (by decide) lk125 rfl (by omega) rfl ?_
    rw [x32]
    show Ev g _ 277 _ _ (als B (lX12_init.take 34)) _ _ _ _
    refine ev_putFP 280 mm_cl12 (j := 39) (Nat.le_of_ble_eq_true rfl) dX12_init_277 lk1324 rfl rfl rfl (fun _ _ _ => rfl) rfl rfl t33 rfl ?_
    refine ev_aload_n 281 dX12_init_280 rfl rfl ?_
    refine ev_bipushN 283 8 dX12_init_281 (by decide +kernel) rfl ?_
    refine ev_newa 285 (8) 0 dX12_init_283 rfl (by decide) lk125 rfl (by omega) rfl ?_
    rw [x33]
    show Ev g _ 285 _ _ (als B (lX12_init.take 35)) _ _ _ _
    refine ev_putFP 288 mm_cl12 (j := 40) (Nat.le_of_ble_eq_true rfl) dX12_init_285 lk1325 rfl rfl rfl (fun _ _ _ => rfl) rfl rfl t34 rfl ?_
    refine ev_aload_n 289 dX12_init_288 rfl rfl ?_
    refine ev_bipushN 291 8 dX12_init_289 (by decide +kernel) rfl ?_
    refine ev_newa 293 (8) 0 dX12_init_291 rfl (by decide) lk125 rfl (by omega) rfl ?_
    rw [x34]
    show Ev g _ 293 _ _ (als B (lX12_init.take 36)) _ _ _ _
    refine ev_putFP 296 mm_cl12 (j := 41) (Nat.le_of_ble_eq_true rfl) dX12_init_293 lk1326 rfl rfl rfl (fun _ _ _ => rfl) rfl rfl t35 rfl ?_
    refine ev_aload_n 297 dX12_init_296 rfl rfl ?_
    refine ev_bipushN 299 8 dX12_init_297 (by decide +kernel) rfl ?_
    refine ev_newa 301 (8) 0 dX12_init_299 rfl (by decide) lk125 rfl (by omega) rfl ?_
    rw [x35]
    show Ev g _ 301 _ _ (als B (lX12_init.take 37)) _ _ _ _
    refine ev_putFP 304 mm_cl12 (j := 42) (Nat.le_of_ble_eq_true rfl) dX12_init_301 lk1327 rfl rfl rfl (fun _ _ _ => rfl) rfl rfl t36 rfl ?_
    refine ev_aload_n 305 dX12_init_304 rfl rfl ?_
    refine ev_bipushN 307 8 dX12_init_305 (by decide +kernel) rfl ?_
    refine ev_newa 309 (8) 0 dX12_init_307 rfl (by decide) lk125 rfl (by omega) rfl ?_
    rw [x36]
    show Ev g _ 309 _ _ (als B (lX12_init.take 38)) _ _ _ _
    refine ev_putFP 312 mm_cl12 (j := 43) (Nat.le_of_ble_eq_true rfl) dX12_init_309 lk1328 rfl rfl rfl (fun _ _ _ => rfl) rfl rfl t37 rfl ?_
    refine ev_aload_n 313 dX12_init_312 rfl rfl ?_
    refine ev_bipushN 315 8 dX12_init_313 (by decide +kernel) rfl ?_
    refine ev_newa 317 (8) 0 dX12_init_315 rfl (by decide) lk125 rfl (by omega) rfl ?_
    rw [x37]
    show Ev g _ 317 _ _ (als B (lX12_init.take 39)) _ _ _ _
    refine ev_putFP 320 mm_cl12 (j := 44) (Nat.le_of_ble_eq_true rfl) dX12_init_317 lk1329 rfl rfl rfl (fun _ _ _ => rfl) rfl rfl t38 rfl ?_
    refine ev_aload_n 321 dX12_init_320 rfl rfl ?_
    refine ev_bipushN 323 8 dX12_init_321 (by decide +kernel) rfl ?_
    refine ev_newa 325 (8) 0 dX12_init_323 rfl (by decide) lk125 rfl (by omega) rfl ?_
    rw [x38]
    show Ev g _ 325 _ _ (als B (lX12_init.take 40)) _ _ _ _
    refine ev_putFP 328 mm_cl12 (j := 45) (Nat.le_of_ble_eq_true rfl) dX12_init_325 lk1330 rfl rfl rfl (fun _ _ _ => rfl) rfl rfl t39 rfl ?_
    refine ev_aload_n 329 dX12_init_328 rfl rfl ?_
    refine ev_bipushN 331 8 dX12_init_329 (by decide +kernel) rfl ?_
    refine ev_newa 333 (8) 0 dX12_init_331 rfl (by decide) lk125 rfl (by omega) rfl ?_
    rw [x39]
    show Ev g _ 333 _ _ (als B (lX12_init.take 41)) _ _ _ _
    refine ev_putFP 336 mm_cl12 (j := 46) (Nat.le_of_ble_eq_true rfl) dX12_init_333 lk1331 rfl rfl rfl (fun _ _ _ => rfl) rfl rfl t40 rfl ?_
    exact K
    , by
    refine ⟨fun q q1 q2 => ?_, fun q hq => ?_, ?_, fun q q1 q2 => ?_⟩
    · have : q = z + 33 ∨ q = z + 34 ∨ q = z + 35 ∨ q = z + 36 ∨ q = z + 37 ∨ q = z + 38 ∨ q = z + 39 ∨ q = z + 40 := by omega
      rcases this with rfl | rfl | rfl | rfl | rfl | rfl | rfl | rfl <;> constructor <;> simp (disch := omega) only [va_up_s, va_up_n]
    · constructor <;> simp (disch := omega) only [va_up_s, va_up_n]
    · simp (disch := omega) only [va_up_s, va_up_n]
    · simp (disch := omega) only [va_up_s, va_up_n]⟩
  obtain ⟨I5, J5, P5, b5, fz5, fo5, fp5, fq5⟩ : ∃ (I' : mm_TI) (J' : mm_TJ) (P' : mm_TP), (∀ Z : mm_Z, Ev g mX12_init 401 [some (.ref z)] [] (als B (lX12_init.take 49)) I' J' P' Z → Ev g mX12_init 336 [some (.ref z)] [] (als B (lX12_init.take 41)) I4 J4 P4 Z) ∧ (∀ q, z + 41 ≤ q → q < z + 49 → I' q = (fun _ => 0) ∧ J' q = (fun _ => 0)) ∧ (∀ q, q < z + 41 ∨ z + 49 ≤ q → I' q = I4 q ∧ J' q = J4 q) ∧ P' z = va_up (va_up (va_up (va_up (va_up (va_up (va_up (va_up (P4 z) 47 (some (z + 41))) 48 (some (z + 42))) 49 (some (z + 43))) 50 (some (z + 44))) 51 (some (z + 45))) 52 (some (z + 46))) 53 (some (z + 47))) 54 (some (z + 48)) ∧ (∀ q, q ≠ z → q < z + 41 ∨ z + 49 ≤ q → P' q = P4 q) := ⟨_, _, _, by
    intro Z K
    have t40 : mm_T (als B (lX12_init.take 41)) z = 112 := als_t (i := 0) hz rfl rfl rfl
    have t41 : mm_T (als B (lX12_init.take 42)) z = 112 := als_t (i := 0) hz rfl rfl rfl
    have t42 : mm_T (als B (lX12_init.take 43)) z = 112 := als_t (i := 0) hz rfl rfl rfl
    have t43 : mm_T (als B (lX12_init.take 44)) z = 112 := als_t (i := 0) hz rfl rfl rfl
    have t44 : mm_T (als B (lX12_init.take 45)) z = 112 := als_t (i := 0) hz rfl rfl rfl
    have t45 : mm_T (als B (lX12_init.take 46)) z = 112 := als_t (i := 0) hz rfl rfl rfl
    have t46 : mm_T (als B (lX12_init.take 47)) z = 112 := als_t (i := 0) hz rfl rfl rfl
    have t47 : mm_T (als B (lX12_init.take 48)) z = 112 := als_t (i := 0) hz rfl rfl rfl
    have t48 : mm_T (als B (lX12_init.take 49)) z = 112 := als_t (i := 0) hz rfl rfl rfl
    have x40 : mm_nx (als B (lX12_init.take 41)) = z + 41 := by rw [als_x, hz]; rfl
    have x41 : mm_nx (als B (lX12_init.take 42)) = z + 42 := by rw [als_x, hz]; rfl
    have x42 : mm_nx (als B (lX12_init.take 43)) = z + 43 := by rw [als_x, hz]; rfl
    have x43 : mm_nx (als B (lX12_init.take 44)) = z + 44 := by rw [als_x, hz]; rfl
    have x44 : mm_nx (als B (lX12_init.take 45)) = z + 45 := by rw [als_x, hz]; rfl
    have x45 : mm_nx (als B (lX12_init.take 46)) = z + 46 := by rw [als_x, hz]; rfl
    have x46 : mm_nx (als B (lX12_init.take 47)) = z + 47 := by rw [als_x, hz]; rfl
    have x47 : mm_nx (als B (lX12_init.take 48)) = z + 48 := by rw [als_x, hz]; rfl
    have x48 : mm_nx (als B (lX12_init.take 49)) = z + 49 := by rw [als_x, hz]; rfl
    refine ev_aload_n 337 dX12_init_336 rfl rfl ?_
    refine ev_bipushN 339 8 dX12_init_337 (by decide +kernel) rfl ?_
    refine ev_newa 341 (8) 0 dX12_init_339 rfl (by decide) lk125 rfl (by omega) rfl ?_
    rw [x40]
    show Ev g _ 341 _ _ (als B (lX12_init.take 42)) _ _ _ _
    refine ev_putFP 344 mm_cl12 (j := 47) (Nat.le_of_ble_eq_true rfl) dX12_init_341 lk1332 rfl rfl rfl (fun _ _ _ => rfl) rfl rfl t41 rfl ?_
    refine ev_aload_n 345 dX12_init_344 rfl rfl ?_
    refine ev_bipushN 347 8 dX12_init_345 (by decide +kernel) rfl ?_
    refine ev_newa 349 (8) 0 dX12_init_347 rfl (by decide) lk125 rfl (by omega) rfl ?_
    rw [x41]
    show Ev g _ 349 _ _ (als B (lX12_init.take 43)) _ _ _ _
    refine ev_putFP 352 mm_cl12 (j := 48) (Nat.le_of_ble_eq_true rfl) dX12_init_349 lk1333 rfl rfl rfl (fun _ _ _ => rfl) rfl rfl t42 rfl ?_
    refine ev_aload_n 353 dX12_init_352 rfl rfl ?_
    refine ev_bipushN 355 8 dX12_init_353 (by decide +kernel) rfl ?_
    refine ev_newa 357 (8) 0 dX12_init_355 rfl (by decide) lk125 rfl (by omega) rfl ?_
    rw [x42]
    show Ev g _ 357 _ _ (als B (lX12_init.take 44)) _ _ _ _
    refine ev_putFP 360 mm_cl12 (j := 49) (Nat.le_of_ble_eq_true rfl) dX12_init_357 lk1334 rfl rfl rfl (fun _ _ _ => rfl) rfl rfl t43 rfl ?_
    refine ev_aload_n 361 dX12_init_360 rfl rfl ?_
    refine ev_bipushN 363 8 dX12_init_361 (by decide +kernel) rfl ?_
    refine ev_newa 365 (8) 0 dX12_init_363 rfl (by decide) lk125 rfl (by omega) rfl ?_
    rw [x43]
    show Ev g _ 365 _ _ (als B (lX12_init.take 45)) _ _ _ _
    refine ev_putFP 368 mm_cl12 (j := 50) (Nat.le_of_ble_eq_true rfl) dX12_init_365 lk1335 rfl rfl rfl (fun _ _ _ => rfl) rfl rfl t44 rfl ?_
    refine ev_aload_n 369 dX12_init_368 rfl rfl ?_
    refine ev_sipushN 372 2576 dX12_init_369 (by decide +kernel) rfl ?_
    refine ev_newa 374 (2576) 0 dX12_init_372 rfl (by decide) lk125 rfl (by omega) rfl ?_
    rw [x44]
    show Ev g _ 374 _ _ (als B (lX12_init.take 46)) _ _ _ _
    refine ev_putFP 377 mm_cl12 (j := 51) (Nat.le_of_ble_eq_true rfl) dX12_init_374 lk1336 rfl rfl rfl (fun _ _ _ => rfl) rfl rfl t45 rfl ?_
    refine ev_aload_n 378 dX12_init_377 rfl rfl ?_
    refine ev_bipushN 380 8 dX12_init_378 (by decide +kernel) rfl ?_
    refine ev_newa 382 (8) 0 dX12_init_380 rfl (by decide) lk125 rfl (by omega) rfl ?_
    rw [x45]
    show Ev g _ 382 _ _ (als B (lX12_init.take 47)) _ _ _ _
    refine ev_putFP 385 mm_cl12 (j := 52) (Nat.le_of_ble_eq_true rfl) dX12_init_382 lk1337 rfl rfl rfl (fun _ _ _ => rfl) rfl rfl t46 rfl ?_
    refine ev_aload_n 386 dX12_init_385 rfl rfl ?_
    refine ev_bipushN 388 8 dX12_init_386 (by decide +kernel) rfl ?_
    refine ev_newa 390 (8) 0 dX12_init_388 rfl (by decide) lk125 rfl (by omega) rfl ?_
    rw [x46]
    show Ev g _ 390 _ _ (als B (lX12_init.take 48)) _ _ _ _
    refine ev_putFP 393 mm_cl12 (j := 53) (Nat.le_of_ble_eq_true rfl) dX12_init_390 lk1338 rfl rfl rfl (fun _ _ _ => rfl) rfl rfl t47 rfl ?_
    refine ev_aload_n 394 dX12_init_393 rfl rfl ?_
    refine ev_bipushN 396 32 dX12_init_394 (by decide +kernel) rfl ?_
    refine ev_newa 398 (32) 0 dX12_init_396 rfl (by decide) lk125 rfl (by omega) rfl ?_
    rw [x47]
    show Ev g _ 398 _ _ (als B (lX12_init.take 49)) _ _ _ _
    refine ev_putFP 401 mm_cl12 (j := 54) (Nat.le_of_ble_eq_true rfl) dX12_init_398 lk1339 rfl rfl rfl (fun _ _ _ => rfl) rfl rfl t48 rfl ?_
    exact K
    , by
    refine ⟨fun q q1 q2 => ?_, fun q hq => ?_, ?_, fun q q1 q2 => ?_⟩
    · have : q = z + 41 ∨ q = z + 42 ∨ q = z + 43 ∨ q = z + 44 ∨ q = z + 45 ∨ q = z + 46 ∨ q = z + 47 ∨ q = z + 48 := by omega
      rcases this with rfl | rfl | rfl | rfl | rfl | rfl | rfl | rfl <;> constructor <;> simp (disch := omega) only [va_up_s, va_up_n]
    · constructor <;> simp (disch := omega) only [va_up_s, va_up_n]
    · simp (disch := omega) only [va_up_s, va_up_n]
    · simp (disch := omega) only [va_up_s, va_up_n]⟩
  obtain ⟨I6, J6, P6, b6, fz6, fo6, fp6, fq6⟩ : ∃ (I' : mm_TI) (J' : mm_TJ) (P' : mm_TP), (∀ Z : mm_Z, Ev g mX12_init 468 [some (.ref z)] [] (als B (lX12_init.take 57)) I' J' P' Z → Ev g mX12_init 401 [some (.ref z)] [] (als B (lX12_init.take 49)) I5 J5 P5 Z) ∧ (∀ q, z + 49 ≤ q → q < z + 57 → I' q = (fun _ => 0) ∧ J' q = (fun _ => 0)) ∧ (∀ q, q < z + 49 ∨ z + 57 ≤ q → I' q = I5 q ∧ J' q = J5 q) ∧ P' z = va_up (va_up (va_up (va_up (va_up (va_up (va_up (va_up (P5 z) 55 (some (z + 49))) 56 (some (z + 50))) 57 (some (z + 51))) 58 (some (z + 52))) 59 (some (z + 53))) 60 (some (z + 54))) 61 (some (z + 55))) 62 (some (z + 56)) ∧ (∀ q, q ≠ z → q < z + 49 ∨ z + 57 ≤ q → P' q = P5 q) := ⟨_, _, _, by
    intro Z K
    have t48 : mm_T (als B (lX12_init.take 49)) z = 112 := als_t (i := 0) hz rfl rfl rfl
    have t49 : mm_T (als B (lX12_init.take 50)) z = 112 := als_t (i := 0) hz rfl rfl rfl
    have t50 : mm_T (als B (lX12_init.take 51)) z = 112 := als_t (i := 0) hz rfl rfl rfl
    have t51 : mm_T (als B (lX12_init.take 52)) z = 112 := als_t (i := 0) hz rfl rfl rfl
    have t52 : mm_T (als B (lX12_init.take 53)) z = 112 := als_t (i := 0) hz rfl rfl rfl
    have t53 : mm_T (als B (lX12_init.take 54)) z = 112 := als_t (i := 0) hz rfl rfl rfl
    have t54 : mm_T (als B (lX12_init.take 55)) z = 112 := als_t (i := 0) hz rfl rfl rfl
    have t55 : mm_T (als B (lX12_init.take 56)) z = 112 := als_t (i := 0) hz rfl rfl rfl
    have t56 : mm_T (als B (lX12_init.take 57)) z = 112 := als_t (i := 0) hz rfl rfl rfl
    have x48 : mm_nx (als B (lX12_init.take 49)) = z + 49 := by rw [als_x, hz]; rfl
    have x49 : mm_nx (als B (lX12_init.take 50)) = z + 50 := by rw [als_x, hz]; rfl
    have x50 : mm_nx (als B (lX12_init.take 51)) = z + 51 := by rw [als_x, hz]; rfl
    have x51 : mm_nx (als B (lX12_init.take 52)) = z + 52 := by rw [als_x, hz]; rfl
    have x52 : mm_nx (als B (lX12_init.take 53)) = z + 53 := by rw [als_x, hz]; rfl
    have x53 : mm_nx (als B (lX12_init.take 54)) = z + 54 := by rw [als_x, hz]; rfl
    have x54 : mm_nx (als B (lX12_init.take 55)) = z + 55 := by rw [als_x, hz]; rfl
    have x55 : mm_nx (als B (lX12_init.take 56)) = z + 56 := by rw [als_x, hz]; rfl
    have x56 : mm_nx (als B (lX12_init.take 57)) = z + 57 := by rw [als_x, hz]; rfl
    refine ev_aload_n 402 dX12_init_401 rfl rfl ?_
    refine ev_bipushN 404 32 dX12_init_402 (by decide +kernel) rfl ?_
    refine ev_newa 406 (32) 0 dX12_init_404 rfl (by decide) lk125 rfl (by omega) rfl ?_
    rw [x48]
    show Ev g _ 406 _ _ (als B (lX12_init.take 50)) _ _ _ _
    refine ev_putFP 409 mm_cl12 (j := 55) (Nat.le_of_ble_eq_true rfl) dX12_init_406 lk1340 rfl rfl rfl (fun _ _ _ => rfl) rfl rfl t49 rfl ?_
    refine ev_aload_n 410 dX12_init_409 rfl rfl ?_
    refine ev_bipushN 412 32 dX12_init_410 (by decide +kernel) rfl ?_
    refine ev_newa 414 (32) 0 dX12_init_412 rfl (by decide) lk125 rfl (by omega) rfl ?_
    rw [x49]
    show Ev g _ 414 _ _ (als B (lX12_init.take 51)) _ _ _ _
    refine ev_putFP 417 mm_cl12 (j := 56) (Nat.le_of_ble_eq_true rfl) dX12_init_414 lk1341 rfl rfl rfl (fun _ _ _ => rfl) rfl rfl t50 rfl ?_
    refine ev_aload_n 418 dX12_init_417 rfl rfl ?_
    refine ev_bipushN 420 32 dX12_init_418 (by decide +kernel) rfl ?_
    refine ev_newa 422 (32) 0 dX12_init_420 rfl (by decide) lk125 rfl (by omega) rfl ?_
    rw [x50]
    show Ev g _ 422 _ _ (als B (lX12_init.take 52)) _ _ _ _
    refine ev_putFP 425 mm_cl12 (j := 57) (Nat.le_of_ble_eq_true rfl) dX12_init_422 lk1342 rfl rfl rfl (fun _ _ _ => rfl) rfl rfl t51 rfl ?_
    refine ev_aload_n 426 dX12_init_425 rfl rfl ?_
    refine ev_sipushN 429 5120 dX12_init_426 (by decide +kernel) rfl ?_
    refine ev_newa 431 (5120) 0 dX12_init_429 rfl (by decide) lk125 rfl (by omega) rfl ?_
    rw [x51]
    show Ev g _ 431 _ _ (als B (lX12_init.take 53)) _ _ _ _
    refine ev_putFP 434 mm_cl12 (j := 58) (Nat.le_of_ble_eq_true rfl) dX12_init_431 lk1343 rfl rfl rfl (fun _ _ _ => rfl) rfl rfl t52 rfl ?_
    refine ev_aload_n 435 dX12_init_434 rfl rfl ?_
    refine ev_sipushN 438 320 dX12_init_435 (by decide +kernel) rfl ?_
    refine ev_newa 440 (320) 0 dX12_init_438 rfl (by decide) lk125 rfl (by omega) rfl ?_
    rw [x52]
    show Ev g _ 440 _ _ (als B (lX12_init.take 54)) _ _ _ _
    refine ev_putFP 443 mm_cl12 (j := 59) (Nat.le_of_ble_eq_true rfl) dX12_init_440 lk1344 rfl rfl rfl (fun _ _ _ => rfl) rfl rfl t53 rfl ?_
    refine ev_aload_n 444 dX12_init_443 rfl rfl ?_
    refine ev_sipushN 447 340 dX12_init_444 (by decide +kernel) rfl ?_
    refine ev_newa 449 (340) 0 dX12_init_447 rfl (by decide) lk125 rfl (by omega) rfl ?_
    rw [x53]
    show Ev g _ 449 _ _ (als B (lX12_init.take 55)) _ _ _ _
    refine ev_putFP 452 mm_cl12 (j := 60) (Nat.le_of_ble_eq_true rfl) dX12_init_449 lk1345 rfl rfl rfl (fun _ _ _ => rfl) rfl rfl t54 rfl ?_
    refine ev_aload_n 453 dX12_init_452 rfl rfl ?_
    refine ev_bipushN 455 80 dX12_init_453 (by decide +kernel) rfl ?_
    refine ev_newa 457 (80) 0 dX12_init_455 rfl (by decide) lk125 rfl (by omega) rfl ?_
    rw [x54]
    show Ev g _ 457 _ _ (als B (lX12_init.take 56)) _ _ _ _
    refine ev_putFP 460 mm_cl12 (j := 61) (Nat.le_of_ble_eq_true rfl) dX12_init_457 lk1346 rfl rfl rfl (fun _ _ _ => rfl) rfl rfl t55 rfl ?_
    refine ev_aload_n 461 dX12_init_460 rfl rfl ?_
    refine ev_bipushN 463 80 dX12_init_461 (by decide +kernel) rfl ?_
    refine ev_newa 465 (80) 0 dX12_init_463 rfl (by decide) lk125 rfl (by omega) rfl ?_
    rw [x55]
    show Ev g _ 465 _ _ (als B (lX12_init.take 57)) _ _ _ _
    refine ev_putFP 468 mm_cl12 (j := 62) (Nat.le_of_ble_eq_true rfl) dX12_init_465 lk1347 rfl rfl rfl (fun _ _ _ => rfl) rfl rfl t56 rfl ?_
    exact K
    , by
    refine ⟨fun q q1 q2 => ?_, fun q hq => ?_, ?_, fun q q1 q2 => ?_⟩
    · have : q = z + 49 ∨ q = z + 50 ∨ q = z + 51 ∨ q = z + 52 ∨ q = z + 53 ∨ q = z + 54 ∨ q = z + 55 ∨ q = z + 56 := by omega
      rcases this with rfl | rfl | rfl | rfl | rfl | rfl | rfl | rfl <;> constructor <;> simp (disch := omega) only [va_up_s, va_up_n]
    · constructor <;> simp (disch := omega) only [va_up_s, va_up_n]
    · simp (disch := omega) only [va_up_s, va_up_n]
    · simp (disch := omega) only [va_up_s, va_up_n]⟩
  obtain ⟨I7, J7, P7, b7, fz7, fo7, fp7, fq7⟩ : ∃ (I' : mm_TI) (J' : mm_TJ) (P' : mm_TP), (∀ Z : mm_Z, Ev g mX12_init 524 [some (.ref z)] [] (als B (lX12_init.take 64)) I' J' P' Z → Ev g mX12_init 468 [some (.ref z)] [] (als B (lX12_init.take 57)) I6 J6 P6 Z) ∧ (∀ q, z + 57 ≤ q → q < z + 64 → I' q = (fun _ => 0) ∧ J' q = (fun _ => 0)) ∧ (∀ q, q < z + 57 ∨ z + 64 ≤ q → I' q = I6 q ∧ J' q = J6 q) ∧ P' z = va_up (va_up (va_up (va_up (va_up (va_up (va_up (P6 z) 63 (some (z + 57))) 64 (some (z + 58))) 65 (some (z + 59))) 66 (some (z + 60))) 67 (some (z + 61))) 68 (some (z + 62))) 69 (some (z + 63)) ∧ (∀ q, q ≠ z → q < z + 57 ∨ z + 64 ≤ q → P' q = P6 q) := ⟨_, _, _, by
    intro Z K
    have t56 : mm_T (als B (lX12_init.take 57)) z = 112 := als_t (i := 0) hz rfl rfl rfl
    have t57 : mm_T (als B (lX12_init.take 58)) z = 112 := als_t (i := 0) hz rfl rfl rfl
    have t58 : mm_T (als B (lX12_init.take 59)) z = 112 := als_t (i := 0) hz rfl rfl rfl
    have t59 : mm_T (als B (lX12_init.take 60)) z = 112 := als_t (i := 0) hz rfl rfl rfl
    have t60 : mm_T (als B (lX12_init.take 61)) z = 112 := als_t (i := 0) hz rfl rfl rfl
    have t61 : mm_T (als B (lX12_init.take 62)) z = 112 := als_t (i := 0) hz rfl rfl rfl
    have t62 : mm_T (als B (lX12_init.take 63)) z = 112 := als_t (i := 0) hz rfl rfl rfl
    have t63 : mm_T (als B (lX12_init.take 64)) z = 112 := als_t (i := 0) hz rfl rfl rfl
    have x56 : mm_nx (als B (lX12_init.take 57)) = z + 57 := by rw [als_x, hz]; rfl
    have x57 : mm_nx (als B (lX12_init.take 58)) = z + 58 := by rw [als_x, hz]; rfl
    have x58 : mm_nx (als B (lX12_init.take 59)) = z + 59 := by rw [als_x, hz]; rfl
    have x59 : mm_nx (als B (lX12_init.take 60)) = z + 60 := by rw [als_x, hz]; rfl
    have x60 : mm_nx (als B (lX12_init.take 61)) = z + 61 := by rw [als_x, hz]; rfl
    have x61 : mm_nx (als B (lX12_init.take 62)) = z + 62 := by rw [als_x, hz]; rfl
    have x62 : mm_nx (als B (lX12_init.take 63)) = z + 63 := by rw [als_x, hz]; rfl
    have x63 : mm_nx (als B (lX12_init.take 64)) = z + 64 := by rw [als_x, hz]; rfl
    refine ev_aload_n 469 dX12_init_468 rfl rfl ?_
    refine ev_bipushN 471 80 dX12_init_469 (by decide +kernel) rfl ?_
    refine ev_newa 473 (80) 0 dX12_init_471 rfl (by decide) lk125 rfl (by omega) rfl ?_
    rw [x56]
    show Ev g _ 473 _ _ (als B (lX12_init.take 58)) _ _ _ _
    refine ev_putFP 476 mm_cl12 (j := 63) (Nat.le_of_ble_eq_true rfl) dX12_init_473 lk1348 rfl rfl rfl (fun _ _ _ => rfl) rfl rfl t57 rfl ?_
    refine ev_aload_n 477 dX12_init_476 rfl rfl ?_
    refine ev_bipushN 479 84 dX12_init_477 (by decide +kernel) rfl ?_
    refine ev_newa 481 (84) 0 dX12_init_479 rfl (by decide) lk125 rfl (by omega) rfl ?_
    rw [x57]
    show Ev g _ 481 _ _ (als B (lX12_init.take 59)) _ _ _ _
    refine ev_putFP 484 mm_cl12 (j := 64) (Nat.le_of_ble_eq_true rfl) dX12_init_481 lk1349 rfl rfl rfl (fun _ _ _ => rfl) rfl rfl t58 rfl ?_
    refine ev_aload_n 485 dX12_init_484 rfl rfl ?_
    refine ev_bipushN 487 80 dX12_init_485 (by decide +kernel) rfl ?_
    refine ev_newa 489 (80) 4 dX12_init_487 rfl (by decide) lk185 rfl (by omega) rfl ?_
    rw [x58]
    show Ev g _ 489 _ _ (als B (lX12_init.take 60)) _ _ _ _
    refine ev_putFP 492 mm_cl12 (j := 65) (Nat.le_of_ble_eq_true rfl) dX12_init_489 lk1350 rfl rfl rfl (fun _ _ _ => rfl) rfl rfl t59 rfl ?_
    refine ev_aload_n 493 dX12_init_492 rfl rfl ?_
    refine ev_bipushN 495 80 dX12_init_493 (by decide +kernel) rfl ?_
    refine ev_newa 497 (80) 4 dX12_init_495 rfl (by decide) lk185 rfl (by omega) rfl ?_
    rw [x59]
    show Ev g _ 497 _ _ (als B (lX12_init.take 61)) _ _ _ _
    refine ev_putFP 500 mm_cl12 (j := 66) (Nat.le_of_ble_eq_true rfl) dX12_init_497 lk1351 rfl rfl rfl (fun _ _ _ => rfl) rfl rfl t60 rfl ?_
    refine ev_aload_n 501 dX12_init_500 rfl rfl ?_
    refine ev_bipushN 503 9 dX12_init_501 (by decide +kernel) rfl ?_
    refine ev_newa 505 (9) 4 dX12_init_503 rfl (by decide) lk185 rfl (by omega) rfl ?_
    rw [x60]
    show Ev g _ 505 _ _ (als B (lX12_init.take 62)) _ _ _ _
    refine ev_putFP 508 mm_cl12 (j := 67) (Nat.le_of_ble_eq_true rfl) dX12_init_505 lk1352 rfl rfl rfl (fun _ _ _ => rfl) rfl rfl t61 rfl ?_
    refine ev_aload_n 509 dX12_init_508 rfl rfl ?_
    refine ev_bipushN 511 9 dX12_init_509 (by decide +kernel) rfl ?_
    refine ev_newa 513 (9) 4 dX12_init_511 rfl (by decide) lk185 rfl (by omega) rfl ?_
    rw [x61]
    show Ev g _ 513 _ _ (als B (lX12_init.take 63)) _ _ _ _
    refine ev_putFP 516 mm_cl12 (j := 68) (Nat.le_of_ble_eq_true rfl) dX12_init_513 lk1353 rfl rfl rfl (fun _ _ _ => rfl) rfl rfl t62 rfl ?_
    refine ev_aload_n 517 dX12_init_516 rfl rfl ?_
    refine ev_bipushN 519 9 dX12_init_517 (by decide +kernel) rfl ?_
    refine ev_newa 521 (9) 4 dX12_init_519 rfl (by decide) lk185 rfl (by omega) rfl ?_
    rw [x62]
    show Ev g _ 521 _ _ (als B (lX12_init.take 64)) _ _ _ _
    refine ev_putFP 524 mm_cl12 (j := 69) (Nat.le_of_ble_eq_true rfl) dX12_init_521 lk1354 rfl rfl rfl (fun _ _ _ => rfl) rfl rfl t63 rfl ?_
    exact K
    , by
    refine ⟨fun q q1 q2 => ?_, fun q hq => ?_, ?_, fun q q1 q2 => ?_⟩
    · have : q = z + 57 ∨ q = z + 58 ∨ q = z + 59 ∨ q = z + 60 ∨ q = z + 61 ∨ q = z + 62 ∨ q = z + 63 := by omega
      rcases this with rfl | rfl | rfl | rfl | rfl | rfl | rfl <;> constructor <;> simp (disch := omega) only [va_up_s, va_up_n]
    · constructor <;> simp (disch := omega) only [va_up_s, va_up_n]
    · simp (disch := omega) only [va_up_s, va_up_n]
    · simp (disch := omega) only [va_up_s, va_up_n]⟩
  refine ⟨I7, J7, P7, ?_, fun q q1 q2 => ?_, fun q hq => ?_, ?_, fun q hq => ?_⟩
  · refine ct_of (lv := [some (.ref z)]) (by decide +kernel) (Nat.le_of_ble_eq_true rfl) rfl ?_
    refine b0 _ ?_
    refine b1 _ ?_
    refine b2 _ ?_
    refine b3 _ ?_
    refine b4 _ ?_
    refine b5 _ ?_
    refine b6 _ ?_
    refine b7 _ ?_
    exact ev_vret dX12_init_524 rfl (rfl)
  · rcases (show (z + 1 ≤ q ∧ q < z + 9) ∨ (z + 9 ≤ q ∧ q < z + 17) ∨ (z + 17 ≤ q ∧ q < z + 25) ∨ (z + 25 ≤ q ∧ q < z + 33) ∨ (z + 33 ≤ q ∧ q < z + 41) ∨ (z + 41 ≤ q ∧ q < z + 49) ∨ (z + 49 ≤ q ∧ q < z + 57) ∨ (z + 57 ≤ q ∧ q < z + 64) by omega) with h | h | h | h | h | h | h | h
    · rw [(fo7 q (by omega)).1, (fo6 q (by omega)).1, (fo5 q (by omega)).1, (fo4 q (by omega)).1, (fo3 q (by omega)).1, (fo2 q (by omega)).1, (fo1 q (by omega)).1, (fo7 q (by omega)).2, (fo6 q (by omega)).2, (fo5 q (by omega)).2, (fo4 q (by omega)).2, (fo3 q (by omega)).2, (fo2 q (by omega)).2, (fo1 q (by omega)).2]; exact fz0 q h.1 h.2
    · rw [(fo7 q (by omega)).1, (fo6 q (by omega)).1, (fo5 q (by omega)).1, (fo4 q (by omega)).1, (fo3 q (by omega)).1, (fo2 q (by omega)).1, (fo7 q (by omega)).2, (fo6 q (by omega)).2, (fo5 q (by omega)).2, (fo4 q (by omega)).2, (fo3 q (by omega)).2, (fo2 q (by omega)).2]; exact fz1 q h.1 h.2
    · rw [(fo7 q (by omega)).1, (fo6 q (by omega)).1, (fo5 q (by omega)).1, (fo4 q (by omega)).1, (fo3 q (by omega)).1, (fo7 q (by omega)).2, (fo6 q (by omega)).2, (fo5 q (by omega)).2, (fo4 q (by omega)).2, (fo3 q (by omega)).2]; exact fz2 q h.1 h.2
    · rw [(fo7 q (by omega)).1, (fo6 q (by omega)).1, (fo5 q (by omega)).1, (fo4 q (by omega)).1, (fo7 q (by omega)).2, (fo6 q (by omega)).2, (fo5 q (by omega)).2, (fo4 q (by omega)).2]; exact fz3 q h.1 h.2
    · rw [(fo7 q (by omega)).1, (fo6 q (by omega)).1, (fo5 q (by omega)).1, (fo7 q (by omega)).2, (fo6 q (by omega)).2, (fo5 q (by omega)).2]; exact fz4 q h.1 h.2
    · rw [(fo7 q (by omega)).1, (fo6 q (by omega)).1, (fo7 q (by omega)).2, (fo6 q (by omega)).2]; exact fz5 q h.1 h.2
    · rw [(fo7 q (by omega)).1, (fo7 q (by omega)).2]; exact fz6 q h.1 h.2
    · exact fz7 q h.1 h.2
  · rw [(fo7 q (by omega)).1, (fo6 q (by omega)).1, (fo5 q (by omega)).1, (fo4 q (by omega)).1, (fo3 q (by omega)).1, (fo2 q (by omega)).1, (fo1 q (by omega)).1, (fo0 q (by omega)).1, (fo7 q (by omega)).2, (fo6 q (by omega)).2, (fo5 q (by omega)).2, (fo4 q (by omega)).2, (fo3 q (by omega)).2, (fo2 q (by omega)).2, (fo1 q (by omega)).2, (fo0 q (by omega)).2]; exact ⟨rfl, rfl⟩
  · rw [fp7, fp6, fp5, fp4, fp3, fp2, fp1, fp0]
  · rw [fq7 q (by omega) (by omega), fq6 q (by omega) (by omega), fq5 q (by omega) (by omega), fq4 q (by omega) (by omega), fq3 q (by omega) (by omega), fq2 q (by omega) (by omega), fq1 q (by omega) (by omega), fq0 q (by omega) (by omega)]
end AR0
