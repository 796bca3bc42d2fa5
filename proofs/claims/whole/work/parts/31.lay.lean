/-! LAYOUTS: where the cells of a made object lie, from its own address on -/
def ly_T (B : mm_B) (b : Nat) (TL : List (Option Nat)) : Prop := ∀ (k t : Nat), TL[k]? = some (some t) → mm_T B (b + k) = t
def ly_N (B : mm_B) (b : Nat) (NL : List (Option Nat)) : Prop := ∀ (k t : Nat), NL[k]? = some (some t) → mm_N B (b + k) = t
def ly_P (P : mm_TP) (b c : Nat) (PL : List (Nat × Nat × Nat)) : Prop := ∀ (i k j t : Nat), PL[i]? = some (k, j, t) → P (b + k) j = some (c + t)
def lyV_T : List (Option Nat) := [some 111, some 110, some 200, some 200, some 108, some 200, some 200, some 200, some 200, some 200, some 200, some 200, some 200, some 200, some 200, some 204, some 204, some 109, some 107, some 205, some 201, some 200]
def lyV_N : List (Option Nat) := [none, none, some 8, some 32, none, some 320, some 321, some 80, some 80, some 80, some 160, some 80, some 80, some 80, some 80, some 9, some 8, none, none, some 8, some 64, some 1284]
def lyV_P : List (Nat × Nat × Nat) := [(0, 0, 1), (0, 1, 4), (0, 2, 17), (0, 3, 19), (0, 5, 20), (0, 7, 21), (1, 0, 2), (1, 1, 3), (4, 0, 5), (4, 1, 6), (4, 2, 7), (4, 3, 8), (4, 4, 9), (4, 5, 10), (4, 6, 11), (4, 7, 12), (4, 8, 13), (4, 9, 14), (4, 10, 15), (4, 11, 16), (17, 0, 4), (17, 1, 18)]
def lyV (B : mm_B) (P : mm_TP) (x : Nat) : Prop := ly_T B x lyV_T ∧ ly_N B x lyV_N ∧ ly_P P x x lyV_P
def lyC_T : List (Option Nat) := [some 100, some 200, some 105, some 209, some 102, some 200, some 212, some 107, some 107, some 107, some 107, some 200, some 200, some 106, some 200, some 200, some 200, some 101, some 107, some 208, none, none, none, none, none, none, none, none, some 200, some 106, some 200, some 200, some 200]
def lyC_N : List (Option Nat) := [none, some 640, none, some 250, none, some 8, some 4, none, none, none, none, some 320, some 480, none, some 160, some 8, some 8, none, none, some 4, none, none, none, none, none, none, none, none, some 321, none, some 160, some 8, some 8]
def lyC_P : List (Nat × Nat × Nat) := [(0, 0, 1), (0, 2, 2), (0, 3, 4), (0, 4, 17), (2, 0, 3), (4, 3, 13), (4, 4, 5), (4, 5, 6), (4, 6, 11), (4, 7, 12), (13, 0, 14), (13, 1, 15), (13, 2, 16), (17, 2, 29), (17, 3, 18), (17, 4, 19), (17, 5, 28), (29, 0, 30), (29, 1, 31), (29, 2, 32)]
def lyC_O : List (Nat × Nat × Nat) := [(4, 0, 1), (4, 1, 4), (4, 2, 17), (13, 4, 1), (13, 5, 4), (17, 0, 1), (17, 1, 4), (29, 4, 1), (29, 5, 4)]
def lyC (B : mm_B) (P : mm_TP) (x o : Nat) : Prop := ly_T B o lyC_T ∧ ly_N B o lyC_N ∧ ly_P P o o lyC_P ∧ ly_P P o x lyC_O
def lyK_T : List (Option Nat) := [some 106, some 200, some 200, some 200]
def lyK_N : List (Option Nat) := [none, some 160, some 8, some 8]
def lyK_P : List (Nat × Nat × Nat) := [(0, 0, 1), (0, 1, 2), (0, 2, 3)]
def lyK_O : List (Nat × Nat × Nat) := [(0, 4, 1), (0, 5, 4)]
def lyK (B : mm_B) (P : mm_TP) (x o : Nat) : Prop := ly_T B o lyK_T ∧ ly_N B o lyK_N ∧ ly_P P o o lyK_P ∧ ly_P P o x lyK_O
def lyM_T : List (Option Nat) := [some 112, some 200, some 200, some 200, some 200, some 200, some 203, some 200, some 200, some 203, some 200, some 200, some 200, some 200, some 200, some 200, some 200, some 200, some 200, some 200, some 200, some 200, some 200, some 204, some 204, some 200, some 200, some 200, some 200, some 200, some 200, some 200, some 203, some 200, some 200, some 200, some 200, some 200, some 200, some 200, some 200, some 200, some 200, some 200, some 200, some 200, some 200, some 200, some 200, some 200, some 200, some 200, some 200, some 200, some 200, some 200, some 200, some 200, some 200, some 204, some 204, some 204, some 204, some 204]
def lyM_N : List (Option Nat) := [none, some 8, some 64, some 64, some 1400, some 8, some 8, some 16, some 8, some 8, some 8, some 8, some 5120, some 8, some 8, some 2560, some 128, some 128, some 16, some 64, some 8, some 64, some 224, some 32, some 32, some 8, some 2560, some 5120, some 8, some 2000, some 2000, some 4300, some 4300, some 275200, some 8, some 8, some 8, some 8, some 8, some 8, some 8, some 8, some 8, some 8, some 8, some 2576, some 8, some 8, some 32, some 32, some 32, some 32, some 5120, some 320, some 340, some 80, some 80, some 80, some 84, some 80, some 80, some 9, some 9, some 9]
def lyM_P : List (Nat × Nat × Nat) := [(0, 3, 1), (0, 4, 2), (0, 6, 3), (0, 8, 4), (0, 10, 5), (0, 11, 6), (0, 12, 7), (0, 13, 8), (0, 14, 9), (0, 15, 10), (0, 16, 11), (0, 17, 12), (0, 18, 13), (0, 19, 14), (0, 20, 15), (0, 21, 16), (0, 22, 17), (0, 23, 18), (0, 24, 19), (0, 25, 20), (0, 26, 21), (0, 27, 22), (0, 28, 23), (0, 29, 24), (0, 30, 25), (0, 31, 26), (0, 32, 27), (0, 33, 28), (0, 34, 29), (0, 35, 30), (0, 37, 31), (0, 38, 32), (0, 39, 33), (0, 40, 34), (0, 41, 35), (0, 42, 36), (0, 43, 37), (0, 44, 38), (0, 45, 39), (0, 46, 40), (0, 47, 41), (0, 48, 42), (0, 49, 43), (0, 50, 44), (0, 51, 45), (0, 52, 46), (0, 53, 47), (0, 54, 48), (0, 55, 49), (0, 56, 50), (0, 57, 51), (0, 58, 52), (0, 59, 53), (0, 60, 54), (0, 61, 55), (0, 62, 56), (0, 63, 57), (0, 64, 58), (0, 65, 59), (0, 66, 60), (0, 67, 61), (0, 68, 62), (0, 69, 63)]
def lyM (B : mm_B) (P : mm_TP) (x : Nat) : Prop := ly_T B x lyM_T ∧ ly_N B x lyM_N ∧ ly_P P x x lyM_P
/-- the statics' rows: read only, their lengths and contents -/
def ly_G (g : mm_G) (B : mm_B) : Prop := ∀ (i n : Nat), ([4, 52, 3] : List Nat)[i]? = some n → mm_T B (g.2.2 i) = 1 ∧ mm_N B (g.2.2 i) = n
theorem lyK_of13 {B : mm_B} {P : mm_TP} {x o : Nat} (h : lyC B P x o) : lyK B P x (o + 13) := by
  refine ⟨fun k t e => ?_, fun k t e => ?_, fun i k j t e => ?_, fun i k j t e => ?_⟩
  · match k, e with
    | 0, e => cases e; exact h.1 13 _ rfl
    | 1, e => cases e; exact h.1 14 _ rfl
    | 2, e => cases e; exact h.1 15 _ rfl
    | 3, e => cases e; exact h.1 16 _ rfl
  · match k, e with
    | 1, e => cases e; exact h.2.1 14 _ rfl
    | 2, e => cases e; exact h.2.1 15 _ rfl
    | 3, e => cases e; exact h.2.1 16 _ rfl
  · match i, e with
    | 0, e => cases e; exact h.2.2.1 10 _ _ _ rfl
    | 1, e => cases e; exact h.2.2.1 11 _ _ _ rfl
    | 2, e => cases e; exact h.2.2.1 12 _ _ _ rfl
  · match i, e with
    | 0, e => cases e; exact h.2.2.2 3 _ _ _ rfl
    | 1, e => cases e; exact h.2.2.2 4 _ _ _ rfl
theorem lyK_of29 {B : mm_B} {P : mm_TP} {x o : Nat} (h : lyC B P x o) : lyK B P x (o + 29) := by
  refine ⟨fun k t e => ?_, fun k t e => ?_, fun i k j t e => ?_, fun i k j t e => ?_⟩
  · match k, e with
    | 0, e => cases e; exact h.1 29 _ rfl
    | 1, e => cases e; exact h.1 30 _ rfl
    | 2, e => cases e; exact h.1 31 _ rfl
    | 3, e => cases e; exact h.1 32 _ rfl
  · match k, e with
    | 1, e => cases e; exact h.2.1 30 _ rfl
    | 2, e => cases e; exact h.2.1 31 _ rfl
    | 3, e => cases e; exact h.2.1 32 _ rfl
  · match i, e with
    | 0, e => cases e; exact h.2.2.1 17 _ _ _ rfl
    | 1, e => cases e; exact h.2.2.1 18 _ _ _ rfl
    | 2, e => cases e; exact h.2.2.1 19 _ _ _ rfl
  · match i, e with
    | 0, e => cases e; exact h.2.2.2 7 _ _ _ rfl
    | 1, e => cases e; exact h.2.2.2 8 _ _ _ rfl
