/-! WORDS OF THE SPECIFICATION: numbers, segments of rows -/
/-- (a b + 16384) >> 15, as both sides have it -/
def sp_half (p q : Int64) : Int64 := (p * q + 16384) >>> ((nI 15).toInt64 &&& 63)
/-- the document's S, and whether it saturates -/
def sp_S (w : Int64) : Int32 := if w < -32768 then -32768 else if 32767 < w then 32767 else w.toInt32
def sp_t (w : Int64) : Int64 := if w < -32768 ∨ 32767 < w then 1 else 0
/-- the document's W -/
def sp_W (w : Int64) : Int64 := if w < -2147483648 then -2147483648 else if 2147483647 < w then 2147483647 else w
def sp_tW (w : Int64) : Int64 := if w < -2147483648 ∨ 2147483647 < w then 1 else 0
/-- a long of an object grows -/
def sp_up (J : mm_TJ) (q j : Nat) (s : Int64) : mm_TJ := va_up J q (va_up (J q) j (J q j + s))
theorem va_up_id {α : Type} (f : Nat → α) (k : Nat) : va_up f k (f k) = f := by
  funext j; by_cases h : j = k
  · subst h; simp [va_up]
  · simp [va_up, h]
theorem va_up_s {α : Type} (f : Nat → α) (k : Nat) (v : α) : va_up f k v k = v := by simp [va_up]
theorem va_up_n {α : Type} (f : Nat → α) {k j : Nat} (v : α) (h : j ≠ k) : va_up f k v j = f j := by simp [va_up, h]
theorem sp_up_0 (J : mm_TJ) (q j : Nat) : sp_up J q j 0 = J := by
  unfold sp_up
  rw [Int64.add_zero, va_up_id, va_up_id]
theorem sp_up_up (J : mm_TJ) (q j : Nat) (s t : Int64) : sp_up (sp_up J q j s) q j t = sp_up J q j (s + t) := by
  unfold sp_up
  rw [va_up_s, bx_uu, va_up_s, bx_uu, Int64.add_assoc]
/-- a stretch of a row, as a row of its own: 0 behind its end -/
def sg (f : Nat → Int32) (off len : Nat) : Nat → Int32 := fun k => if k < len then f (off + k) else 0
/-- a stretch is laid into a row -/
def sgp (f : Nat → Int32) (off len : Nat) (v : Nat → Int32) : Nat → Int32 := fun k => if off ≤ k ∧ k < off + len then v (k - off) else f k
theorem sgp_in {f v : Nat → Int32} {off len k : Nat} (h : k < len) : sgp f off len v (off + k) = v k := by
  unfold sgp
  rw [if_pos ⟨by omega, by omega⟩]
  congr 1; omega
theorem sgp_out {f v : Nat → Int32} {off len k : Nat} (h : k < off ∨ off + len ≤ k) : sgp f off len v k = f k := by
  unfold sgp
  rw [if_neg (by omega)]
theorem sgp_up {f v : Nat → Int32} {off len k : Nat} {x : Int32} (h : k < len) : va_up (sgp f off len v) (off + k) x = sgp f off len (va_up v k x) := by
  funext j
  by_cases e : j = off + k
  · subst e
    rw [va_up_s, sgp_in h, va_up_s]
  · rw [va_up_n _ _ e]
    unfold sgp
    by_cases c : off ≤ j ∧ j < off + len
    · rw [if_pos c, if_pos c, va_up_n _ _ (by omega)]
    · rw [if_neg c, if_neg c]
theorem sgp_sg (f : Nat → Int32) (off len : Nat) : sgp f off len (sg f off len) = f := by
  funext j
  unfold sgp sg
  by_cases c : off ≤ j ∧ j < off + len
  · rw [if_pos c, if_pos (by omega)]; congr 1; omega
  · rw [if_neg c]
theorem sg_sgp {f v : Nat → Int32} {off len : Nat} (h : ∀ k, len ≤ k → v k = 0) : sg (sgp f off len v) off len = v := by
  funext k
  unfold sg
  by_cases c : k < len
  · rw [if_pos c, sgp_in c]
  · rw [if_neg c, h k (by omega)]
theorem sg_in {f : Nat → Int32} {off len k : Nat} (h : k < len) : sg f off len k = f (off + k) := by unfold sg; rw [if_pos h]
theorem sgp_sgp {f v w : Nat → Int32} {off len : Nat} : sgp (sgp f off len v) off len w = sgp f off len w := by
  funext j
  unfold sgp
  by_cases c : off ≤ j ∧ j < off + len
  · rw [if_pos c, if_pos c]
  · rw [if_neg c, if_neg c, if_neg c]
theorem va_comm {α : Type} (f : Nat → α) {a b : Nat} (x y : α) (h : a ≠ b) : va_up (va_up f a x) b y = va_up (va_up f b y) a x := by
  funext j
  by_cases h1 : j = a
  · subst h1; rw [va_up_n _ _ h, va_up_s, va_up_s]
  · by_cases h2 : j = b
    · subst h2; rw [va_up_s, va_up_n _ _ h1, va_up_s]
    · rw [va_up_n _ _ h2, va_up_n _ _ h1, va_up_n _ _ h1, va_up_n _ _ h2]
theorem va_3 {α : Type} (f : Nat → α) {a b : Nat} (x y z : α) (h : a ≠ b) : va_up (va_up (va_up f a x) b y) a z = va_up (va_up f a z) b y := by
  rw [va_comm f x y h, bx_uu, va_comm f y z (fun e => h e.symm)]
theorem sgp_0 (f v : Nat → Int32) (off : Nat) : sgp f off 0 v = f := by
  funext j; unfold sgp; rw [if_neg (by omega)]
theorem sgp_grow {f v : Nat → Int32} {off n : Nat} {x : Int32} (h : x = v n) : va_up (sgp f off n v) (off + n) x = sgp f off (n + 1) v := by
  subst h
  funext j
  by_cases e : j = off + n
  · subst e; rw [va_up_s, sgp_in (by omega)]
  · rw [va_up_n _ _ e]
    unfold sgp
    by_cases c : off ≤ j ∧ j < off + n
    · rw [if_pos c, if_pos (by omega)]
    · rw [if_neg c, if_neg (by omega)]
