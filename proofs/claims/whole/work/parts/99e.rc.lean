/-! THE RELATION between the class's memory and the model's -/
/-- a MEMORY, of side s -/
def VCm (I : mm_TI) (m b s : Nat) : Prop := I (b + 1) = sg (I (m + 15)) (160 * s) 160 ∧ (∀ n, n < 160 → r16 (I (b + 1) n)) ∧ I (b + 2) = sg (I (m + 16)) (8 * s) 8 ∧ I (b + 3) = sg (I (m + 17)) (8 * s) 8 ∧ ∃ L, 20 ≤ L ∧ L ≤ 147 ∧ I b 3 = nI L ∧ I (m + 18) s = nI L
/-- where a coder lies -/
def VCa (B : mm_B) (P : mm_TP) (x m oc : Nat) (fl : Nat → Nat) (c : Nat) : Prop := lyC B P x oc ∧ m + 64 ≤ oc ∧ oc + 33 ≤ mm_nx B ∧ P (x + 19) c = some oc ∧ (∀ i, i < 4 → P (oc + 6) i = some (oc + 7 + i)) ∧ (∀ i, i < 4 → P (oc + 19) i = some (fl i)) ∧ ∀ i, i < 4 → mm_T B (oc + 20 + 2 * i) = 103 ∧ mm_T B (oc + 21 + 2 * i) = 200
def VCw (I : mm_TI) (m oc c : Nat) : Prop := ∃ w, w ≤ 640 ∧ I oc 1 = nI w ∧ I (m + 11) c = nI w ∧ ∀ j, j < w → I (oc + 1) j = I (m + 12) (640 * c + j)
/-- the encoder's settings and what it keeps -/
def VCe (I : mm_TI) (m oc c : Nat) : Prop :=
  (∃ rt, rt ≤ 1 ∧ I (oc + 4) 10 = nI rt ∧ I (m + 5) c = nI rt) ∧ (∃ w, w ≤ 1 ∧ I (oc + 4) 11 = nI w ∧ I (m + 7) (2 * c) = nI w) ∧ (∃ w, w ≤ 1 ∧ I (oc + 4) 12 = nI w ∧ I (m + 7) (2 * c + 1) = nI w) ∧ (∃ em, em ≤ 1 ∧ I (oc + 4) 13 = nI em ∧ I (m + 6) c = nI em) ∧ (∃ rd, rd ≤ 1 ∧ I (oc + 4) 14 = nI rd ∧ I (m + 9) c = nI rd) ∧
  (∃ lv, lv ≤ 32769 ∧ I (oc + 4) 15 = nI lv ∧ I (m + 8) c = nI lv) ∧ (∃ nu, nu < 65536 ∧ I (oc + 4) 16 = nI nu ∧ I (m + 10) c = nI nu) ∧ I (oc + 4) 17 = I (m + 14) c ∧ I (oc + 4) 18 = I (m + 13) c ∧ I (oc + 5) = sg (I (m + 19)) (8 * c) 8
/-- the latest frame, if it was a voice -/
def VCs (I : mm_TI) (J : mm_TJ) (m oc c : Nat) : Prop :=
  ∃ so, so ≤ 2 ∧ I (m + 20) c = nI so ∧ I (oc + 4) 9 = nI (if so = 1 then 1 else 0) ∧ (so = 1 → ∃ sr, sr ≤ 1 ∧ I (oc + 4) 8 = nI sr ∧ I (m + 25) c = nI (40 * (sr + 1)) ∧
    (∀ i k, i < 4 → k < 7 → I (oc + 7 + i) k = I (m + 22) (28 * c + 7 * i + k)) ∧ (∀ i, i < 4 → J (oc + 7 + i) 7 = J (m + 23) (4 * c + i) ∧ J (oc + 7 + i) 8 = J (m + 24) (4 * c + i)) ∧ (∀ i, i < 4 → ∃ L p, 20 ≤ L ∧ L ≤ 147 ∧ p ≤ 7 ∧ I (m + 22) (28 * c + 7 * i) = nI L ∧ I (m + 22) (28 * c + 7 * i + 1) = nI p) ∧
    (∀ j, j < 8 → I (oc + 16) j = I (m + 21) (8 * c + j)) ∧ (∀ n, n < 160 * (sr + 1) → I (oc + 11) n = I (m + 26) (320 * c + n) ∧ r16 (I (oc + 11) n)) ∧ (∀ i n, i < 4 → n < 160 → I (oc + 12) (40 * (sr + 1) * i + n) = I (m + 27) (160 * (4 * c + i) + n) ∧ r16 (I (m + 27) (160 * (4 * c + i) + n))))
/-- the decoder's numbers -/
def VCd (I : mm_TI) (m oc K c : Nat) : Prop :=
  (∃ ot, ot ≤ 321 ∧ I (oc + 17) 6 = nI ot ∧ I (m + 44) c = nI ot ∧ ∀ j, j < ot → I (oc + 28) j = I (m + 45) (322 * c + j) ∧ r16 (I (oc + 28) j)) ∧ (∃ rt, rt ≤ 1 ∧ I (oc + 17) 7 = nI rt ∧ I (m + 34) c = nI rt) ∧ I (oc + 17) 8 = I (m + 35) c ∧ (∃ nx, nx < 65536 ∧ I (oc + 17) 9 = nI nx ∧ I (m + 36) c = nI nx) ∧
  (∃ bd, 1 ≤ bd ∧ bd ≤ 32767 ∧ I (oc + 17) 10 = nI bd ∧ I (m + 46) c = nI bd) ∧ (∃ dr, dr ≤ 2 ∧ I (oc + 17) 11 = oD dr ∧ I (m + 47) c = oD dr) ∧ I (oc + 17) 12 = I (m + 42) c ∧ (∃ de, de ≤ K ∧ I (oc + 17) 15 = nI de ∧ I (m + 38) c = nI de ∧ ((de = 0 ∧ I (m + 43) c = -4) ∨ (0 < de ∧ I (m + 43) c = I (oc + 17) 13 ∧ I (m + 43) c ≠ -4))) ∧
  (∃ rr, rr ≤ K ∧ I (oc + 17) 14 = nI rr ∧ I (m + 37) c = nI rr) ∧ I (oc + 17) 16 = I (m + 39) c ∧ I (oc + 17) 17 = I (m + 40) c ∧ I (oc + 17) 18 = I (m + 41) c
def VCf (B : mm_B) (I : mm_TI) (J : mm_TJ) (P : mm_TP) (m : Nat) (fl : Nat → Nat) (c : Nat) : Prop := ∀ i, i < 4 → ∃ (k z : Nat) (c0 g0 : Int32) (K : Nat → Int32), FSc B I J P (fl i) k z c0 g0 K ∧ FSm I m (4 * c + i) k z c0 g0 K
/-- a frame of the line -/
def VFr (B : mm_B) (I : mm_TI) (P : mm_TP) (m R : Nat) (ρ : Nat → Nat) (fr j : Nat) : Prop :=
  mm_T B fr = 104 ∧ fr < mm_nx B ∧ I fr 0 = I (m + 29) j ∧ ((I (m + 30) j = nI 0 ∧ P fr 1 = none ∧ P fr 2 = none) ∨ ∃ r, r < R ∧ I (m + 30) j = nI (r + 1) ∧ ((I (m + 32) r = nI 0 ∧ P fr 1 = some (ρ r) ∧ P fr 2 = none) ∨ (I (m + 32) r = nI 1 ∧ P fr 1 = none ∧ P fr 2 = some (ρ r))))
def VCl (B : mm_B) (I : mm_TI) (P : mm_TP) (m oc R : Nat) (φ ρ : Nat → Nat) (c : Nat) : Prop := ∃ L, L ≤ 250 ∧ I (oc + 2) 1 = nI L ∧ I (m + 28) c = nI L ∧ (∀ i, i < L → P (oc + 3) i = some (φ i) ∧ oc + 33 ≤ φ i ∧ VFr B I P m R ρ (φ i) (250 * c + i)) ∧ ∀ i j, i < L → j < L → φ i = φ j → i = j
/-- a coder -/
def VC (B : mm_B) (I : mm_TI) (J : mm_TJ) (P : mm_TP) (x m oc R K : Nat) (fl φ ρ : Nat → Nat) (c : Nat) : Prop := VCa B P x m oc fl c ∧ VCw I m oc c ∧ VCe I m oc c ∧ VCs I J m oc c ∧ VCm I m (oc + 13) (2 * c) ∧ VCd I m oc K c ∧ VCm I m (oc + 29) (2 * c + 1) ∧ VCf B I J P m fl c ∧ VCl B I P m oc R φ ρ c
/-- a row of bytes or shorts -/
def VRw (B : mm_B) (I : mm_TI) (m r a : Nat) : Prop := m + 64 ≤ a ∧ a < mm_nx B ∧ ∃ ln, ln ≤ 64 ∧ mm_N B a = ln ∧ I (m + 31) r = nI ln ∧ (∀ k, k < ln → I a k = I (m + 33) (64 * r + k)) ∧ ((I (m + 32) r = nI 0 ∧ mm_T B a = 201 ∧ ∀ k, k < ln → b8 (I a k) = I a k) ∨ (I (m + 32) r = nI 1 ∧ mm_T B a = 202 ∧ ∀ k, k < ln → -256 ≤ (I a k).toInt ∧ (I a k).toInt ≤ 255))
/-- what all coders share -/
def RCg (g : mm_G) (B : mm_B) (I : mm_TI) (J : mm_TJ) (P : mm_TP) (x m n R : Nat) (ρ : Nat → Nat) : Prop :=
  (∀ q, mm_nx B ≤ q → mm_T B q = 0) ∧ lyV B P x ∧ lyM B P m ∧ ly_G g B ∧ st_c g I ∧ (∀ i, i < 3 → g.2.2 i < x) ∧ x + 22 ≤ m ∧ m + 64 ≤ mm_nx B ∧ n ≤ 8 ∧ I x 4 = nI n ∧ I m 0 = nI n ∧ J (x + 1) 3 = J m 2 ∧ (∀ k, k < 8 → I (x + 2) k = I (m + 1) k) ∧ (∃ t, t ≤ 32 ∧ I (x + 1) 2 = nI t ∧ I m 5 = nI t ∧ ∀ i, i < t → I (x + 3) i = I (m + 2) i) ∧
  (∃ t, t ≤ 64 ∧ I x 6 = nI t ∧ I m 7 = nI t ∧ ∀ i, i < t → I (x + 20) i = I (m + 3) i ∧ b8 (I (x + 20) i) = I (x + 20) i) ∧ (∃ b, b ≤ 1284 ∧ I x 8 = nI b ∧ I m 9 = nI b ∧ ∀ i, i < b → I (x + 21) i = I (m + 4) i) ∧
  (∀ k, 5 ≤ k → k ≤ 14 → I (x + k) = fun _ => 0) ∧ (∀ k, k < 9 → J (x + 15) k = 0) ∧ (∀ k, k < 8 → J (x + 16) k = 0) ∧ I m 36 = nI R ∧ (∀ r, r < R → VRw B I m r (ρ r)) ∧ (∀ r s, r < R → s < R → ρ r = ρ s → r = s)
/-- a frame of coder c's line -/
def VCp (I : mm_TI) (m : Nat) (φ : Nat → Nat) (c q : Nat) : Prop := ∃ L i, I (m + 28) c = nI L ∧ L ≤ 250 ∧ i < L ∧ q = φ i
/-- coders lie apart -/
def RCx (m n : Nat) (o : Nat → Nat) (fl : Nat → Nat → Nat) : Prop :=
  (∀ c d, c < n → d < n → c ≠ d → o c + 33 ≤ o d ∨ o d + 33 ≤ o c) ∧ (∀ c i, c < n → i < 4 → m + 64 ≤ fl c i ∧ ∀ d, d < n → fl c i + 1 < o d ∨ o d + 33 ≤ fl c i ∨ (c = d ∧ fl c i = o c + 20 + 2 * i)) ∧ (∀ c d i j, c < n → d < n → i < 4 → j < 4 → (c ≠ d ∨ i ≠ j) → fl c i ≠ fl d j ∧ fl c i ≠ fl d j + 1)
def RC (g : mm_G) (B : mm_B) (I : mm_TI) (J : mm_TJ) (P : mm_TP) (x m n R K : Nat) (o : Nat → Nat) (fl φ : Nat → Nat → Nat) (ρ : Nat → Nat) : Prop :=
  RCg g B I J P x m n R ρ ∧ I x 9 = I m 1 ∧ RCx m n o fl ∧ (∀ c, c < n → VC B I J P x m (o c) R K (fl c) (φ c) ρ c) ∧ ∀ c d q, c < n → d < n → VCp I m (φ c) c q → VCp I m (φ d) d q → c = d
/-! a coder is untouched where neither its cells nor its stretches of the model's rows are -/
/-- cells a coder of the model's row k -/
def szM (k : Nat) : Nat := if k = 7 ∨ k = 18 then 2 else if k = 12 ∨ k = 27 ∨ k = 52 then 640 else if k = 15 ∨ k = 26 then 320 else if k = 16 ∨ k = 17 then 16 else if k = 19 ∨ k = 21 then 8 else if k = 22 then 28 else if k = 29 ∨ k = 30 then 250 else if k = 45 then 322 else if 48 ≤ k ∧ k ≤ 51 then 4 else 1
def VCq (oc : Nat) (fl : Nat → Nat) (q : Nat) : Prop := (oc ≤ q ∧ q < oc + 33) ∨ ∃ i, i < 4 ∧ (q = fl i ∨ q = fl i + 1)
theorem sg_cg {f h : Nat → Int32} {a n : Nat} (e : ∀ j, a ≤ j → j < a + n → f j = h j) : sg f a n = sg h a n := by
  funext k
  unfold sg
  by_cases c : k < n
  · rw [if_pos c, if_pos c]; exact e _ (by omega) (by omega)
  · rw [if_neg c, if_neg c]
section RCC
variable {g : mm_G} {B B' : mm_B} {I I' : mm_TI} {J J' : mm_TJ} {P P' : mm_TP} {x m oc R K R' : Nat} {fl φ ρ ρ' : Nat → Nat} {c : Nat}
theorem VCm_cg {b s : Nat} (h : VCm I m b s) (h1 : I' (b + 1) = I (b + 1)) (h2 : I' (b + 2) = I (b + 2)) (h3 : I' (b + 3) = I (b + 3)) (h0 : I' b = I b) (e1 : ∀ j, 160 * s ≤ j → j < 160 * s + 160 → I' (m + 15) j = I (m + 15) j) (e2 : ∀ j, 8 * s ≤ j → j < 8 * s + 8 → I' (m + 16) j = I (m + 16) j) (e3 : ∀ j, 8 * s ≤ j → j < 8 * s + 8 → I' (m + 17) j = I (m + 17) j) (e4 : I' (m + 18) s = I (m + 18) s) : VCm I' m b s := by
  unfold VCm
  rw [h1, h2, h3, h0, sg_cg e1, sg_cg e2, sg_cg e3, e4]
  exact h
theorem VC_cg (h : VC B I J P x m oc R K fl φ ρ c) (hB : ∀ q, mm_T B q ≠ 0 → mm_T B' q = mm_T B q ∧ mm_N B' q = mm_N B q) (hx : mm_nx B ≤ mm_nx B') (hqI : ∀ q, VCq oc fl q → I' q = I q ∧ J' q = J q ∧ P' q = P q) (hc : P' (x + 19) c = P (x + 19) c)
    (hL : lyC B' P' x oc) (hf : VCl B' I' P' m oc R' φ ρ' c) (hs : ∀ k j, k < 31 ∨ 33 < k → k ≠ 30 → 5 ≤ k → k ≤ 52 → szM k * c ≤ j → j < szM k * c + szM k → I' (m + k) j = I (m + k) j) (hJ : ∀ j, 4 * c ≤ j → j < 4 * c + 4 → J' (m + 23) j = J (m + 23) j ∧ J' (m + 24) j = J (m + 24) j) : VC B' I' J' P' x m oc R' K fl φ ρ' c := by
  obtain ⟨⟨a1, a2, a3, a4, a5, a6, a7⟩, hw, he, hsp, hm1, hd, hm2, hfi, hl⟩ := h
  have qb : ∀ k, k < 33 → I' (oc + k) = I (oc + k) ∧ J' (oc + k) = J (oc + k) ∧ P' (oc + k) = P (oc + k) := fun k hk => hqI _ (Or.inl ⟨by omega, by omega⟩)
  have q0 : I' oc = I oc := (hqI _ (Or.inl ⟨by omega, by omega⟩)).1
  have s1 : ∀ k, k = 5 ∨ k = 6 ∨ k = 8 ∨ k = 9 ∨ k = 10 ∨ k = 11 ∨ k = 13 ∨ k = 14 ∨ k = 20 ∨ k = 25 ∨ k = 28 ∨ (34 ≤ k ∧ k ≤ 44) ∨ k = 46 ∨ k = 47 → I' (m + k) c = I (m + k) c := fun k hk => by
    have e : szM k = 1 := by unfold szM; rw [if_neg (by omega), if_neg (by omega), if_neg (by omega), if_neg (by omega), if_neg (by omega), if_neg (by omega), if_neg (by omega), if_neg (by omega), if_neg (by omega)]
    exact hs k c (by omega) (by omega) (by omega) (by omega) (by rw [e]; omega) (by rw [e]; omega)
  refine ⟨⟨hL, a2, by omega, by rw [hc]; exact a4, fun i hi => ?_, fun i hi => ?_, fun i hi => ?_⟩, ?_, ?_, ?_, ?_, ?_, ?_, ?_, hf⟩
  · rw [(qb 6 (by omega)).2.2]; exact a5 i hi
  · rw [(qb 19 (by omega)).2.2]; exact a6 i hi
  · obtain ⟨t1, t2⟩ := a7 i hi
    rw [(hB _ (by omega)).1, (hB _ (by omega)).1]; exact ⟨t1, t2⟩
  · obtain ⟨w, w1, w2, w3, w4⟩ := hw
    refine ⟨w, w1, by rw [q0]; exact w2, by rw [s1 11 (by omega)]; exact w3, fun j hj => ?_⟩
    rw [(qb 1 (by omega)).1, w4 j hj, hs 12 _ (by omega) (by omega) (by omega) (by omega) (by show 640 * c ≤ _; omega) (by show _ < 640 * c + 640; omega)]
  · unfold VCe
    rw [(qb 4 (by omega)).1, (qb 5 (by omega)).1, s1 5 (by omega), s1 6 (by omega), s1 8 (by omega), s1 9 (by omega), s1 10 (by omega), s1 13 (by omega), s1 14 (by omega), hs 7 (2 * c) (by omega) (by omega) (by omega) (by omega) (by show 2 * c ≤ _; omega) (by show _ < 2 * c + 2; omega), hs 7 (2 * c + 1) (by omega) (by omega) (by omega) (by omega) (by show 2 * c ≤ _; omega) (by show _ < 2 * c + 2; omega), sg_cg (fun j j1 j2 => hs 19 j (by omega) (by omega) (by omega) (by omega) (by show 8 * c ≤ _; omega) (by show _ < 8 * c + 8; omega))]
    exact he
  · obtain ⟨so, p1, p2, p3, p4⟩ := hsp
    refine ⟨so, p1, by rw [s1 20 (by omega)]; exact p2, by rw [(qb 4 (by omega)).1]; exact p3, fun e => ?_⟩
    obtain ⟨sr, r1, r2, r3, r4, r5, r6, r7, r8, r9⟩ := p4 e
    have k22 : ∀ i k, i < 4 → k < 7 → I' (m + 22) (28 * c + 7 * i + k) = I (m + 22) (28 * c + 7 * i + k) := fun i k hi hk => hs 22 _ (by omega) (by omega) (by omega) (by omega) (by show 28 * c ≤ _; omega) (by show _ < 28 * c + 28; omega)
    refine ⟨sr, r1, by rw [(qb 4 (by omega)).1]; exact r2, by rw [s1 25 (by omega)]; exact r3, fun i k hi hk => ?_, fun i hi => ?_, fun i hi => ?_, fun j hj => ?_, fun n hn => ?_, fun i n hi hn => ?_⟩
    · rw [show oc + 7 + i = oc + (7 + i) by omega, (qb (7 + i) (by omega)).1, k22 i k hi hk, show oc + (7 + i) = oc + 7 + i by omega]; exact r4 i k hi hk
    · rw [show oc + 7 + i = oc + (7 + i) by omega, (qb (7 + i) (by omega)).2.1, (hJ _ (show 4 * c ≤ 4 * c + i by omega) (by omega)).1, (hJ _ (show 4 * c ≤ 4 * c + i by omega) (by omega)).2, show oc + (7 + i) = oc + 7 + i by omega]; exact r5 i hi
    · obtain ⟨L, p, l1, l2, l3, l4, l5⟩ := r6 i hi
      have k0 := k22 i 0 hi (by omega)
      simp only [Nat.add_zero] at k0
      exact ⟨L, p, l1, l2, l3, by rw [k0]; exact l4, by rw [k22 i 1 hi (by omega)]; exact l5⟩
    · rw [(qb 16 (by omega)).1, hs 21 _ (by omega) (by omega) (by omega) (by omega) (by show 8 * c ≤ _; omega) (by show _ < 8 * c + 8; omega)]; exact r7 j hj
    · rw [(qb 11 (by omega)).1, hs 26 _ (by omega) (by omega) (by omega) (by omega) (by show 320 * c ≤ _; omega) (by show _ < 320 * c + 320; omega)]; exact r8 n hn
    · rw [(qb 12 (by omega)).1, hs 27 _ (by omega) (by omega) (by omega) (by omega) (by show 640 * c ≤ _; omega) (by show _ < 640 * c + 640; omega)]; exact r9 i n hi hn
  · exact VCm_cg hm1 (qb 14 (by omega)).1 (qb 15 (by omega)).1 (qb 16 (by omega)).1 (qb 13 (by omega)).1 (fun j j1 j2 => hs 15 j (by omega) (by omega) (by omega) (by omega) (by show 320 * c ≤ _; omega) (by show _ < 320 * c + 320; omega)) (fun j j1 j2 => hs 16 j (by omega) (by omega) (by omega) (by omega) (by show 16 * c ≤ _; omega) (by show _ < 16 * c + 16; omega)) (fun j j1 j2 => hs 17 j (by omega) (by omega) (by omega) (by omega) (by show 16 * c ≤ _; omega) (by show _ < 16 * c + 16; omega)) (hs 18 _ (by omega) (by omega) (by omega) (by omega) (by show 2 * c ≤ _; omega) (by show _ < 2 * c + 2; omega))
  · obtain ⟨⟨ot, o1, o2, o3, o4⟩, hrest⟩ := hd
    refine ⟨⟨ot, o1, by rw [(qb 17 (by omega)).1]; exact o2, by rw [s1 44 (by omega)]; exact o3, fun j hj => ?_⟩, ?_⟩
    · rw [(qb 28 (by omega)).1, hs 45 _ (by omega) (by omega) (by omega) (by omega) (by show 322 * c ≤ _; omega) (by show _ < 322 * c + 322; omega)]; exact o4 j hj
    · rw [(qb 17 (by omega)).1, s1 34 (by omega), s1 35 (by omega), s1 36 (by omega), s1 37 (by omega), s1 38 (by omega), s1 39 (by omega), s1 40 (by omega), s1 41 (by omega), s1 42 (by omega), s1 43 (by omega), s1 46 (by omega), s1 47 (by omega)]
      exact hrest
  · exact VCm_cg hm2 (qb 30 (by omega)).1 (qb 31 (by omega)).1 (qb 32 (by omega)).1 (qb 29 (by omega)).1 (fun j j1 j2 => hs 15 j (by omega) (by omega) (by omega) (by omega) (by show 320 * c ≤ _; omega) (by show _ < 320 * c + 320; omega)) (fun j j1 j2 => hs 16 j (by omega) (by omega) (by omega) (by omega) (by show 16 * c ≤ _; omega) (by show _ < 16 * c + 16; omega)) (fun j j1 j2 => hs 17 j (by omega) (by omega) (by omega) (by omega) (by show 16 * c ≤ _; omega) (by show _ < 16 * c + 16; omega)) (hs 18 _ (by omega) (by omega) (by omega) (by omega) (by show 2 * c ≤ _; omega) (by show _ < 2 * c + 2; omega))
  · intro i hi
    obtain ⟨k, z, c0, g0, K, f1, f2⟩ := hfi i hi
    obtain ⟨u1, u2, u3⟩ := hqI (fl i) (Or.inr ⟨i, hi, Or.inl rfl⟩)
    obtain ⟨v1, v2, v3⟩ := hqI (fl i + 1) (Or.inr ⟨i, hi, Or.inr rfl⟩)
    refine ⟨k, z, c0, g0, K, ?_, ?_⟩
    · obtain ⟨t1, t2, t3, t4, t5, t6, t7, t8, t9⟩ := f1
      refine ⟨by rw [(hB _ (by omega)).1]; exact t1, by rw [u3]; exact t2, by rw [(hB _ (by omega)).1]; exact t3, t4, by rw [u1]; exact t5, fun e => ⟨by rw [(hB _ (by omega)).2]; exact (t6 e).1, by rw [v1]; exact (t6 e).2⟩, by rw [u2]; exact t7, by rw [u1]; exact t8, by rw [u1]; exact t9⟩
    · unfold FSm at f2 ⊢
      rw [hs 48 (4 * c + i) (by omega) (by omega) (by omega) (by omega) (by show 4 * c ≤ _; omega) (by show _ < 4 * c + 4; omega), hs 49 (4 * c + i) (by omega) (by omega) (by omega) (by omega) (by show 4 * c ≤ _; omega) (by show _ < 4 * c + 4; omega), hs 50 (4 * c + i) (by omega) (by omega) (by omega) (by omega) (by show 4 * c ≤ _; omega) (by show _ < 4 * c + 4; omega), hs 51 (4 * c + i) (by omega) (by omega) (by omega) (by omega) (by show 4 * c ≤ _; omega) (by show _ < 4 * c + 4; omega)]
      refine ⟨f2.1, f2.2.1, fun e j hj => ?_, f2.2.2.2⟩
      rw [hs 52 _ (by omega) (by omega) (by omega) (by omega) (by show 640 * c ≤ _; omega) (by show _ < 640 * c + 640; omega)]; exact f2.2.2.1 e j hj
end RCC
