/-! FRAMING -/
def i_abs (v : Int32) : Int32 := if 0 ≤ v then v else 0 - v
def i_max (a b : Int32) : Int32 := if a < b then b else a
theorem i_max_t (a b : Int32) : (i_max a b).toInt = max a.toInt b.toInt := by
  unfold i_max
  by_cases h : a < b
  · rw [if_pos h]; have := Int32.lt_iff_toInt_lt.mp h; omega
  · rw [if_neg h]; have := mt Int32.lt_iff_toInt_lt.mpr h; omega
theorem i64_sc (a b c : Int64) : a - (b + c) + c = a - b := by
  rw [Int64.sub_eq_add_neg, Int64.neg_add, Int64.sub_eq_add_neg, Int64.add_assoc, Int64.add_assoc, Int64.add_left_neg, Int64.add_zero, Int64.sub_eq_add_neg]
theorem i_max_c (a b c : Int32) : i_max a (i_max b c) = i_max (i_max a c) b := by
  apply Int32.toInt_inj.mp
  simp only [i_max_t]
  omega
def sp_fb (W : Nat → Int32) (raw : Int32) (i : Nat) : Int32 := if i = 0 then raw else W (i - 1)
def sp_fw (W : Nat → Int32) (raw : Int32) (i : Nat) : Int64 := (W i).toInt64 - sp_half (sp_fb W raw i).toInt64 22282
def sp_fX (em : Nat) (W : Nat → Int32) (raw : Int32) (i : Nat) : Int32 := if em = 0 then W i else sp_S (sp_fw W raw i)
def sp_ft (em : Nat) (W : Nat → Int32) (raw : Int32) (i : Nat) : Int64 := if em = 0 then 0 else sp_t (sp_fw W raw i)
def sp_fT (em : Nat) (W : Nat → Int32) (raw : Int32) : Nat → Int64
  | 0 => 0
  | n + 1 => sp_fT em W raw n + sp_ft em W raw n
def sp_fP (em : Nat) (W : Nat → Int32) (raw : Int32) : Nat → Int32
  | 0 => 0
  | n + 1 => i_max (sp_fP em W raw n) (i_abs (sp_fX em W raw n))
/-- backwards, d numbers from the n-th down -/
def sp_bP (em : Nat) (W : Nat → Int32) (raw : Int32) (n : Nat) : Nat → Int32
  | 0 => 0
  | d + 1 => i_max (sp_bP em W raw n d) (i_abs (sp_fX em W raw (n - (d + 1))))
theorem sp_bP_e {em : Nat} {W : Nat → Int32} {raw : Int32} {n : Nat} : ∀ d, d ≤ n → i_max (sp_fP em W raw (n - d)) (sp_bP em W raw n d) = sp_fP em W raw n := by
  intro d
  induction d with
  | zero =>
    intro _
    show i_max (sp_fP em W raw n) 0 = _
    apply Int32.toInt_inj.mp
    rw [i_max_t]
    have : 0 ≤ (sp_fP em W raw n).toInt := by
      cases n with
      | zero => show 0 ≤ (0 : Int32).toInt; decide
      | succ n =>
        have h0 : ∀ k, 0 ≤ (sp_fP em W raw k).toInt := by
          intro k
          induction k with
          | zero => show 0 ≤ (0 : Int32).toInt; decide
          | succ k ih => show 0 ≤ (i_max _ _).toInt; rw [i_max_t]; omega
        exact h0 _
    rw [show (0 : Int32).toInt = 0 from rfl]
    omega
  | succ d ih =>
    intro hd
    show i_max _ (i_max (sp_bP em W raw n d) (i_abs (sp_fX em W raw (n - (d + 1))))) = _
    rw [i_max_c]
    have e : n - d = n - (d + 1) + 1 := by omega
    rw [← ih (by omega), e]
    rfl
theorem sp_bP_f {em : Nat} {W : Nat → Int32} {raw : Int32} {n : Nat} : sp_bP em W raw n n = sp_fP em W raw n := by
  have e := sp_bP_e (em := em) (W := W) (raw := raw) (n := n) n (Nat.le_refl _)
  rw [Nat.sub_self] at e
  rw [← e]
  apply Int32.toInt_inj.mp
  rw [i_max_t]
  have h0 : ∀ k, 0 ≤ (sp_bP em W raw n k).toInt := by
    intro k
    induction k with
    | zero => show 0 ≤ (0 : Int32).toInt; decide
    | succ k ih => show 0 ≤ (i_max _ _).toInt; rw [i_max_t]; omega
  have := h0 n
  rw [show (sp_fP em W raw 0).toInt = 0 from rfl]
  omega
theorem sp_ac_cg {X X' : Nat → Int32} {k n : Nat} (h : ∀ j, j < n → X j = X' j) : ∀ d, k + d ≤ n → sp_ac X k d = sp_ac X' k d := by
  intro d
  induction d with
  | zero => intro _; rfl
  | succ d ih =>
    intro hd
    show sp_ac X k d + (X (k + d)).toInt64 * (X d).toInt64 = sp_ac X' k d + (X' (k + d)).toInt64 * (X' d).toInt64
    rw [ih (by omega), h _ (by omega), h d (by omega)]
theorem sp_ar_cg {X X' : Nat → Int32} {n : Nat} (h : ∀ j, j < n → X j = X' j) (k : Nat) (hk : k ≤ n) : sp_ar X n k = sp_ar X' n k := by
  unfold sp_ar
  rw [sp_ac_cg h (n - k) (by omega), sp_ac_cg h n (by omega)]
section MFR
variable {g : mm_G} {B : mm_B} {I : mm_TI} {J : mm_TJ} {P : mm_TP} {m : Nat}
theorem lp_X12_fr {c N sb em : Nat} {W : Nat → Int32} {raw : Int32} {Z : mm_Z} (hM : lyM B P m) (hc8 : c < 8) (hN : N ≤ 320) (hem : I (m + 6) c = nI em) (hem1 : em ≤ 1) (hW : ∀ n, n < N → I (m + 12) (640 * c + n) = W n) (hr : I (m + 13) c = raw)
    (K : Ev g mX12_encode 231 [some (.ref m), some (.int (nI c)), some (.int (nI N)), some (.int (nI sb)), some (.int (sp_fP em W raw N)), none, none, none, none, none, none, none] [] B (va_up I (m + 53) (sgp (I (m + 53)) 0 N (sp_fX em W raw))) (sp_up J m 2 (sp_fT em W raw N)) P Z) : ∀ (d i : Nat), i + d = N →
    Ev g mX12_encode 89 [some (.ref m), some (.int (nI c)), some (.int (nI N)), some (.int (nI sb)), some (.int (sp_fP em W raw i)), some (.int (nI i)), none, none, none, none, none, none] [] B (va_up I (m + 53) (sgp (I (m + 53)) 0 i (sp_fX em W raw))) (sp_up J m 2 (sp_fT em W raw i)) P Z := by
  intro d
  induction d with
  | zero =>
    intro i hi
    obtain rfl : i = N := by omega
    refine ev_iload 91 dX12_encode_89 rfl rfl ?_
    refine ev_iload_n 92 dX12_encode_91 rfl rfl ?_
    refine ev_icmp_geN 95 231 dX12_encode_92 (by decide) (by omega) (by omega) rfl (fun hbr => ?_) (fun hx => absurd ((by omega)) hx)
    refine ev_le (mle_s (mle_s (mle_s (mle_s (mle_s (mle_n (mle_n (mle_n (mle_n (mle_n (mle_n (mle_n (mle_0))))))))))))) ?_
    exact K
  | succ d ih =>
    intro i hi
    have e := ih (i + 1) (by omega)
    rw [← sg0_grow (w := sp_fX em W raw i) rfl, show sp_fT em W raw (i + 1) = sp_fT em W raw i + sp_ft em W raw i from rfl, ← sp_up_up, show sp_fP em W raw (i + 1) = i_max (sp_fP em W raw i) (i_abs (sp_fX em W raw i)) from rfl] at e
    have n6 : ∀ f, va_up I (m + 53) f (m + 6) c = nI em := fun f => by rw [va_up_n _ _ (by omega)]; exact hem
    have n12 : ∀ f n, n < N → va_up I (m + 53) f (m + 12) (640 * c + n) = W n := fun f n hn => by rw [va_up_n _ _ (by omega)]; exact hW n hn
    generalize hT : sp_up J m 2 (sp_fT em W raw i) = J1 at e ⊢
    generalize hF : sgp (I (m + 53)) 0 i (sp_fX em W raw) = F at e ⊢
    -- behind the size
    have k3 : ∀ (s w b : Int32), s = i_abs (sp_fX em W raw i) → Ev g mX12_encode 209 [some (.ref m), some (.int (nI c)), some (.int (nI N)), some (.int (nI sb)), some (.int (sp_fP em W raw i)), some (.int (nI i)), some (.int w), some (.int b), some (.int s), none, none, none] [] B (va_up I (m + 53) (va_up F i (sp_fX em W raw i))) (sp_up J1 m 2 (sp_ft em W raw i)) P Z := by
      intro s w b hs
      subst hs
      refine ev_iload 211 dX12_encode_209 rfl rfl ?_
      refine ev_iload 213 dX12_encode_211 rfl rfl ?_
      refine ev_icmp_le 216 221 dX12_encode_213 (by decide) rfl (fun hle => ?_) (fun hle => ?_)
      · rw [show i_max (sp_fP em W raw i) (i_abs (sp_fX em W raw i)) = sp_fP em W raw i by unfold i_max; rw [if_neg (Int32.not_lt.mpr hle)]] at e
        refine ev_iload 223 dX12_encode_221 rfl rfl ?_
        refine ev_istore 225 (lv' := [_, _, _, some (.int _), _, _, _, _, _, _, _, _]) dX12_encode_223 (Nat.le_of_ble_eq_true rfl) rfl rfl ?_
        refine ev_iincN 228 (lv' := [_, _, _, _, some (.int _), _, _, _, _, _, _, _]) 1 dX12_encode_225 rfl (Nat.le_of_ble_eq_true rfl) rfl rfl ?_
        refine ev_goto 89 dX12_encode_228 (by decide) ?_
        refine ev_le (mle_s (mle_s (mle_s (mle_s (mle_s (mle_s (mle_n (mle_n (mle_n (mle_n (mle_n (mle_n (mle_0))))))))))))) ?_
        exact e
      · rw [show i_max (sp_fP em W raw i) (i_abs (sp_fX em W raw i)) = i_abs (sp_fX em W raw i) by unfold i_max; rw [if_pos (Int32.not_le.mp hle)]] at e
        refine ev_iload 218 dX12_encode_216 rfl rfl ?_
        refine ev_goto 223 dX12_encode_218 (by decide) ?_
        refine ev_istore 225 (lv' := [_, _, _, some (.int _), _, _, _, _, _, _, _, _]) dX12_encode_223 (Nat.le_of_ble_eq_true rfl) rfl rfl ?_
        refine ev_iincN 228 (lv' := [_, _, _, _, some (.int _), _, _, _, _, _, _, _]) 1 dX12_encode_225 rfl (Nat.le_of_ble_eq_true rfl) rfl rfl ?_
        refine ev_goto 89 dX12_encode_228 (by decide) ?_
        refine ev_le (mle_s (mle_s (mle_s (mle_s (mle_s (mle_s (mle_n (mle_n (mle_n (mle_n (mle_n (mle_n (mle_0))))))))))))) ?_
        exact e
    have k2 : ∀ (w b : Int32), Ev g mX12_encode 179 [some (.ref m), some (.int (nI c)), some (.int (nI N)), some (.int (nI sb)), some (.int (sp_fP em W raw i)), some (.int (nI i)), some (.int w), some (.int b), none, none, none, none] [] B (va_up I (m + 53) (va_up F i (sp_fX em W raw i))) (sp_up J1 m 2 (sp_ft em W raw i)) P Z := by
      intro w b
      refine ev_aload_n 180 dX12_encode_179 rfl rfl ?_
      refine ev_getP 183 mm_cl12 (j := 59) (Nat.le_of_ble_eq_true rfl) dX12_encode_180 lk1344 (fun _ _ _ => rfl) (hM.1 0 _ rfl) (a := (m + 53)) (hM.2.2 52 _ _ _ rfl) rfl ?_
      refine ev_iload 185 dX12_encode_183 rfl rfl ?_
      refine ev_iald 186 _ dX12_encode_185 (hM.1 53 _ rfl) rfl (by have hNN := hM.2.1 53 _ rfl; omega) rfl ?_
      refine ev_eqI (y := (sp_fX em W raw i)) ((by rw [va_up_s, va_up_s])) ?_
      refine ev_if_ge 189 200 dX12_encode_186 (by decide) rfl (fun hge => ?_) (fun hge => ?_)
      · refine ev_aload_n 201 dX12_encode_200 rfl rfl ?_
        refine ev_getP 204 mm_cl12 (j := 59) (Nat.le_of_ble_eq_true rfl) dX12_encode_201 lk1344 (fun _ _ _ => rfl) (hM.1 0 _ rfl) (a := (m + 53)) (hM.2.2 52 _ _ _ rfl) rfl ?_
        refine ev_iload 206 dX12_encode_204 rfl rfl ?_
        refine ev_iald 207 _ dX12_encode_206 (hM.1 53 _ rfl) rfl (by have hNN := hM.2.1 53 _ rfl; omega) rfl ?_
        refine ev_eqI (y := (sp_fX em W raw i)) ((by rw [va_up_s, va_up_s])) ?_
        refine ev_istore 209 (lv' := [_, _, _, _, _, _, _, some (.int _), _, _, _, _]) dX12_encode_207 (Nat.le_of_ble_eq_true rfl) rfl rfl ?_
        exact k3 _ _ _ (by unfold i_abs; rw [if_pos hge])
      · refine ev_aload_n 190 dX12_encode_189 rfl rfl ?_
        refine ev_getP 193 mm_cl12 (j := 59) (Nat.le_of_ble_eq_true rfl) dX12_encode_190 lk1344 (fun _ _ _ => rfl) (hM.1 0 _ rfl) (a := (m + 53)) (hM.2.2 52 _ _ _ rfl) rfl ?_
        refine ev_iload 195 dX12_encode_193 rfl rfl ?_
        refine ev_iald 196 _ dX12_encode_195 (hM.1 53 _ rfl) rfl (by have hNN := hM.2.1 53 _ rfl; omega) rfl ?_
        refine ev_eqI (y := (sp_fX em W raw i)) ((by rw [va_up_s, va_up_s])) ?_
        refine ev_ineg 197 dX12_encode_196 rfl ?_
        refine ev_goto 207 dX12_encode_197 (by decide) ?_
        refine ev_istore 209 (lv' := [_, _, _, _, _, _, _, some (.int _), _, _, _, _]) dX12_encode_207 (Nat.le_of_ble_eq_true rfl) rfl rfl ?_
        exact k3 _ _ _ (by unfold i_abs; rw [if_neg hge, Int32.zero_sub])
    have k1 : Ev g mX12_encode 141 [some (.ref m), some (.int (nI c)), some (.int (nI N)), some (.int (nI sb)), some (.int (sp_fP em W raw i)), some (.int (nI i)), some (.int (W i)), some (.int (sp_fb W raw i)), none, none, none, none] [] B (va_up I (m + 53) F) J1 P Z := by
      refine ev_aload_n 142 dX12_encode_141 rfl rfl ?_
      refine ev_getP 145 mm_cl12 (j := 59) (Nat.le_of_ble_eq_true rfl) dX12_encode_142 lk1344 (fun _ _ _ => rfl) (hM.1 0 _ rfl) (a := (m + 53)) (hM.2.2 52 _ _ _ rfl) rfl ?_
      refine ev_iload 147 dX12_encode_145 rfl rfl ?_
      refine ev_aload_n 148 dX12_encode_147 rfl rfl ?_
      refine ev_getP 151 mm_cl12 (j := 11) (Nat.le_of_ble_eq_true rfl) dX12_encode_148 lk1296 (fun _ _ _ => rfl) (hM.1 0 _ rfl) (a := (m + 6)) (hM.2.2 5 _ _ _ rfl) rfl ?_
      refine ev_iload_n 152 dX12_encode_151 rfl rfl ?_
      refine ev_zald 153 _ dX12_encode_152 (hM.1 6 _ rfl) rfl (by have hNN := hM.2.1 6 _ rfl; omega) rfl ?_
      refine ev_eqI (y := nI (em)) ((n6 _)) ?_
      refine ev_if_eqN 156 176 dX12_encode_153 (by decide) (by omega) rfl (fun hz => ?_) (fun hz => ?_)
      · have k2' := k2 (W i) (sp_fb W raw i)
        rw [show sp_ft em W raw i = 0 by unfold sp_ft; rw [if_pos hz], sp_up_0, show sp_fX em W raw i = W i by unfold sp_fX; rw [if_pos hz]] at k2'
        refine ev_iload 178 dX12_encode_176 rfl rfl ?_
        refine ev_iast 179 _ dX12_encode_178 (hM.1 53 _ rfl) rfl (by have hNN := hM.2.1 53 _ rfl; omega) rfl ?_
        rw [va_up_s, bx_uu]
        exact k2'
      · have k2' := k2 (W i) (sp_fb W raw i)
        rw [show sp_ft em W raw i = sp_t (sp_fw W raw i) by unfold sp_ft; rw [if_neg hz], show sp_fX em W raw i = sp_S (sp_fw W raw i) by unfold sp_fX; rw [if_neg hz]] at k2'
        refine ev_aload_n 157 dX12_encode_156 rfl rfl ?_
        refine ev_iload 159 dX12_encode_157 rfl rfl ?_
        refine ev_i2l 160 dX12_encode_159 rfl ?_
        refine ev_iload 162 dX12_encode_160 rfl rfl ?_
        refine ev_i2l 163 dX12_encode_162 rfl ?_
        refine ev_ldc2 166 dX12_encode_163 lk1600 rfl ?_
        refine ev_invS 169 (Mc := mX12_half) ⟨lk1603, lk80, hdX12_half, (Nat.le_of_ble_eq_true rfl), (Nat.le_of_ble_eq_true rfl)⟩ lk1601 lk1602 dX12_encode_166 (ct_X12_half) rfl (Nat.le_of_ble_eq_true rfl) rfl rfl ?_
        refine ev_lsub 170 dX12_encode_169 rfl ?_
        refine ev_invV 173 (Mc := mX12_sample16) ⟨lk1608, lk80, hdX12_sample16, (Nat.le_of_ble_eq_true rfl), (Nat.le_of_ble_eq_true rfl)⟩ lk1605 lk1607 lk42 mm_cl12 rfl dX12_encode_170 (ct_X12_sample16 hM) rfl (hM.1 0 _ rfl) (Nat.le_of_ble_eq_true rfl) rfl rfl ?_
        refine ev_goto 178 dX12_encode_173 (by decide) ?_
        refine ev_iast 179 _ dX12_encode_178 (hM.1 53 _ rfl) rfl (by have hNN := hM.2.1 53 _ rfl; omega) rfl ?_
        rw [va_up_s, bx_uu]
        exact k2'
    refine ev_iload 91 dX12_encode_89 rfl rfl ?_
    refine ev_iload_n 92 dX12_encode_91 rfl rfl ?_
    refine ev_icmp_geN 95 231 dX12_encode_92 (by decide) (by omega) (by omega) rfl (fun hx => absurd hx ((by omega))) (fun hbr => ?_)
    refine ev_aload_n 96 dX12_encode_95 rfl rfl ?_
    refine ev_getP 99 mm_cl12 (j := 17) (Nat.le_of_ble_eq_true rfl) dX12_encode_96 lk1302 (fun _ _ _ => rfl) (hM.1 0 _ rfl) (a := (m + 12)) (hM.2.2 11 _ _ _ rfl) rfl ?_
    refine ev_sipushN 102 640 dX12_encode_99 (by decide +kernel) rfl ?_
    refine ev_iload_n 103 dX12_encode_102 rfl rfl ?_
    refine ev_imulN 104 dX12_encode_103 rfl ?_
    refine ev_iload 106 dX12_encode_104 rfl rfl ?_
    refine ev_iaddN 107 dX12_encode_106 rfl ?_
    refine ev_iald 108 _ dX12_encode_107 (hM.1 12 _ rfl) rfl (by have hNN := hM.2.1 12 _ rfl; omega) rfl ?_
    refine ev_eqI (y := (W i)) ((n12 _ i (by omega))) ?_
    refine ev_istore 110 (lv' := [_, _, _, _, _, some (.int _), _, _, _, _, _, _]) dX12_encode_108 (Nat.le_of_ble_eq_true rfl) rfl rfl ?_
    refine ev_iload 112 dX12_encode_110 rfl rfl ?_
    refine ev_if_neN 115 124 dX12_encode_112 (by decide) (by omega) rfl (fun hz => ?_) (fun hz => ?_)
    · have k1' := k1
      rw [show sp_fb W raw i = W (i - 1) by unfold sp_fb; rw [if_neg hz]] at k1'
      refine ev_aload_n 125 dX12_encode_124 rfl rfl ?_
      refine ev_getP 128 mm_cl12 (j := 17) (Nat.le_of_ble_eq_true rfl) dX12_encode_125 lk1302 (fun _ _ _ => rfl) (hM.1 0 _ rfl) (a := (m + 12)) (hM.2.2 11 _ _ _ rfl) rfl ?_
      refine ev_sipushN 131 640 dX12_encode_128 (by decide +kernel) rfl ?_
      refine ev_iload_n 132 dX12_encode_131 rfl rfl ?_
      refine ev_imulN 133 dX12_encode_132 rfl ?_
      refine ev_iload 135 dX12_encode_133 rfl rfl ?_
      refine ev_iaddN 136 dX12_encode_135 rfl ?_
      refine ev_iconstN 137 1 dX12_encode_136 rfl ?_
      refine ev_isubN 138 dX12_encode_137 (by omega) rfl ?_
      refine ev_iald 139 _ dX12_encode_138 (hM.1 12 _ rfl) rfl (by have hNN := hM.2.1 12 _ rfl; omega) rfl ?_
      refine ev_eqI (y := (W (i - 1))) ((by rw [show 640 * c + i - 1 = 640 * c + (i - 1) by omega]; exact n12 _ _ (by omega))) ?_
      refine ev_istore 141 (lv' := [_, _, _, _, _, _, some (.int _), _, _, _, _, _]) dX12_encode_139 (Nat.le_of_ble_eq_true rfl) rfl rfl ?_
      exact k1'
    · have k1' := k1
      rw [show sp_fb W raw i = raw by unfold sp_fb; rw [if_pos hz]] at k1'
      refine ev_aload_n 116 dX12_encode_115 rfl rfl ?_
      refine ev_getP 119 mm_cl12 (j := 18) (Nat.le_of_ble_eq_true rfl) dX12_encode_116 lk1303 (fun _ _ _ => rfl) (hM.1 0 _ rfl) (a := (m + 13)) (hM.2.2 12 _ _ _ rfl) rfl ?_
      refine ev_iload_n 120 dX12_encode_119 rfl rfl ?_
      refine ev_iald 121 _ dX12_encode_120 (hM.1 13 _ rfl) rfl (by have hNN := hM.2.1 13 _ rfl; omega) rfl ?_
      refine ev_eqI (y := (raw)) ((by rw [va_up_n _ _ (by omega)]; exact hr)) ?_
      refine ev_goto 139 dX12_encode_121 (by decide) ?_
      refine ev_istore 141 (lv' := [_, _, _, _, _, _, some (.int _), _, _, _, _, _]) dX12_encode_139 (Nat.le_of_ble_eq_true rfl) rfl rfl ?_
      exact k1'
end MFR
section VFR
variable {g : mm_G} {B : mm_B} {I : mm_TI} {J : mm_TJ} {P : mm_TP} {x o : Nat}
/-- from i on as framed -/
def sp_fR (em N i : Nat) (W : Nat → Int32) (raw : Int32) : Nat → Int32 := fun j => if i ≤ j ∧ j < N then sp_fX em W raw j else W j
theorem sp_fR_s {em N i : Nat} {W : Nat → Int32} {raw : Int32} (h : i < N) : va_up (sp_fR em N (i + 1) W raw) i (sp_fX em W raw i) = sp_fR em N i W raw := by
  funext j
  by_cases c : j = i
  · subst c; rw [va_up_s]; unfold sp_fR; rw [if_pos (by omega)]
  · rw [va_up_n _ _ c]
    unfold sp_fR
    by_cases c2 : i ≤ j ∧ j < N
    · rw [if_pos c2, if_pos (by omega)]
    · rw [if_neg c2, if_neg (by omega)]
theorem sp_fR_o {em N i j : Nat} {W : Nat → Int32} {raw : Int32} (h : j < i) : sp_fR em N i W raw j = W j := by
  unfold sp_fR; rw [if_neg (by omega)]
theorem lp_X2_framed {N em : Nat} {W : Nat → Int32} {raw last : Int32} {Z : mm_Z} (hV : lyV B P x) (hC : lyC B P x o) (hxo : x + 22 ≤ o) (hN : N ≤ 320) (hem : I (o + 4) 13 = nI em) (hem1 : em ≤ 1) (hr : I (o + 4) 18 = raw)
    (K : Ev g mX2_framed 105 [some (.ref (o + 4)), some (.int (nI N)), some (.ref (x + 5)), some (.int last), some (.int (sp_fP em W raw N)), none] [] B (va_up I (x + 5) (sp_fR em N 0 W raw)) (sp_up J (x + 1) 3 (sp_fT em W raw N)) P Z) : ∀ i, i < N →
    Ev g mX2_framed 30 [some (.ref (o + 4)), some (.int (nI N)), some (.ref (x + 5)), some (.int last), some (.int (sp_bP em W raw N (N - (i + 1)))), some (.int (nI i))] [] B (va_up I (x + 5) (sp_fR em N (i + 1) W raw)) (sp_up J (x + 1) 3 (sp_fT em W raw N - sp_fT em W raw (i + 1))) P Z := by
  intro i
  induction i with
  | zero =>
    intro hi
    have K' := K
    rw [← sp_fR_s hi, ← sp_bP_f, show sp_bP em W raw N N = i_max (sp_bP em W raw N (N - 1)) (i_abs (sp_fX em W raw 0)) by
      obtain ⟨n, rfl⟩ : ∃ n, N = n + 1 := ⟨N - 1, by omega⟩
      show i_max (sp_bP em W raw (n + 1) n) (i_abs (sp_fX em W raw (n + 1 - (n + 1)))) = _
      rw [Nat.sub_self]; rfl, show sp_fT em W raw N = sp_fT em W raw N - sp_fT em W raw (0 + 1) + sp_ft em W raw 0 by
      show _ = _ - (0 + sp_ft em W raw 0) + _
      rw [Int64.zero_add, Int64.sub_add_cancel], ← sp_up_up] at K'
    rw [show N - (0 + 1) = N - 1 from rfl]
    generalize hT : sp_up J (x + 1) 3 (sp_fT em W raw N - sp_fT em W raw (0 + 1)) = J1 at K' ⊢
    generalize hPk : sp_bP em W raw N (N - 1) = pk at K' ⊢
    generalize hF : sp_fR em N (0 + 1) W raw = F at K' ⊢
    have hF0 : F 0 = W 0 := by rw [← hF]; exact sp_fR_o (by omega)
    have k2 : Ev g mX2_framed 85 [some (.ref (o + 4)), some (.int (nI N)), some (.ref (x + 5)), some (.int last), some (.int pk), some (.int (nI 0))] [] B (va_up I (x + 5) (va_up F 0 (sp_fX em W raw 0))) (sp_up J1 (x + 1) 3 (sp_ft em W raw 0)) P Z := by
      refine ev_iload 87 dX2_framed_85 rfl rfl ?_
      refine ev_aload_n 88 dX2_framed_87 rfl rfl ?_
      refine ev_iload 90 dX2_framed_88 rfl rfl ?_
      refine ev_iald 91 _ dX2_framed_90 (hV.1 5 _ rfl) rfl (by have hNN := hV.2.1 5 _ rfl; omega) rfl ?_
      refine ev_eqI (y := (sp_fX em W raw 0)) ((by rw [va_up_s, va_up_s])) ?_
      refine ev_abs 94 dX2_framed_91 lk677 lk631 lk87 lk632 (Nat.le_of_ble_eq_true rfl) (Nat.le_of_ble_eq_true rfl) (Nat.le_of_ble_eq_true rfl) rfl ?_
      refine ev_max 97 dX2_framed_94 lk678 lk679 lk87 lk680 (Nat.le_of_ble_eq_true rfl) (Nat.le_of_ble_eq_true rfl) (Nat.le_of_ble_eq_true rfl) rfl ?_
      refine ev_istore 99 (lv' := [_, _, _, some (.int _), _, _]) dX2_framed_97 (Nat.le_of_ble_eq_true rfl) rfl rfl ?_
      refine ev_iinc 102 (lv' := [_, _, _, _, some (.int _), _]) dX2_framed_99 rfl rfl (Nat.le_of_ble_eq_true rfl) rfl rfl ?_
      refine ev_goto 30 dX2_framed_102 (by decide) ?_
      refine ev_iload 32 dX2_framed_30 rfl rfl ?_
      refine ev_if_lt 35 105 dX2_framed_32 (by decide) rfl (fun hbr => ?_) (fun hx => absurd ((by decide +kernel)) hx)
      refine ev_le (mle_s (mle_s (mle_s (mle_s (mle_s (mle_n (mle_0))))))) ?_
      exact K'
    refine ev_iload 32 dX2_framed_30 rfl rfl ?_
    refine ev_if_ltN 35 105 dX2_framed_32 (by decide) (by omega) rfl (fun hx => absurd hx (not_false)) (fun hbr => ?_)
    refine ev_aload_n 36 dX2_framed_35 rfl rfl ?_
    refine ev_getI 39 mm_cl2 (j := 13) (Nat.le_of_ble_eq_true rfl) dX2_framed_36 lk388 (fun _ _ _ => rfl) (hC.1 4 _ rfl) rfl ?_
    refine ev_eqI (y := nI (em)) ((by rw [va_up_n _ _ (by omega)]; exact hem)) ?_
    refine ev_if_eqN 42 85 dX2_framed_39 (by decide) (by omega) rfl (fun hz => ?_) (fun hz => ?_)
    · rw [show sp_ft em W raw 0 = 0 by unfold sp_ft; rw [if_pos hz], sp_up_0, show sp_fX em W raw 0 = F 0 by rw [hF0]; unfold sp_fX; rw [if_pos hz], va_up_id] at k2
      exact k2
    · rw [show sp_ft em W raw 0 = sp_t (sp_fw W raw 0) by unfold sp_ft; rw [if_neg hz], show sp_fX em W raw 0 = sp_S (sp_fw W raw 0) by unfold sp_fX; rw [if_neg hz]] at k2
      refine ev_aload_n 43 dX2_framed_42 rfl rfl ?_
      refine ev_iload 45 dX2_framed_43 rfl rfl ?_
      refine ev_aload_n 46 dX2_framed_45 rfl rfl ?_
      refine ev_getP 49 mm_cl2 (j := 0) (Nat.le_of_ble_eq_true rfl) dX2_framed_46 lk369 (fun _ _ _ => rfl) (hC.1 4 _ rfl) (a := (x + 1)) (hC.2.2.2 0 _ _ _ rfl) rfl ?_
      refine ev_aload_n 50 dX2_framed_49 rfl rfl ?_
      refine ev_iload 52 dX2_framed_50 rfl rfl ?_
      refine ev_iald 53 _ dX2_framed_52 (hV.1 5 _ rfl) rfl (by have hNN := hV.2.1 5 _ rfl; omega) rfl ?_
      refine ev_eqI (y := (W 0)) ((by rw [va_up_s]; exact hF0)) ?_
      refine ev_i2l 54 dX2_framed_53 rfl ?_
      refine ev_iload 56 dX2_framed_54 rfl rfl ?_
      refine ev_if_leN 59 69 dX2_framed_56 (by decide) (by omega) rfl (fun hbr => ?_) (fun hx => absurd ((by omega)) hx)
      refine ev_aload_n 70 dX2_framed_69 rfl rfl ?_
      refine ev_getI 73 mm_cl2 (j := 18) (Nat.le_of_ble_eq_true rfl) dX2_framed_70 lk398 (fun _ _ _ => rfl) (hC.1 4 _ rfl) rfl ?_
      refine ev_eqI (y := (raw)) ((by rw [va_up_n _ _ (by omega)]; exact hr)) ?_
      refine ev_i2l 74 dX2_framed_73 rfl ?_
      refine ev_ldc2 77 dX2_framed_74 lk666 rfl ?_
      refine ev_invSN 80 (Mc := mX11_half) ⟨lk669, lk75, hdX11_half, (Nat.le_of_ble_eq_true rfl), (Nat.le_of_ble_eq_true rfl)⟩ lk667 lk668 dX2_framed_77 (ct_X11_half) rfl (Nat.le_of_ble_eq_true rfl) rfl rfl ?_
      refine ev_lsub 81 dX2_framed_80 rfl ?_
      refine ev_invV 84 (Mc := mX10_narrow) ⟨lk674, lk76, hdX10_narrow, (Nat.le_of_ble_eq_true rfl), (Nat.le_of_ble_eq_true rfl)⟩ lk671 lk672 lk673 mm_cl10 rfl dX2_framed_81 (ct_X10_narrow hV) rfl (hV.1 1 _ rfl) (Nat.le_of_ble_eq_true rfl) rfl rfl ?_
      refine ev_iast 85 _ dX2_framed_84 (hV.1 5 _ rfl) rfl (by have hNN := hV.2.1 5 _ rfl; omega) rfl ?_
      rw [va_up_s, bx_uu]
      exact k2
  | succ i ih =>
    intro hi
    have K' := ih (by omega)
    rw [← sp_fR_s (show i + 1 < N by omega), show sp_bP em W raw N (N - (i + 1)) = i_max (sp_bP em W raw N (N - (i + 1 + 1))) (i_abs (sp_fX em W raw (i + 1))) by
      rw [show N - (i + 1) = N - (i + 1 + 1) + 1 by omega]
      show i_max _ (i_abs (sp_fX em W raw (N - (N - (i + 1 + 1) + 1)))) = _
      rw [show N - (N - (i + 1 + 1) + 1) = i + 1 by omega], show sp_fT em W raw N - sp_fT em W raw (i + 1) = sp_fT em W raw N - sp_fT em W raw (i + 1 + 1) + sp_ft em W raw (i + 1) by
      show _ = _ - (sp_fT em W raw (i + 1) + sp_ft em W raw (i + 1)) + _
      rw [i64_sc], ← sp_up_up] at K'
    generalize hT : sp_up J (x + 1) 3 (sp_fT em W raw N - sp_fT em W raw (i + 1 + 1)) = J1 at K' ⊢
    generalize hPk : sp_bP em W raw N (N - (i + 1 + 1)) = pk at K' ⊢
    generalize hF : sp_fR em N (i + 1 + 1) W raw = F at K' ⊢
    have hF0 : F (i + 1) = W (i + 1) := by rw [← hF]; exact sp_fR_o (by omega)
    have hF1 : F i = W i := by rw [← hF]; exact sp_fR_o (by omega)
    have k2 : Ev g mX2_framed 85 [some (.ref (o + 4)), some (.int (nI N)), some (.ref (x + 5)), some (.int last), some (.int pk), some (.int (nI (i + 1)))] [] B (va_up I (x + 5) (va_up F (i + 1) (sp_fX em W raw (i + 1)))) (sp_up J1 (x + 1) 3 (sp_ft em W raw (i + 1))) P Z := by
      refine ev_iload 87 dX2_framed_85 rfl rfl ?_
      refine ev_aload_n 88 dX2_framed_87 rfl rfl ?_
      refine ev_iload 90 dX2_framed_88 rfl rfl ?_
      refine ev_iald 91 _ dX2_framed_90 (hV.1 5 _ rfl) rfl (by have hNN := hV.2.1 5 _ rfl; omega) rfl ?_
      refine ev_eqI (y := (sp_fX em W raw (i + 1))) ((by rw [va_up_s, va_up_s])) ?_
      refine ev_abs 94 dX2_framed_91 lk677 lk631 lk87 lk632 (Nat.le_of_ble_eq_true rfl) (Nat.le_of_ble_eq_true rfl) (Nat.le_of_ble_eq_true rfl) rfl ?_
      refine ev_max 97 dX2_framed_94 lk678 lk679 lk87 lk680 (Nat.le_of_ble_eq_true rfl) (Nat.le_of_ble_eq_true rfl) (Nat.le_of_ble_eq_true rfl) rfl ?_
      refine ev_istore 99 (lv' := [_, _, _, some (.int _), _, _]) dX2_framed_97 (Nat.le_of_ble_eq_true rfl) rfl rfl ?_
      refine ev_iincM 102 (lv' := [_, _, _, _, some (.int _), _]) 1 dX2_framed_99 rfl (by omega) (Nat.le_of_ble_eq_true rfl) rfl rfl ?_
      refine ev_goto 30 dX2_framed_102 (by decide) ?_
      rw [show i + 1 - 1 = i from rfl]
      exact K'
    refine ev_iload 32 dX2_framed_30 rfl rfl ?_
    refine ev_if_ltN 35 105 dX2_framed_32 (by decide) (by omega) rfl (fun hx => absurd hx (not_false)) (fun hbr => ?_)
    refine ev_aload_n 36 dX2_framed_35 rfl rfl ?_
    refine ev_getI 39 mm_cl2 (j := 13) (Nat.le_of_ble_eq_true rfl) dX2_framed_36 lk388 (fun _ _ _ => rfl) (hC.1 4 _ rfl) rfl ?_
    refine ev_eqI (y := nI (em)) ((by rw [va_up_n _ _ (by omega)]; exact hem)) ?_
    refine ev_if_eqN 42 85 dX2_framed_39 (by decide) (by omega) rfl (fun hz => ?_) (fun hz => ?_)
    · rw [show sp_ft em W raw (i + 1) = 0 by unfold sp_ft; rw [if_pos hz], sp_up_0, show sp_fX em W raw (i + 1) = F (i + 1) by rw [hF0]; unfold sp_fX; rw [if_pos hz], va_up_id] at k2
      exact k2
    · rw [show sp_ft em W raw (i + 1) = sp_t (sp_fw W raw (i + 1)) by unfold sp_ft; rw [if_neg hz], show sp_fX em W raw (i + 1) = sp_S (sp_fw W raw (i + 1)) by unfold sp_fX; rw [if_neg hz]] at k2
      refine ev_aload_n 43 dX2_framed_42 rfl rfl ?_
      refine ev_iload 45 dX2_framed_43 rfl rfl ?_
      refine ev_aload_n 46 dX2_framed_45 rfl rfl ?_
      refine ev_getP 49 mm_cl2 (j := 0) (Nat.le_of_ble_eq_true rfl) dX2_framed_46 lk369 (fun _ _ _ => rfl) (hC.1 4 _ rfl) (a := (x + 1)) (hC.2.2.2 0 _ _ _ rfl) rfl ?_
      refine ev_aload_n 50 dX2_framed_49 rfl rfl ?_
      refine ev_iload 52 dX2_framed_50 rfl rfl ?_
      refine ev_iald 53 _ dX2_framed_52 (hV.1 5 _ rfl) rfl (by have hNN := hV.2.1 5 _ rfl; omega) rfl ?_
      refine ev_eqI (y := (W (i + 1))) ((by rw [va_up_s]; exact hF0)) ?_
      refine ev_i2l 54 dX2_framed_53 rfl ?_
      refine ev_iload 56 dX2_framed_54 rfl rfl ?_
      refine ev_if_leN 59 69 dX2_framed_56 (by decide) (by omega) rfl (fun hx => absurd hx ((by omega))) (fun hbr => ?_)
      refine ev_aload_n 60 dX2_framed_59 rfl rfl ?_
      refine ev_iload 62 dX2_framed_60 rfl rfl ?_
      refine ev_iconstN 63 1 dX2_framed_62 rfl ?_
      refine ev_isubN 64 dX2_framed_63 (by omega) rfl ?_
      refine ev_iald 65 _ dX2_framed_64 (hV.1 5 _ rfl) rfl (by have hNN := hV.2.1 5 _ rfl; omega) rfl ?_
      refine ev_eqI (y := (W i)) ((by rw [va_up_s]; exact hF1)) ?_
      refine ev_i2l 66 dX2_framed_65 rfl ?_
      refine ev_goto 74 dX2_framed_66 (by decide) ?_
      refine ev_ldc2 77 dX2_framed_74 lk666 rfl ?_
      refine ev_invSN 80 (Mc := mX11_half) ⟨lk669, lk75, hdX11_half, (Nat.le_of_ble_eq_true rfl), (Nat.le_of_ble_eq_true rfl)⟩ lk667 lk668 dX2_framed_77 (ct_X11_half) rfl (Nat.le_of_ble_eq_true rfl) rfl rfl ?_
      refine ev_lsub 81 dX2_framed_80 rfl ?_
      refine ev_invV 84 (Mc := mX10_narrow) ⟨lk674, lk76, hdX10_narrow, (Nat.le_of_ble_eq_true rfl), (Nat.le_of_ble_eq_true rfl)⟩ lk671 lk672 lk673 mm_cl10 rfl dX2_framed_81 (ct_X10_narrow hV) rfl (hV.1 1 _ rfl) (Nat.le_of_ble_eq_true rfl) rfl rfl ?_
      refine ev_iast 85 _ dX2_framed_84 (hV.1 5 _ rfl) rfl (by have hNN := hV.2.1 5 _ rfl; omega) rfl ?_
      rw [va_up_s, bx_uu]
      exact k2
theorem cx_X2_framed {N em t : Nat} {W : Nat → Int32} {raw : Int32} (hV : lyV B P x) (hC : lyC B P x o) (hxo : x + 22 ≤ o) (hN : N ≤ 320) (hN1 : 1 ≤ N) (ht : I (x + 1) 2 = nI t) (h32 : t < 32) (hem : I (o + 4) 13 = nI em) (hem1 : em ≤ 1) (hr : I (o + 4) 18 = raw) (hW : I (x + 5) = W) :
    ∃ I' : mm_TI, Ct g mX2_framed [.ref (o + 4), .int (nI N)] B I J P (some (.int (sp_fP em W raw N)), B, I', sp_up J (x + 1) 3 (sp_fT em W raw N), P) ∧ I' (x + 5) = sp_fR em N 0 W raw ∧ I' (o + 4) = va_up (I (o + 4)) 18 (W (N - 1)) ∧
      I' (x + 3) = va_up (I (x + 3)) t (nI 1) ∧ I' (x + 1) = va_up (I (x + 1)) 2 (nI (t + 1)) ∧ (∀ q, q ≠ x + 5 → q ≠ o + 4 → q ≠ x + 3 → q ≠ x + 1 → I' q = I q) := by
  have m1 := ct_X10_mark (g := g) (I := I) (J := J) (P := P) (a := nI 1) hV ht h32
  generalize hI1 : va_up (va_up I (x + 3) (va_up (I (x + 3)) t (nI 1))) (x + 1) (va_up (I (x + 1)) 2 (nI (t + 1))) = I1 at m1
  have a1 : ∀ q, q ≠ x + 3 → q ≠ x + 1 → I1 q = I q := fun q h h' => by rw [← hI1, va_up_n _ _ h', va_up_n _ _ h]
  refine ⟨va_up (va_up I1 (x + 5) (sp_fR em N 0 W raw)) (o + 4) (va_up (I1 (o + 4)) 18 (W (N - 1))), ?_, ?_, ?_, ?_, ?_, ?_⟩
  · have e := lp_X2_framed (g := g) (I := I1) (J := J) (P := P) (N := N) (em := em) (W := W) (raw := raw) (last := W (N - 1)) (Z := (some (.int (sp_fP em W raw N)), B, va_up (va_up I1 (x + 5) (sp_fR em N 0 W raw)) (o + 4) (va_up (I1 (o + 4)) 18 (W (N - 1))), sp_up J (x + 1) 3 (sp_fT em W raw N), P)) hV hC hxo hN (by rw [a1 _ (by omega) (by omega)]; exact hem) hem1 (by rw [a1 _ (by omega) (by omega)]; exact hr) (by
      refine ev_aload_n 106 dX2_framed_105 rfl rfl ?_
      refine ev_iload_n 107 dX2_framed_106 rfl rfl ?_
      refine ev_putI 110 mm_cl2 (j := 18) (Nat.le_of_ble_eq_true rfl) dX2_framed_107 lk398 rfl (fun _ _ _ => rfl) rfl rfl (hC.1 4 _ rfl) rfl ?_
      refine ev_iload 112 dX2_framed_110 rfl rfl ?_
      rw [va_up_n _ _ (show o + 4 ≠ x + 5 by omega)]
      exact ev_iret dX2_framed_112 rfl (rfl)
      ) (N - 1) (by omega)
    rw [show N - 1 + 1 = N by omega, Nat.sub_self, Int64.sub_self, sp_up_0, show sp_fR em N N W raw = W by funext j; unfold sp_fR; rw [if_neg (by omega)], show va_up I1 (x + 5) W = I1 by rw [← hW, ← a1 (x + 5) (by omega) (by omega), va_up_id]] at e
    refine ct_of (lv := [some (.ref (o + 4)), some (.int (nI N)), none, none, none, none]) (by decide +kernel) (Nat.le_of_ble_eq_true rfl) rfl ?_
    refine ev_aload_n 1 dX2_framed_0 rfl rfl ?_
    refine ev_getP 4 mm_cl2 (j := 0) (Nat.le_of_ble_eq_true rfl) dX2_framed_1 lk369 (fun _ _ _ => rfl) (hC.1 4 _ rfl) (a := (x + 1)) (hC.2.2.2 0 _ _ _ rfl) rfl ?_
    refine ev_iconstN 5 1 dX2_framed_4 rfl ?_
    refine ev_invVv 8 (Mc := mX10_mark) ⟨lk665, lk76, hdX10_mark, (Nat.le_of_ble_eq_true rfl), (Nat.le_of_ble_eq_true rfl)⟩ lk662 lk663 lk664 mm_cl10 rfl dX2_framed_5 (m1) rfl (hV.1 1 _ rfl) (Nat.le_of_ble_eq_true rfl) rfl rfl ?_
    refine ev_aload_n 9 dX2_framed_8 rfl rfl ?_
    refine ev_getP 12 mm_cl2 (j := 1) (Nat.le_of_ble_eq_true rfl) dX2_framed_9 lk370 (fun _ _ _ => rfl) (hC.1 4 _ rfl) (a := (x + 4)) (hC.2.2.2 1 _ _ _ rfl) rfl ?_
    refine ev_getP 15 mm_cl8 (j := 0) (Nat.le_of_ble_eq_true rfl) dX2_framed_12 lk133 (fun _ _ _ => rfl) (hV.1 4 _ rfl) (a := (x + 5)) (hV.2.2 8 _ _ _ rfl) rfl ?_
    refine ev_astore_n 16 (lv' := [_, some (.int _), _, _, _, _]) dX2_framed_15 (Nat.le_of_ble_eq_true rfl) rfl rfl ?_
    refine ev_aload_n 17 dX2_framed_16 rfl rfl ?_
    refine ev_iload_n 18 dX2_framed_17 rfl rfl ?_
    refine ev_iconstN 19 1 dX2_framed_18 rfl ?_
    refine ev_isubN 20 dX2_framed_19 (by omega) rfl ?_
    refine ev_iald 21 _ dX2_framed_20 (hV.1 5 _ rfl) rfl (by have hNN := hV.2.1 5 _ rfl; omega) rfl ?_
    refine ev_eqI (y := (W (N - 1))) ((by rw [a1 _ (by omega) (by omega), hW])) ?_
    refine ev_istore_n 22 (lv' := [_, _, some (.ref _), _, _, _]) dX2_framed_21 (Nat.le_of_ble_eq_true rfl) rfl rfl ?_
    refine ev_iconstN 23 0 dX2_framed_22 rfl ?_
    refine ev_istore 25 (lv' := [_, _, _, some (.int _), _, _]) dX2_framed_23 (Nat.le_of_ble_eq_true rfl) rfl rfl ?_
    refine ev_iload_n 26 dX2_framed_25 rfl rfl ?_
    refine ev_iconstN 27 1 dX2_framed_26 rfl ?_
    refine ev_isubN 28 dX2_framed_27 (by omega) rfl ?_
    refine ev_istore 30 (lv' := [_, _, _, _, some (.int _), _]) dX2_framed_28 (Nat.le_of_ble_eq_true rfl) rfl rfl ?_
    exact e
  · rw [va_up_n _ _ (by omega), va_up_s]
  · rw [va_up_s, a1 _ (by omega) (by omega)]
  · rw [va_up_n _ _ (by omega), va_up_n _ _ (by omega), ← hI1, va_up_n _ _ (by omega), va_up_s]
  · rw [va_up_n _ _ (by omega), va_up_n _ _ (by omega), ← hI1, va_up_s]
  · intro q h1 h2 h3 h4
    rw [va_up_n _ _ h2, va_up_n _ _ h1]; exact a1 q h3 h4
end VFR
