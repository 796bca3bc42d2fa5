/-! a frame is decoded, class side -/
def ub (v : Int32) : Nat := v.toBitVec.toNat % 256
theorem ub_l (v : Int32) : ub v < 256 := Nat.mod_lt _ (by omega)
theorem ub_e (v : Int32) : v &&& nI 255 = nI (ub v) := by
  unfold nI ub
  apply Int32.toBitVec_inj.mp
  rw [Int32.toBitVec_and]
  apply BitVec.eq_of_toNat_eq
  rw [BitVec.toNat_and]
  show v.toBitVec.toNat &&& (255 % 2 ^ 32) = v.toBitVec.toNat % 256 % 2 ^ 32
  rw [show 255 % 2 ^ 32 = 2 ^ 8 - 1 by decide, Nat.and_two_pow_sub_one_eq_mod]
  omega
theorem nI_msk {n k : Nat} (hk : k ≤ 16) : nI n &&& nI (2 ^ k - 1) = nI (n % 2 ^ k) := by
  have hp : 2 ^ k ≤ 2 ^ 16 := Nat.pow_le_pow_right (by omega) hk
  have hp0 : 0 < 2 ^ k := Nat.two_pow_pos k
  unfold nI
  apply Int32.toBitVec_inj.mp
  rw [Int32.toBitVec_and]
  apply BitVec.eq_of_toNat_eq
  rw [BitVec.toNat_and]
  show (n % 2 ^ 32) &&& ((2 ^ k - 1) % 2 ^ 32) = n % 2 ^ k % 2 ^ 32
  have hm : n % 2 ^ k < 2 ^ k := Nat.mod_lt _ hp0
  rw [Nat.mod_eq_of_lt (show 2 ^ k - 1 < 2 ^ 32 by omega), Nat.and_two_pow_sub_one_eq_mod, Nat.mod_eq_of_lt (show n % 2 ^ k < 2 ^ 32 by omega)]
  exact Nat.mod_mod_of_dvd n (Nat.pow_dvd_pow 2 (by omega))
theorem nI_m127 (n : Nat) : nI n &&& nI 127 = nI (n % 128) := nI_msk (n := n) (k := 7) (by omega)
theorem nI_m63 (n : Nat) : nI n &&& nI 63 = nI (n % 64) := nI_msk (n := n) (k := 6) (by omega)
theorem nI_m7 (n : Nat) : nI n &&& nI 7 = nI (n % 8) := nI_msk (n := n) (k := 3) (by omega)
theorem nI_m1' (n : Nat) : nI n &&& nI 1 = nI (n % 2) := nI_msk (n := n) (k := 1) (by omega)
/-- a PART out of its bytes -/
def pcL (bt : Nat → Nat) (at_ : Nat) : Nat := 20 + bt at_ % 128
def pcP (bt : Nat → Nat) (at_ : Nat) : Nat := bt (at_ + 1) % 8
def pcE (bt : Nat → Nat) (at_ sb : Nat) : Nat := 2 * (bt (at_ + 2) / 2 % (sb / 2))
def pcS (bt : Nat → Nat) (at_ : Nat) : Nat := bt (at_ + 2) % 2
def pcO (bt : Nat → Nat) (at_ sb : Nat) : Nat := 2 * (bt (at_ + 3) / 2 % (sb / 2)) + 1
def pcT (bt : Nat → Nat) (at_ : Nat) : Nat := bt (at_ + 3) % 2
def pcJ (bt : Nat → Nat) (at_ : Nat) : Nat := min (bt (at_ + 4) % 64) 51
theorem pc_b {bt : Nat → Nat} {at_ sb : Nat} (hb : sb = 40 ∨ sb = 80) : 20 ≤ pcL bt at_ ∧ pcL bt at_ ≤ 147 ∧ pcE bt at_ sb < sb ∧ pcO bt at_ sb < sb ∧ pcS bt at_ < 2 ∧ pcT bt at_ < 2 ∧ pcJ bt at_ < 52 := by
  have h1 : bt (at_ + 2) / 2 % (sb / 2) < sb / 2 := Nat.mod_lt _ (by omega)
  have h2 : bt (at_ + 3) / 2 % (sb / 2) < sb / 2 := Nat.mod_lt _ (by omega)
  unfold pcL pcE pcO pcS pcT pcJ
  refine ⟨by omega, by omega, by omega, by omega, by omega, by omega, by omega⟩
def dcEs (bt : Nat → Nat) (sb : Nat) : Nat → (Nat → Int32) → Nat → Int32 := fun k H => sp_eE (nI (pcP bt (14 + 5 * k))) (nI (sp_gn (pcJ bt (14 + 5 * k)))) (sp_beh H (pcL bt (14 + 5 * k))) (sp_pv sb (pcE bt (14 + 5 * k) sb) (pcS bt (14 + 5 * k)) (pcO bt (14 + 5 * k) sb) (pcT bt (14 + 5 * k)))
def dcTs (bt : Nat → Nat) (sb : Nat) : Nat → (Nat → Int32) → Int64 := fun k H => sp_eT (nI (pcP bt (14 + 5 * k))) (nI (sp_gn (pcJ bt (14 + 5 * k)))) (sp_beh H (pcL bt (14 + 5 * k))) (sp_pv sb (pcE bt (14 + 5 * k) sb) (pcS bt (14 + 5 * k)) (pcO bt (14 + 5 * k) sb) (pcT bt (14 + 5 * k))) sb
/-- the INDEXES out of their bytes -/
def dcI (bt : Nat → Nat) : Nat → Int32 := fun j => if nI (bt (6 + j) % 64) - nI 32 < -31 then -31 else nI (bt (6 + j) % 64) - nI 32
def dcX (bt : Nat → Nat) : Nat → Int32 := sgp (fun _ => 0) 0 8 (dcI bt)
section VDF
variable {g : mm_G} {B : mm_B} {I : mm_TI} {J : mm_TJ} {P : mm_TP} {x o f q pt : Nat}
theorem ct_X4_atN {n k : Nat} {bt : Nat → Nat} (tf : mm_T B f = 104) (tq : mm_T B q = 201) (nq : mm_N B q = n) (hn : n ≤ 64) (hp : P f 1 = some q) (hk : k < n) (hF : ∀ k, k < n → ub (I q k) = bt k) : Ct g mX4_at [.ref f, .int (nI k)] B I J P (some (.int (nI (bt k))), B, I, J, P) := by
  have e := ct_X4_at (g := g) (B := B) (I := I) (J := J) (P := P) tf tq nq hn hp hk
  rw [ub_e, hF k hk] at e
  exact e
theorem ct_X11_lagOf {b : Nat} : Ct g mX11_lagOf [.int (nI b)] B I J P (some (.int (nI (20 + b % 128))), B, I, J, P) := by
  refine ct_of (lv := [some (.int (nI b))]) (by decide +kernel) (Nat.le_of_ble_eq_true rfl) rfl ?_
  refine ev_bipushN 2 20 dX11_lagOf_0 (by decide +kernel) rfl ?_
  refine ev_iload_n 3 dX11_lagOf_2 rfl rfl ?_
  refine ev_bipushN 5 127 dX11_lagOf_3 (by decide +kernel) rfl ?_
  refine ev_iand 6 dX11_lagOf_5 rfl ?_
  refine ev_eqI (y := nI ((b%128))) ((nI_m127 b)) ?_
  refine ev_iaddN 7 dX11_lagOf_6 rfl ?_
  exact ev_iret dX11_lagOf_7 rfl (rfl)
theorem ct_X7_placeOf {b sb : Nat} (hb : b < 256) (hs : sb = 40 ∨ sb = 80) : Ct g mX7_placeOf [.int (nI b), .int (nI sb)] B I J P (some (.int (nI (2 * (b / 2 % (sb / 2))))), B, I, J, P) := by
  refine ct_of (lv := [some (.int (nI b)), some (.int (nI sb)), none]) (by decide +kernel) (Nat.le_of_ble_eq_true rfl) rfl ?_
  refine ev_iload_n 1 dX7_placeOf_0 rfl rfl ?_
  refine ev_iconstN 2 2 dX7_placeOf_1 rfl ?_
  refine ev_idivN 3 dX7_placeOf_2 (by omega) (by omega) (by omega) rfl ?_
  refine ev_istore_n 4 (lv' := [_, some (.int _), _]) dX7_placeOf_3 (Nat.le_of_ble_eq_true rfl) rfl rfl ?_
  refine ev_iload_n 5 dX7_placeOf_4 rfl rfl ?_
  refine ev_iconstN 6 1 dX7_placeOf_5 rfl ?_
  refine ev_icmp_geN 9 13 dX7_placeOf_6 (by decide) (by omega) (by omega) rfl (fun hbr => ?_) (fun hx => absurd ((by omega)) hx)
  refine ev_iconstN 14 2 dX7_placeOf_13 rfl ?_
  refine ev_iload_n 15 dX7_placeOf_14 rfl rfl ?_
  refine ev_iconstN 16 2 dX7_placeOf_15 rfl ?_
  refine ev_idivN 17 dX7_placeOf_16 (by omega) (by omega) (by omega) rfl ?_
  refine ev_iload_n 18 dX7_placeOf_17 rfl rfl ?_
  refine ev_iremN 19 dX7_placeOf_18 (by omega) (by omega) (by omega) rfl ?_
  refine ev_imulN 20 dX7_placeOf_19 rfl ?_
  exact ev_iret dX7_placeOf_20 rfl (rfl)
theorem ct_X7_readFrom {n at_ sb : Nat} {bt : Nat → Nat} (tp : mm_T B pt = 107) (tf : mm_T B f = 104) (tq : mm_T B q = 201) (nq : mm_N B q = n) (hn : n ≤ 64) (hp : P f 1 = some q) (hk : at_ + 5 ≤ n) (hs : sb = 40 ∨ sb = 80) (hF : ∀ k, k < n → ub (I q k) = bt k) (hne : pt ≠ q) : Ct g mX7_readFrom [.ref pt, .ref f, .int (nI at_), .int (nI sb)] B I J P
    (none, B, va_up I pt (va_up (va_up (va_up (va_up (va_up (va_up (va_up (I pt) 0 (nI (pcL bt at_))) 1 (nI (pcP bt at_))) 2 (nI (pcE bt at_ sb))) 3 (nI (pcS bt at_))) 4 (nI (pcO bt at_ sb))) 5 (nI (pcT bt at_))) 6 (nI (pcJ bt at_))), J, P) := by
  have hF' : ∀ (F : Nat → Int32) k, k < n → ub (va_up I pt F q k) = bt k := fun F k hk => by rw [va_up_n _ _ (fun e => hne e.symm)]; exact hF k hk
  have hbt : ∀ k, k < n → bt k < 256 := fun k hk => by rw [← hF k hk]; exact ub_l _
  unfold pcL pcP pcE pcS pcO pcT pcJ
  refine ct_of (lv := [some (.ref pt), some (.ref f), some (.int (nI at_)), some (.int (nI sb))]) (by decide +kernel) (Nat.le_of_ble_eq_true rfl) rfl ?_
  refine ev_aload_n 1 dX7_readFrom_0 rfl rfl ?_
  refine ev_aload_n 2 dX7_readFrom_1 rfl rfl ?_
  refine ev_iload_n 3 dX7_readFrom_2 rfl rfl ?_
  refine ev_invV 6 (Mc := mX4_at) ⟨lk1073, lk89, hdX4_at, (Nat.le_of_ble_eq_true rfl), (Nat.le_of_ble_eq_true rfl)⟩ lk1087 lk1071 lk1072 mm_cl4 rfl dX7_readFrom_3 (ct_X4_atN (k := at_) tf tq nq hn hp (by omega) hF) rfl tf (Nat.le_of_ble_eq_true rfl) rfl rfl ?_
  refine ev_invSN 9 (Mc := mX11_lagOf) ⟨lk1090, lk75, hdX11_lagOf, (Nat.le_of_ble_eq_true rfl), (Nat.le_of_ble_eq_true rfl)⟩ lk1088 lk1089 dX7_readFrom_6 (ct_X11_lagOf) rfl (Nat.le_of_ble_eq_true rfl) rfl rfl ?_
  refine ev_putI 12 mm_cl7 (j := 0) (Nat.le_of_ble_eq_true rfl) dX7_readFrom_9 lk198 rfl (fun _ _ _ => rfl) rfl rfl tp rfl ?_
  refine ev_aload_n 13 dX7_readFrom_12 rfl rfl ?_
  refine ev_aload_n 14 dX7_readFrom_13 rfl rfl ?_
  refine ev_iload_n 15 dX7_readFrom_14 rfl rfl ?_
  refine ev_iconstN 16 1 dX7_readFrom_15 rfl ?_
  refine ev_iaddN 17 dX7_readFrom_16 rfl ?_
  refine ev_invV 20 (Mc := mX4_at) ⟨lk1073, lk89, hdX4_at, (Nat.le_of_ble_eq_true rfl), (Nat.le_of_ble_eq_true rfl)⟩ lk1087 lk1071 lk1072 mm_cl4 rfl dX7_readFrom_17 (ct_X4_atN (k := at_ + 1) tf tq nq hn hp (by omega) (hF' _)) rfl tf (Nat.le_of_ble_eq_true rfl) rfl rfl ?_
  refine ev_bipushN 22 7 dX7_readFrom_20 (by decide +kernel) rfl ?_
  refine ev_iand 23 dX7_readFrom_22 rfl ?_
  refine ev_eqI (y := nI ((bt (at_+1)%8))) ((nI_m7 _)) ?_
  refine ev_putI 26 mm_cl7 (j := 1) (Nat.le_of_ble_eq_true rfl) dX7_readFrom_23 lk204 rfl (fun _ _ _ => rfl) rfl rfl tp rfl ?_
  rw [va_up_s, bx_uu]
  refine ev_aload_n 27 dX7_readFrom_26 rfl rfl ?_
  refine ev_aload_n 28 dX7_readFrom_27 rfl rfl ?_
  refine ev_iload_n 29 dX7_readFrom_28 rfl rfl ?_
  refine ev_iconstN 30 2 dX7_readFrom_29 rfl ?_
  refine ev_iaddN 31 dX7_readFrom_30 rfl ?_
  refine ev_invV 34 (Mc := mX4_at) ⟨lk1073, lk89, hdX4_at, (Nat.le_of_ble_eq_true rfl), (Nat.le_of_ble_eq_true rfl)⟩ lk1087 lk1071 lk1072 mm_cl4 rfl dX7_readFrom_31 (ct_X4_atN (k := at_ + 2) tf tq nq hn hp (by omega) (hF' _)) rfl tf (Nat.le_of_ble_eq_true rfl) rfl rfl ?_
  refine ev_iload_n 35 dX7_readFrom_34 rfl rfl ?_
  refine ev_invS 38 (Mc := mX7_placeOf) ⟨lk1093, lk79, hdX7_placeOf, (Nat.le_of_ble_eq_true rfl), (Nat.le_of_ble_eq_true rfl)⟩ lk1091 lk1092 dX7_readFrom_35 (ct_X7_placeOf (hbt _ (by omega)) hs) rfl (Nat.le_of_ble_eq_true rfl) rfl rfl ?_
  refine ev_putI 41 mm_cl7 (j := 2) (Nat.le_of_ble_eq_true rfl) dX7_readFrom_38 lk207 rfl (fun _ _ _ => rfl) rfl rfl tp rfl ?_
  rw [va_up_s, bx_uu]
  refine ev_aload_n 42 dX7_readFrom_41 rfl rfl ?_
  refine ev_aload_n 43 dX7_readFrom_42 rfl rfl ?_
  refine ev_iload_n 44 dX7_readFrom_43 rfl rfl ?_
  refine ev_iconstN 45 2 dX7_readFrom_44 rfl ?_
  refine ev_iaddN 46 dX7_readFrom_45 rfl ?_
  refine ev_invV 49 (Mc := mX4_at) ⟨lk1073, lk89, hdX4_at, (Nat.le_of_ble_eq_true rfl), (Nat.le_of_ble_eq_true rfl)⟩ lk1087 lk1071 lk1072 mm_cl4 rfl dX7_readFrom_46 (ct_X4_atN (k := at_ + 2) tf tq nq hn hp (by omega) (hF' _)) rfl tf (Nat.le_of_ble_eq_true rfl) rfl rfl ?_
  refine ev_iconstN 50 1 dX7_readFrom_49 rfl ?_
  refine ev_iand 51 dX7_readFrom_50 rfl ?_
  refine ev_eqI (y := nI ((bt (at_+2)%2))) ((nI_m1' _)) ?_
  refine ev_putI 54 mm_cl7 (j := 3) (Nat.le_of_ble_eq_true rfl) dX7_readFrom_51 lk209 rfl (fun _ _ _ => rfl) rfl rfl tp rfl ?_
  rw [va_up_s, bx_uu]
  refine ev_aload_n 55 dX7_readFrom_54 rfl rfl ?_
  refine ev_aload_n 56 dX7_readFrom_55 rfl rfl ?_
  refine ev_iload_n 57 dX7_readFrom_56 rfl rfl ?_
  refine ev_iconstN 58 3 dX7_readFrom_57 rfl ?_
  refine ev_iaddN 59 dX7_readFrom_58 rfl ?_
  refine ev_invV 62 (Mc := mX4_at) ⟨lk1073, lk89, hdX4_at, (Nat.le_of_ble_eq_true rfl), (Nat.le_of_ble_eq_true rfl)⟩ lk1087 lk1071 lk1072 mm_cl4 rfl dX7_readFrom_59 (ct_X4_atN (k := at_ + 3) tf tq nq hn hp (by omega) (hF' _)) rfl tf (Nat.le_of_ble_eq_true rfl) rfl rfl ?_
  refine ev_iload_n 63 dX7_readFrom_62 rfl rfl ?_
  refine ev_invS 66 (Mc := mX7_placeOf) ⟨lk1093, lk79, hdX7_placeOf, (Nat.le_of_ble_eq_true rfl), (Nat.le_of_ble_eq_true rfl)⟩ lk1091 lk1092 dX7_readFrom_63 (ct_X7_placeOf (hbt _ (by omega)) hs) rfl (Nat.le_of_ble_eq_true rfl) rfl rfl ?_
  refine ev_iconstN 67 1 dX7_readFrom_66 rfl ?_
  refine ev_iaddN 68 dX7_readFrom_67 rfl ?_
  refine ev_putI 71 mm_cl7 (j := 4) (Nat.le_of_ble_eq_true rfl) dX7_readFrom_68 lk211 rfl (fun _ _ _ => rfl) rfl rfl tp rfl ?_
  rw [va_up_s, bx_uu]
  refine ev_aload_n 72 dX7_readFrom_71 rfl rfl ?_
  refine ev_aload_n 73 dX7_readFrom_72 rfl rfl ?_
  refine ev_iload_n 74 dX7_readFrom_73 rfl rfl ?_
  refine ev_iconstN 75 3 dX7_readFrom_74 rfl ?_
  refine ev_iaddN 76 dX7_readFrom_75 rfl ?_
  refine ev_invV 79 (Mc := mX4_at) ⟨lk1073, lk89, hdX4_at, (Nat.le_of_ble_eq_true rfl), (Nat.le_of_ble_eq_true rfl)⟩ lk1087 lk1071 lk1072 mm_cl4 rfl dX7_readFrom_76 (ct_X4_atN (k := at_ + 3) tf tq nq hn hp (by omega) (hF' _)) rfl tf (Nat.le_of_ble_eq_true rfl) rfl rfl ?_
  refine ev_iconstN 80 1 dX7_readFrom_79 rfl ?_
  refine ev_iand 81 dX7_readFrom_80 rfl ?_
  refine ev_eqI (y := nI ((bt (at_+3)%2))) ((nI_m1' _)) ?_
  refine ev_putI 84 mm_cl7 (j := 5) (Nat.le_of_ble_eq_true rfl) dX7_readFrom_81 lk213 rfl (fun _ _ _ => rfl) rfl rfl tp rfl ?_
  rw [va_up_s, bx_uu]
  refine ev_aload_n 85 dX7_readFrom_84 rfl rfl ?_
  refine ev_aload_n 86 dX7_readFrom_85 rfl rfl ?_
  refine ev_iload_n 87 dX7_readFrom_86 rfl rfl ?_
  refine ev_iconstN 88 4 dX7_readFrom_87 rfl ?_
  refine ev_iaddN 89 dX7_readFrom_88 rfl ?_
  refine ev_invV 92 (Mc := mX4_at) ⟨lk1073, lk89, hdX4_at, (Nat.le_of_ble_eq_true rfl), (Nat.le_of_ble_eq_true rfl)⟩ lk1087 lk1071 lk1072 mm_cl4 rfl dX7_readFrom_89 (ct_X4_atN (k := at_ + 4) tf tq nq hn hp (by omega) (hF' _)) rfl tf (Nat.le_of_ble_eq_true rfl) rfl rfl ?_
  refine ev_bipushN 94 63 dX7_readFrom_92 (by decide +kernel) rfl ?_
  refine ev_iand 95 dX7_readFrom_94 rfl ?_
  refine ev_eqI (y := nI ((bt (at_+4)%64))) ((nI_m63 _)) ?_
  refine ev_bipushN 97 51 dX7_readFrom_95 (by decide +kernel) rfl ?_
  refine ev_min 100 dX7_readFrom_97 lk1094 lk759 lk87 lk760 (Nat.le_of_ble_eq_true rfl) (Nat.le_of_ble_eq_true rfl) (Nat.le_of_ble_eq_true rfl) rfl ?_
  refine ev_eqI (y := nI ((min (bt (at_+4)%64) 51))) ((nI_min (by omega) (by omega))) ?_
  refine ev_putI 103 mm_cl7 (j := 6) (Nat.le_of_ble_eq_true rfl) dX7_readFrom_100 lk216 rfl (fun _ _ _ => rfl) rfl rfl tp rfl ?_
  rw [va_up_s, bx_uu]
  exact ev_vret dX7_readFrom_103 rfl (rfl)
theorem lp_X1_dfi {n sb : Nat} {bt : Nat → Nat} {Z : mm_Z} (hV : lyV B P x) (hC : lyC B P x o) (tf : mm_T B f = 104) (tq : mm_T B q = 201) (nq : mm_N B q = n) (hn : n ≤ 64) (hp : P f 1 = some q) (hk : 34 ≤ n) (hF : ∀ k, k < n → ub (I q k) = bt k) (hq : q ≠ o + 32)
    (K : Ev g mX1_decodeFrame 134 [some (.ref (o + 17)), some (.ref f), some (.int (nI sb)), none] [] B (va_up I (o + 32) (sgp (I (o + 32)) 0 8 (dcI bt))) J P Z) : ∀ (d j : Nat), j + d = 8 →
    Ev g mX1_decodeFrame 94 [some (.ref (o + 17)), some (.ref f), some (.int (nI sb)), some (.int (nI j))] [] B (va_up I (o + 32) (sgp (I (o + 32)) 0 j (dcI bt))) J P Z := by
  intro d
  induction d with
  | zero =>
    intro j hj
    obtain rfl : j = 8 := by omega
    refine ev_iload_n 95 dX1_decodeFrame_94 rfl rfl ?_
    refine ev_bipushN 97 8 dX1_decodeFrame_95 (by decide +kernel) rfl ?_
    refine ev_icmp_geN 100 134 dX1_decodeFrame_97 (by decide) (by omega) (by omega) rfl (fun hbr => ?_) (fun hx => absurd ((by omega)) hx)
    refine ev_le (mle_s (mle_s (mle_s (mle_n (mle_0))))) ?_
    exact K
  | succ d ih =>
    intro j hj
    have e := ih (j + 1) (by omega)
    rw [← sg0_grow (w := dcI bt j) rfl] at e
    refine ev_iload_n 95 dX1_decodeFrame_94 rfl rfl ?_
    refine ev_bipushN 97 8 dX1_decodeFrame_95 (by decide +kernel) rfl ?_
    refine ev_icmp_geN 100 134 dX1_decodeFrame_97 (by decide) (by omega) (by omega) rfl (fun hx => absurd hx ((by omega))) (fun hbr => ?_)
    refine ev_aload_n 101 dX1_decodeFrame_100 rfl rfl ?_
    refine ev_getP 104 mm_cl1 (j := 2) (Nat.le_of_ble_eq_true rfl) dX1_decodeFrame_101 lk474 (fun _ _ _ => rfl) (hC.1 17 _ rfl) (a := (o + 29)) (hC.2.2.1 13 _ _ _ rfl) rfl ?_
    refine ev_getP 107 mm_cl6 (j := 2) (Nat.le_of_ble_eq_true rfl) dX1_decodeFrame_104 lk348 (fun _ _ _ => rfl) (hC.1 29 _ rfl) (a := (o + 32)) (hC.2.2.1 19 _ _ _ rfl) rfl ?_
    refine ev_iload_n 108 dX1_decodeFrame_107 rfl rfl ?_
    refine ev_aload_n 109 dX1_decodeFrame_108 rfl rfl ?_
    refine ev_bipushN 111 6 dX1_decodeFrame_109 (by decide +kernel) rfl ?_
    refine ev_iload_n 112 dX1_decodeFrame_111 rfl rfl ?_
    refine ev_iaddN 113 dX1_decodeFrame_112 rfl ?_
    refine ev_invV 116 (Mc := mX4_at) ⟨lk1073, lk89, hdX4_at, (Nat.le_of_ble_eq_true rfl), (Nat.le_of_ble_eq_true rfl)⟩ lk1078 lk1071 lk1072 mm_cl4 rfl dX1_decodeFrame_113 (ct_X4_atN (k := 6 + j) (bt := bt) tf tq nq hn hp (by omega) (fun k hk => by rw [va_up_n _ _ hq]; exact hF k hk)) rfl tf (Nat.le_of_ble_eq_true rfl) rfl rfl ?_
    refine ev_bipushN 118 63 dX1_decodeFrame_116 (by decide +kernel) rfl ?_
    refine ev_iand 119 dX1_decodeFrame_118 rfl ?_
    refine ev_eqI (y := nI ((bt (6+j)%64))) ((nI_m63 _)) ?_
    refine ev_bipushN 121 32 dX1_decodeFrame_119 (by decide +kernel) rfl ?_
    refine ev_isub 122 dX1_decodeFrame_121 rfl ?_
    refine ev_bipush 124 (v := -31) dX1_decodeFrame_122 (by decide +kernel) rfl ?_
    refine ev_max 127 dX1_decodeFrame_124 lk1082 lk679 lk87 lk680 (Nat.le_of_ble_eq_true rfl) (Nat.le_of_ble_eq_true rfl) (Nat.le_of_ble_eq_true rfl) rfl ?_
    refine ev_eqI (y := (dcI bt j)) (rfl) ?_
    refine ev_iast 128 _ dX1_decodeFrame_127 (hC.1 32 _ rfl) rfl (by have hNN := hC.2.1 32 _ rfl; omega) rfl ?_
    refine ev_iincN 131 (lv' := [_, _, some (.int _), _]) 1 dX1_decodeFrame_128 rfl (Nat.le_of_ble_eq_true rfl) rfl rfl ?_
    refine ev_goto 94 dX1_decodeFrame_131 (by decide) ?_
    rw [va_up_s, bx_uu]
    exact e
theorem lx_X1_dfp {n sb : Nat} {bt : Nat → Nat} {I0 : mm_TI} {J0 : mm_TJ} {ix H0 V0 Y0 : Nat → Int32} (hV : lyV B P x) (hC : lyC B P x o) (hG : ly_G g B) (hc : st_c g I0) (hgx : ∀ i, i < 3 → g.2.2 i < x) (hxo : x + 22 ≤ o) (tf : mm_T B f = 104) (tq : mm_T B q = 201) (nq : mm_N B q = n) (hn : n ≤ 64) (hp : P f 1 = some q) (hk : 34 ≤ n) (hs : sb = 40 ∨ sb = 80) (hF : ∀ k, k < n → ub (I0 q k) = bt k) (hqo : x + 22 ≤ q ∧ (q < o ∨ o + 33 ≤ q)) (hix : I0 (o + 32) = ix) (hHz : ∀ n, 160 ≤ n → H0 n = 0) : ∀ (d k : Nat), k + d = 4 → ∀ I : mm_TI,
    I (o + 30) = gH (dcEs bt sb) sb H0 k → I (o + 31) = (gV ix (dcEs bt sb) (dcTs bt sb) sb H0 (V0, Y0, 0) k).1 → I (x + 6) = (gV ix (dcEs bt sb) (dcTs bt sb) sb H0 (V0, Y0, 0) k).2.1 → (∀ q, q ≠ o + 30 → q ≠ o + 31 → q ≠ o + 18 → q < x + 6 ∨ x + 9 < q → I q = I0 q) → (1 ≤ k → I (o + 18) 0 = nI (pcL bt (14 + 5 * (k - 1))) ∧ I (o + 18) 6 = nI (pcJ bt (14 + 5 * (k - 1)))) →
    ∃ I' : mm_TI, I' (o + 30) = gH (dcEs bt sb) sb H0 4 ∧ I' (o + 31) = (gV ix (dcEs bt sb) (dcTs bt sb) sb H0 (V0, Y0, 0) 4).1 ∧ I' (x + 6) = (gV ix (dcEs bt sb) (dcTs bt sb) sb H0 (V0, Y0, 0) 4).2.1 ∧ (∀ q, q ≠ o + 30 → q ≠ o + 31 → q ≠ o + 18 → q < x + 6 ∨ x + 9 < q → I' q = I0 q) ∧ I' (o + 18) 0 = nI (pcL bt 29) ∧ I' (o + 18) 6 = nI (pcJ bt 29) ∧
      ∀ Z : mm_Z, Ev g mX1_decodeFrame 177 [some (.ref (o + 17)), some (.ref f), some (.int (nI sb)), none] [] B I' (sp_up J0 (x + 1) 3 (gV ix (dcEs bt sb) (dcTs bt sb) sb H0 (V0, Y0, 0) 4).2.2) P Z → Ev g mX1_decodeFrame 136 [some (.ref (o + 17)), some (.ref f), some (.int (nI sb)), some (.int (nI k))] [] B I (sp_up J0 (x + 1) 3 (gV ix (dcEs bt sb) (dcTs bt sb) sb H0 (V0, Y0, 0) k).2.2) P Z := by
  intro d
  induction d with
  | zero =>
    intro k hk4 I h1 h2 h3 h4 h5
    obtain rfl : k = 4 := by omega
    refine ⟨I, h1, h2, h3, h4, (h5 (by omega)).1, (h5 (by omega)).2, fun Z e => ?_⟩
    refine ev_iload_n 137 dX1_decodeFrame_136 rfl rfl ?_
    refine ev_iconstN 138 4 dX1_decodeFrame_137 rfl ?_
    refine ev_icmp_geN 141 177 dX1_decodeFrame_138 (by decide) (by omega) (by omega) rfl (fun hbr => ?_) (fun hx => absurd ((by omega)) hx)
    refine ev_le (mle_s (mle_s (mle_s (mle_n (mle_0))))) ?_
    exact e
  | succ d ih =>
    intro k hk4 I h1 h2 h3 h4 h5
    have hsk : sb * k + sb ≤ 320 := by
      have := Nat.mul_le_mul_left sb (show k + 1 ≤ 4 by omega)
      rw [Nat.mul_add] at this; omega
    obtain ⟨b1, b2, b3, b4, b5, b6, b7⟩ := pc_b (bt := bt) (at_ := 14 + 5 * k) hs
    have dH : gH (dcEs bt sb) sb H0 (k + 1) = sp_sh (gH (dcEs bt sb) sb H0 k) (dcEs bt sb k (gH (dcEs bt sb) sb H0 k)) sb := rfl
    have dV : gV ix (dcEs bt sb) (dcTs bt sb) sb H0 (V0, Y0, 0) (k + 1) = ((sp_sq ix (dcEs bt sb k (gH (dcEs bt sb) sb H0 k)) (sb * k) ((gV ix (dcEs bt sb) (dcTs bt sb) sb H0 (V0, Y0, 0) k).1, (gV ix (dcEs bt sb) (dcTs bt sb) sb H0 (V0, Y0, 0) k).2.1, 0) sb).1, (sp_sq ix (dcEs bt sb k (gH (dcEs bt sb) sb H0 k)) (sb * k) ((gV ix (dcEs bt sb) (dcTs bt sb) sb H0 (V0, Y0, 0) k).1, (gV ix (dcEs bt sb) (dcTs bt sb) sb H0 (V0, Y0, 0) k).2.1, 0) sb).2.1, (gV ix (dcEs bt sb) (dcTs bt sb) sb H0 (V0, Y0, 0) k).2.2 + (dcTs bt sb k (gH (dcEs bt sb) sb H0 k) + (sp_sq ix (dcEs bt sb k (gH (dcEs bt sb) sb H0 k)) (sb * k) ((gV ix (dcEs bt sb) (dcTs bt sb) sb H0 (V0, Y0, 0) k).1, (gV ix (dcEs bt sb) (dcTs bt sb) sb H0 (V0, Y0, 0) k).2.1, 0) sb).2.2)) := rfl
    have zk := gH_z (Es := dcEs bt sb) (sb := sb) hHz k
    generalize hg2 : gV ix (dcEs bt sb) (dcTs bt sb) sb H0 (V0, Y0, 0) (k + 1) = VV1 at *
    generalize hg1 : gH (dcEs bt sb) sb H0 (k + 1) = H1 at *
    generalize gH (dcEs bt sb) sb H0 k = H at *
    generalize gV ix (dcEs bt sb) (dcTs bt sb) sb H0 (V0, Y0, 0) k = VV at *
    have rf := ct_X7_readFrom (g := g) (B := B) (I := I) (J := sp_up J0 (x + 1) 3 VV.2.2) (P := P) (f := f) (q := q) (pt := o + 18) (n := n) (at_ := 14 + 5 * k) (sb := sb) (bt := bt) (hC.1 18 _ rfl) tf tq nq hn hp (by omega) hs (fun j hj => by rw [h4 q (by omega) (by omega) (by omega) (by omega)]; exact hF j hj) (by omega)
    generalize hPt : va_up (va_up (va_up (va_up (va_up (va_up (va_up (I (o + 18)) 0 (nI (pcL bt (14 + 5 * k)))) 1 (nI (pcP bt (14 + 5 * k)))) 2 (nI (pcE bt (14 + 5 * k) sb))) 3 (nI (pcS bt (14 + 5 * k)))) 4 (nI (pcO bt (14 + 5 * k) sb))) 5 (nI (pcT bt (14 + 5 * k)))) 6 (nI (pcJ bt (14 + 5 * k))) = Pt at rf
    generalize hI1 : va_up I (o + 18) Pt = I1 at rf
    have a1 : ∀ q, q ≠ o + 18 → I1 q = I q := fun q h => by rw [← hI1, va_up_n _ _ h]
    have ep : I1 (o + 18) = Pt := by rw [← hI1, va_up_s]
    have p0 : Pt 0 = nI (pcL bt (14 + 5 * k)) := by rw [← hPt]; simp only [va_up_s, va_up_n _ _ (show (0 : Nat) ≠ 1 by omega), va_up_n _ _ (show (0 : Nat) ≠ 2 by omega), va_up_n _ _ (show (0 : Nat) ≠ 3 by omega), va_up_n _ _ (show (0 : Nat) ≠ 4 by omega), va_up_n _ _ (show (0 : Nat) ≠ 5 by omega), va_up_n _ _ (show (0 : Nat) ≠ 6 by omega)]
    have p1 : Pt 1 = nI (pcP bt (14 + 5 * k)) := by rw [← hPt]; simp only [va_up_s, va_up_n _ _ (show (1 : Nat) ≠ 2 by omega), va_up_n _ _ (show (1 : Nat) ≠ 3 by omega), va_up_n _ _ (show (1 : Nat) ≠ 4 by omega), va_up_n _ _ (show (1 : Nat) ≠ 5 by omega), va_up_n _ _ (show (1 : Nat) ≠ 6 by omega)]
    have p2 : Pt 2 = nI (pcE bt (14 + 5 * k) sb) := by rw [← hPt]; simp only [va_up_s, va_up_n _ _ (show (2 : Nat) ≠ 3 by omega), va_up_n _ _ (show (2 : Nat) ≠ 4 by omega), va_up_n _ _ (show (2 : Nat) ≠ 5 by omega), va_up_n _ _ (show (2 : Nat) ≠ 6 by omega)]
    have p3 : Pt 3 = nI (pcS bt (14 + 5 * k)) := by rw [← hPt]; simp only [va_up_s, va_up_n _ _ (show (3 : Nat) ≠ 4 by omega), va_up_n _ _ (show (3 : Nat) ≠ 5 by omega), va_up_n _ _ (show (3 : Nat) ≠ 6 by omega)]
    have p4 : Pt 4 = nI (pcO bt (14 + 5 * k) sb) := by rw [← hPt]; simp only [va_up_s, va_up_n _ _ (show (4 : Nat) ≠ 5 by omega), va_up_n _ _ (show (4 : Nat) ≠ 6 by omega)]
    have p5 : Pt 5 = nI (pcT bt (14 + 5 * k)) := by rw [← hPt]; simp only [va_up_s, va_up_n _ _ (show (5 : Nat) ≠ 6 by omega)]
    have p6 : Pt 6 = nI (pcJ bt (14 + 5 * k)) := by rw [← hPt, va_up_s]
    have e30 : I1 (o + 30) = H := by rw [a1 _ (by omega)]; exact h1
    have e31 : I1 (o + 31) = VV.1 := by rw [a1 _ (by omega)]; exact h2
    have e32 : I1 (o + 32) = ix := by rw [a1 _ (by omega), h4 _ (by omega) (by omega) (by omega) (by omega)]; exact hix
    have e06 : I1 (x + 6) = VV.2.1 := by rw [a1 _ (by omega)]; exact h3
    obtain ⟨I2, c2, y1, y2, y3, y4, y5⟩ := cx_X6_speak (g := g) (B := B) (I := I1) (J := sp_up J0 (x + 1) 3 VV.2.2) (P := P) (x := x) (b := o + 29) (pt := o + 18) (sb := sb) (fr := k * sb) (L := pcL bt (14 + 5 * k)) (ev := pcE bt (14 + 5 * k) sb) (es := pcS bt (14 + 5 * k)) (od := pcO bt (14 + 5 * k) sb) (os := pcT bt (14 + 5 * k)) (j := pcJ bt (14 + 5 * k)) (p := nI (pcP bt (14 + 5 * k))) hV (lyK_of29 hC) hG
      (st_c_of hc (fun i hi => by have := hgx i hi; rw [a1 _ (by omega), h4 _ (by omega) (by omega) (by omega) (by omega)])) (by omega) hgx (hC.1 18 _ rfl) (by omega) (by omega) (by rw [Nat.mul_comm]; omega) b1 b2 b7 (by omega) (by omega) (by omega) (by omega)
      (by rw [show o + 29 + 1 = o + 30 from rfl, e30]; exact zk) (by rw [ep]; exact p0) (by rw [ep]; exact p1) (by rw [ep]; exact p2) (by rw [ep]; exact p3) (by rw [ep]; exact p4) (by rw [ep]; exact p5) (by rw [ep]; exact p6)
    simp only [show o + 29 + 1 = o + 30 from rfl, show o + 29 + 2 = o + 31 from rfl, show o + 29 + 3 = o + 32 from rfl, e30, e31, e32, e06, Nat.mul_comm k sb, sp_up_up] at c2 y1 y2 y3 y5
    rw [show sp_eE (nI (pcP bt (14 + 5 * k))) (nI (sp_gn (pcJ bt (14 + 5 * k)))) (sp_beh H (pcL bt (14 + 5 * k))) (sp_pv sb (pcE bt (14 + 5 * k) sb) (pcS bt (14 + 5 * k)) (pcO bt (14 + 5 * k) sb) (pcT bt (14 + 5 * k))) = dcEs bt sb k H from rfl] at c2 y1 y2 y3
    rw [show sp_eT (nI (pcP bt (14 + 5 * k))) (nI (sp_gn (pcJ bt (14 + 5 * k)))) (sp_beh H (pcL bt (14 + 5 * k))) (sp_pv sb (pcE bt (14 + 5 * k) sb) (pcS bt (14 + 5 * k)) (pcO bt (14 + 5 * k) sb) (pcT bt (14 + 5 * k))) sb = dcTs bt sb k H from rfl, show VV.2.2 + (dcTs bt sb k H + (sp_sq ix (dcEs bt sb k H) (sb * k) (VV.1, VV.2.1, 0) sb).2.2) = VV1.2.2 by rw [dV]] at c2
    have A2 : ∀ q, q ≠ o + 30 → q ≠ o + 31 → q ≠ o + 18 → q < x + 6 ∨ x + 9 < q → I2 q = I0 q := fun q g1 g2 g3 g4 => by rw [y5 q (by omega) (by omega) (by omega) (by omega) (by omega) (by omega), a1 q g3]; exact h4 q g1 g2 g3 g4
    have e18 : I2 (o + 18) = Pt := by rw [y5 _ (by omega) (by omega) (by omega) (by omega) (by omega) (by omega), ep]
    obtain ⟨I', r1, r2, r3, r4, r5, r6, r7⟩ := ih (k + 1) (by omega) I2 (by rw [hg1, y1, dH]) (by rw [hg2, y2, dV]) (by rw [hg2, y3, dV]) A2 (fun _ => ⟨by rw [e18, p0]; rfl, by rw [e18, p6]; rfl⟩)
    rw [hg2] at r7
    refine ⟨I', r1, r2, r3, r4, r5, r6, fun Z e => ?_⟩
    have e2 := r7 Z e
    refine ev_iload_n 137 dX1_decodeFrame_136 rfl rfl ?_
    refine ev_iconstN 138 4 dX1_decodeFrame_137 rfl ?_
    refine ev_icmp_geN 141 177 dX1_decodeFrame_138 (by decide) (by omega) (by omega) rfl (fun hx => absurd hx ((by omega))) (fun hbr => ?_)
    refine ev_aload_n 142 dX1_decodeFrame_141 rfl rfl ?_
    refine ev_getP 145 mm_cl1 (j := 3) (Nat.le_of_ble_eq_true rfl) dX1_decodeFrame_142 lk476 (fun _ _ _ => rfl) (hC.1 17 _ rfl) (a := (o + 18)) (hC.2.2.1 14 _ _ _ rfl) rfl ?_
    refine ev_aload_n 146 dX1_decodeFrame_145 rfl rfl ?_
    refine ev_bipushN 148 14 dX1_decodeFrame_146 (by decide +kernel) rfl ?_
    refine ev_iconstN 149 5 dX1_decodeFrame_148 rfl ?_
    refine ev_iload_n 150 dX1_decodeFrame_149 rfl rfl ?_
    refine ev_imulN 151 dX1_decodeFrame_150 rfl ?_
    refine ev_iaddN 152 dX1_decodeFrame_151 rfl ?_
    refine ev_iload_n 153 dX1_decodeFrame_152 rfl rfl ?_
    refine ev_invVv 156 (Mc := mX7_readFrom) ⟨lk1086, lk79, hdX7_readFrom, (Nat.le_of_ble_eq_true rfl), (Nat.le_of_ble_eq_true rfl)⟩ lk1083 lk1084 lk1085 mm_cl7 rfl dX1_decodeFrame_153 (rf) rfl (hC.1 18 _ rfl) (Nat.le_of_ble_eq_true rfl) rfl rfl ?_
    refine ev_aload_n 157 dX1_decodeFrame_156 rfl rfl ?_
    refine ev_getP 160 mm_cl1 (j := 2) (Nat.le_of_ble_eq_true rfl) dX1_decodeFrame_157 lk474 (fun _ _ _ => rfl) (hC.1 17 _ rfl) (a := (o + 29)) (hC.2.2.1 13 _ _ _ rfl) rfl ?_
    refine ev_aload_n 161 dX1_decodeFrame_160 rfl rfl ?_
    refine ev_getP 164 mm_cl1 (j := 3) (Nat.le_of_ble_eq_true rfl) dX1_decodeFrame_161 lk476 (fun _ _ _ => rfl) (hC.1 17 _ rfl) (a := (o + 18)) (hC.2.2.1 14 _ _ _ rfl) rfl ?_
    refine ev_iload_n 165 dX1_decodeFrame_164 rfl rfl ?_
    refine ev_iload_n 166 dX1_decodeFrame_165 rfl rfl ?_
    refine ev_iload_n 167 dX1_decodeFrame_166 rfl rfl ?_
    refine ev_imulN 168 dX1_decodeFrame_167 rfl ?_
    rw [Nat.mul_comm k sb]
    refine ev_invVv 171 (Mc := mX6_speak) ⟨lk802, lk84, hdX6_speak, (Nat.le_of_ble_eq_true rfl), (Nat.le_of_ble_eq_true rfl)⟩ lk1095 lk800 lk801 mm_cl6 rfl dX1_decodeFrame_168 (c2) rfl (hC.1 29 _ rfl) (Nat.le_of_ble_eq_true rfl) rfl rfl ?_
    refine ev_iincN 174 (lv' := [_, _, some (.int _), _]) 1 dX1_decodeFrame_171 rfl (Nat.le_of_ble_eq_true rfl) rfl rfl ?_
    refine ev_goto 136 dX1_decodeFrame_174 (by decide) ?_
    exact e2
end VDF
