/-! opening a frame -/
def sp_vo (F : Nat → Int32) : Nat := if F 0 &&& nI 1 = nI 1 then 1 else 0
/-- the FINDING over n bytes -/
def sp_op (n : Nat) (F : Nat → Int32) : Nat :=
  if n < 6 then 3 else if b8 (sp_xs F (n - 1)) = F (n - 1) then
    (if F 2 < 0 then 5 else if nI n < nI 6 + F 2 then 3 else if F 5 < 0 then 5 else if nI n < nI 6 + F 2 + F 5 then 3 else if F 2 < nI (if sp_vo F = 1 then 28 else 2) then 6 else 0) else 4
theorem b8_r (v : Int32) : -128 ≤ (b8 v).toInt ∧ (b8 v).toInt ≤ 127 := by
  unfold b8
  rw [Int8.toInt_toInt32]
  have h1 := Int8.le_toInt v.toInt8
  have h2 := Int8.toInt_lt v.toInt8
  omega
theorem i_add_t {a b : Int32} (h1 : -1000000 ≤ a.toInt) (h2 : a.toInt ≤ 1000000) (h3 : -1000000 ≤ b.toInt) (h4 : b.toInt ≤ 1000000) : (a + b).toInt = a.toInt + b.toInt := by
  rw [Int32.toInt_add, Int.bmod_eq_of_le (by omega) (by omega)]
/-- a frame without a finding -/
theorem sp_op_0 {n : Nat} {F : Nat → Int32} (hn : n ≤ 64) (hF : ∀ k, k < n → b8 (F k) = F k) (h : sp_op n F = 0) : 6 ≤ n ∧ ∃ bd mo : Nat, F 2 = nI bd ∧ F 5 = nI mo ∧ 6 + bd + mo ≤ n ∧ (if sp_vo F = 1 then 28 else 2) ≤ bd := by
  unfold sp_op at h
  split at h
  · omega
  · rename_i h6
    split at h
    · have r2 := b8_r (F 2)
      have r5 := b8_r (F 5)
      rw [hF 2 (by omega)] at r2
      rw [hF 5 (by omega)] at r5
      split at h
      · omega
      · rename_i c1
        split at h
        · omega
        · rename_i c2
          split at h
          · omega
          · rename_i c3
            split at h
            · omega
            · rename_i c4
              have hw : (if sp_vo F = 1 then 28 else 2) ≤ 28 := by split <;> omega
              generalize (if sp_vo F = 1 then 28 else 2) = w at h hw ⊢
              split at h
              · omega
              · rename_i c5
                have z : (0 : Int32).toInt = 0 := rfl
                rw [Int32.lt_iff_toInt_lt, z] at c1 c3
                have k6 : (nI 6).toInt = 6 := nI_toInt (by omega)
                have kn : (nI n).toInt = n := nI_toInt (by omega)
                have e1 : (nI 6 + F 2).toInt = 6 + (F 2).toInt := by rw [i_add_t (by omega) (by omega) (by omega) (by omega), k6]
                have e2 : (nI 6 + F 2 + F 5).toInt = 6 + (F 2).toInt + (F 5).toInt := by rw [i_add_t (by omega) (by omega) (by omega) (by omega), e1]
                rw [Int32.lt_iff_toInt_lt, kn, e2] at c4
                have nb : ∀ v : Int32, 0 ≤ v.toInt → v.toInt ≤ 127 → v = nI v.toInt.toNat := fun v h1 h2 => by
                  apply Int32.toInt_inj.mp
                  rw [nI_toInt (by omega)]; omega
                refine ⟨by omega, (F 2).toInt.toNat, (F 5).toInt.toNat, nb _ (by omega) (by omega), nb _ (by omega) (by omega), by omega, ?_⟩
                have kb : (nI w).toInt = w := nI_toInt (by omega)
                rw [Int32.lt_iff_toInt_lt, kb] at c5
                omega
    · omega
section VOP
variable {g : mm_G} {B : mm_B} {I : mm_TI} {J : mm_TJ} {P : mm_TP} {f q m : Nat}
theorem ct_X4_at {n k : Nat} (tf : mm_T B f = 104) (tq : mm_T B q = 201) (nq : mm_N B q = n) (hn : n ≤ 64) (hp : P f 1 = some q) (hk : k < n) : Ct g mX4_at [.ref f, .int (nI k)] B I J P (some (.int (I q k &&& nI 255)), B, I, J, P) := by
  refine ct_of (lv := [some (.ref f), some (.int (nI k))]) (by decide +kernel) (Nat.le_of_ble_eq_true rfl) rfl ?_
  refine ev_aload_n 1 dX4_at_0 rfl rfl ?_
  refine ev_getP 4 mm_cl4 (j := 1) (Nat.le_of_ble_eq_true rfl) dX4_at_1 lk863 (fun _ _ _ => rfl) tf (a := q) (hp) rfl ?_
  refine ev_ifnull_r 7 dX4_at_4 rfl ?_
  refine ev_iload_n 8 dX4_at_7 rfl rfl ?_
  refine ev_if_ltN 11 20 dX4_at_8 (by decide) (by omega) rfl (fun hx => absurd hx (not_false)) (fun hbr => ?_)
  refine ev_iload_n 12 dX4_at_11 rfl rfl ?_
  refine ev_aload_n 13 dX4_at_12 rfl rfl ?_
  refine ev_getP 16 mm_cl4 (j := 1) (Nat.le_of_ble_eq_true rfl) dX4_at_13 lk863 (fun _ _ _ => rfl) tf (a := q) (hp) rfl ?_
  refine ev_alen 17 1 dX4_at_16 tq rfl ?_
  refine ev_icmp_ltN 20 24 dX4_at_17 (by decide) (by omega) (by omega) rfl (fun hbr => ?_) (fun hx => absurd ((by omega)) hx)
  refine ev_aload_n 25 dX4_at_24 rfl rfl ?_
  refine ev_getP 28 mm_cl4 (j := 1) (Nat.le_of_ble_eq_true rfl) dX4_at_25 lk863 (fun _ _ _ => rfl) tf (a := q) (hp) rfl ?_
  refine ev_iload_n 29 dX4_at_28 rfl rfl ?_
  refine ev_bald 30 _ dX4_at_29 tq rfl (by omega) rfl ?_
  refine ev_sipushN 33 255 dX4_at_30 (by decide +kernel) rfl ?_
  refine ev_iand 34 dX4_at_33 rfl ?_
  exact ev_iret dX4_at_34 rfl (rfl)
theorem ct_X4_isVoice {n : Nat} {F : Nat → Int32} (tf : mm_T B f = 104) (tq : mm_T B q = 201) (nq : mm_N B q = n) (hn : n ≤ 64) (hp : P f 1 = some q) (hk : 0 < n) (hF : ∀ k, k < n → I q k = F k) : Ct g mX4_isVoice [.ref f] B I J P (some (.int (nI (sp_vo F))), B, I, J, P) := by
  have e : I q 0 &&& nI 255 &&& nI 1 = F 0 &&& nI 1 := by rw [hF 0 hk, Int32.and_assoc]; rfl
  unfold sp_vo
  refine ct_of (lv := [some (.ref f)]) (by decide +kernel) (Nat.le_of_ble_eq_true rfl) rfl ?_
  refine ev_aload_n 1 dX4_isVoice_0 rfl rfl ?_
  refine ev_iconstN 2 0 dX4_isVoice_1 rfl ?_
  refine ev_invV 5 (Mc := mX4_at) ⟨lk1073, lk89, hdX4_at, (Nat.le_of_ble_eq_true rfl), (Nat.le_of_ble_eq_true rfl)⟩ lk1070 lk1071 lk1072 mm_cl4 rfl dX4_isVoice_2 (ct_X4_at (I := I) tf tq nq hn hp hk) rfl tf (Nat.le_of_ble_eq_true rfl) rfl rfl ?_
  refine ev_iconstN 6 1 dX4_isVoice_5 rfl ?_
  refine ev_iand 7 dX4_isVoice_6 rfl ?_
  refine ev_eqI (y := (F 0 &&& nI 1)) (e) ?_
  refine ev_iconstN 8 1 dX4_isVoice_7 rfl ?_
  refine ev_icmp_ne 11 15 dX4_isVoice_8 (by decide) rfl (fun hz => ?_) (fun hz => ?_)
  · rw [if_neg hz]
    refine ev_iconstN 16 0 dX4_isVoice_15 rfl ?_
    exact ev_zret dX4_isVoice_16 rfl (by first | rfl | assumption) (rfl)
  · rw [if_pos hz]
    refine ev_iconstN 12 1 dX4_isVoice_11 rfl ?_
    refine ev_goto 16 dX4_isVoice_12 (by decide) ?_
    exact ev_zret dX4_isVoice_16 rfl (by first | rfl | assumption) (rfl)
theorem ct_X4_open1 (tf : mm_T B f = 104) (hp : P f 1 = none) (hp2 : P f 2 = none) : Ct g mX4_openingFinding [.ref f] B I J P (some (.int (nI 1)), B, I, J, P) := by
  refine ct_of (lv := [some (.ref f), none]) (by decide +kernel) (Nat.le_of_ble_eq_true rfl) rfl ?_
  refine ev_aload_n 1 dX4_openingFinding_0 rfl rfl ?_
  refine ev_getN 4 mm_cl4 (j := 1) (Nat.le_of_ble_eq_true rfl) dX4_openingFinding_1 lk863 (fun _ _ _ => rfl) tf (hp) rfl ?_
  refine ev_ifnonnull_n 7 dX4_openingFinding_4 rfl ?_
  refine ev_aload_n 8 dX4_openingFinding_7 rfl rfl ?_
  refine ev_getN 11 mm_cl4 (j := 2) (Nat.le_of_ble_eq_true rfl) dX4_openingFinding_8 lk865 (fun _ _ _ => rfl) tf (hp2) rfl ?_
  refine ev_ifnonnull_n 14 dX4_openingFinding_11 rfl ?_
  refine ev_iconstN 15 1 dX4_openingFinding_14 rfl ?_
  refine ev_goto 19 dX4_openingFinding_15 (by decide) ?_
  exact ev_iret dX4_openingFinding_19 rfl (rfl)
theorem ct_X4_open2 (tf : mm_T B f = 104) (tq : mm_T B q = 202) (hp : P f 1 = none) (hp2 : P f 2 = some q) : Ct g mX4_openingFinding [.ref f] B I J P (some (.int (nI 2)), B, I, J, P) := by
  refine ct_of (lv := [some (.ref f), none]) (by decide +kernel) (Nat.le_of_ble_eq_true rfl) rfl ?_
  refine ev_aload_n 1 dX4_openingFinding_0 rfl rfl ?_
  refine ev_getN 4 mm_cl4 (j := 1) (Nat.le_of_ble_eq_true rfl) dX4_openingFinding_1 lk863 (fun _ _ _ => rfl) tf (hp) rfl ?_
  refine ev_ifnonnull_n 7 dX4_openingFinding_4 rfl ?_
  refine ev_aload_n 8 dX4_openingFinding_7 rfl rfl ?_
  refine ev_getP 11 mm_cl4 (j := 2) (Nat.le_of_ble_eq_true rfl) dX4_openingFinding_8 lk865 (fun _ _ _ => rfl) tf (a := q) (hp2) rfl ?_
  refine ev_ifnonnull_r 18 dX4_openingFinding_11 (by decide) ?_
  refine ev_iconstN 19 2 dX4_openingFinding_18 rfl ?_
  exact ev_iret dX4_openingFinding_19 rfl (rfl)
theorem ct_X4_open3 {n : Nat} {F : Nat → Int32} (tf : mm_T B f = 104) (tq : mm_T B q = 201) (nq : mm_N B q = n) (hn : n ≤ 64) (hp : P f 1 = some q) (hF : ∀ k, k < n → I q k = F k) (hb : ∀ k, k < n → b8 (F k) = F k) : Ct g mX4_openingFinding [.ref f] B I J P (some (.int (nI (sp_op n F))), B, I, J, P) := by
  unfold sp_op
  refine ct_of (lv := [some (.ref f), none]) (by decide +kernel) (Nat.le_of_ble_eq_true rfl) rfl ?_
  refine ev_aload_n 1 dX4_openingFinding_0 rfl rfl ?_
  refine ev_getP 4 mm_cl4 (j := 1) (Nat.le_of_ble_eq_true rfl) dX4_openingFinding_1 lk863 (fun _ _ _ => rfl) tf (a := q) (hp) rfl ?_
  refine ev_ifnonnull_r 20 dX4_openingFinding_4 (by decide) ?_
  refine ev_aload_n 21 dX4_openingFinding_20 rfl rfl ?_
  refine ev_getP 24 mm_cl4 (j := 1) (Nat.le_of_ble_eq_true rfl) dX4_openingFinding_21 lk863 (fun _ _ _ => rfl) tf (a := q) (hp) rfl ?_
  refine ev_alen 25 1 dX4_openingFinding_24 tq rfl ?_
  refine ev_eqI (y := nI (n)) ((by rw [nq])) ?_
  refine ev_bipushN 27 6 dX4_openingFinding_25 (by decide +kernel) rfl ?_
  by_cases c6 : n < 6
  · rw [if_pos c6]
    refine ev_icmp_geN 30 32 dX4_openingFinding_27 (by decide) (by omega) (by omega) rfl (fun hx => absurd hx ((by omega))) (fun hbr => ?_)
    refine ev_iconstN 31 3 dX4_openingFinding_30 rfl ?_
    exact ev_iret dX4_openingFinding_31 rfl (rfl)
  rw [if_neg c6]
  have su := ct_X11_sumOf (g := g) (B := B) (I := I) (J := J) (P := P) (q := q) (n := n - 1) (F := F) tq (by omega) (by omega) (fun k hk => hF k (by omega))
  have r2 := b8_r (F 2)
  rw [hb 2 (by omega)] at r2
  have k6 : (nI 6).toInt = 6 := nI_toInt (by omega)
  have e1 : (nI 6 + F 2).toInt = 6 + (F 2).toInt := by rw [i_add_t (by omega) (by omega) (by omega) (by omega), k6]
  have z : (0 : Int32).toInt = 0 := rfl
  refine ev_icmp_geN 30 32 dX4_openingFinding_27 (by decide) (by omega) (by omega) rfl (fun hbr => ?_) (fun hx => absurd ((by omega)) hx)
  refine ev_aload_n 33 dX4_openingFinding_32 rfl rfl ?_
  refine ev_getP 36 mm_cl4 (j := 1) (Nat.le_of_ble_eq_true rfl) dX4_openingFinding_33 lk863 (fun _ _ _ => rfl) tf (a := q) (hp) rfl ?_
  refine ev_aload_n 37 dX4_openingFinding_36 rfl rfl ?_
  refine ev_getP 40 mm_cl4 (j := 1) (Nat.le_of_ble_eq_true rfl) dX4_openingFinding_37 lk863 (fun _ _ _ => rfl) tf (a := q) (hp) rfl ?_
  refine ev_alen 41 1 dX4_openingFinding_40 tq rfl ?_
  refine ev_eqI (y := nI (n)) ((by rw [nq])) ?_
  refine ev_iconstN 42 1 dX4_openingFinding_41 rfl ?_
  refine ev_isubN 43 dX4_openingFinding_42 (by omega) rfl ?_
  refine ev_bald 44 _ dX4_openingFinding_43 tq rfl (by omega) rfl ?_
  refine ev_eqI (y := (F (n - 1))) ((hF _ (by omega))) ?_
  refine ev_aload_n 45 dX4_openingFinding_44 rfl rfl ?_
  refine ev_getP 48 mm_cl4 (j := 1) (Nat.le_of_ble_eq_true rfl) dX4_openingFinding_45 lk863 (fun _ _ _ => rfl) tf (a := q) (hp) rfl ?_
  refine ev_invSN 51 (Mc := mX11_sumOf) ⟨lk846, lk75, hdX11_sumOf, (Nat.le_of_ble_eq_true rfl), (Nat.le_of_ble_eq_true rfl)⟩ lk1065 lk845 dX4_openingFinding_48 (su) rfl (Nat.le_of_ble_eq_true rfl) rfl rfl ?_
  by_cases cs : b8 (sp_xs F (n - 1)) = F (n - 1)
  · rw [if_pos cs]
    refine ev_icmp_eq 54 56 dX4_openingFinding_51 (by decide) rfl (fun hbr => ?_) (fun hx => absurd (cs.symm) hx)
    refine ev_bipushN 58 6 dX4_openingFinding_56 (by decide +kernel) rfl ?_
    refine ev_aload_n 59 dX4_openingFinding_58 rfl rfl ?_
    refine ev_getP 62 mm_cl4 (j := 1) (Nat.le_of_ble_eq_true rfl) dX4_openingFinding_59 lk863 (fun _ _ _ => rfl) tf (a := q) (hp) rfl ?_
    refine ev_iconstN 63 2 dX4_openingFinding_62 rfl ?_
    refine ev_bald 64 _ dX4_openingFinding_63 tq rfl (by omega) rfl ?_
    refine ev_eqI (y := (F 2)) ((hF _ (by omega))) ?_
    refine ev_iadd 65 dX4_openingFinding_64 rfl ?_
    refine ev_istore_n 66 (lv' := [some (.ref _), _]) dX4_openingFinding_65 (Nat.le_of_ble_eq_true rfl) rfl rfl ?_
    refine ev_iload_n 67 dX4_openingFinding_66 rfl rfl ?_
    refine ev_bipushN 69 6 dX4_openingFinding_67 (by decide +kernel) rfl ?_
    by_cases c2 : F 2 < 0
    · rw [if_pos c2]
      refine ev_icmp_ge 72 74 dX4_openingFinding_69 (by decide) rfl (fun hx => absurd hx ((by rw [Int32.le_iff_toInt_le, e1, k6]; rw [Int32.lt_iff_toInt_lt, z] at c2; omega))) (fun hbr => ?_)
      refine ev_iconstN 73 5 dX4_openingFinding_72 rfl ?_
      exact ev_iret dX4_openingFinding_73 rfl (rfl)
    rw [if_neg c2]
    refine ev_icmp_ge 72 74 dX4_openingFinding_69 (by decide) rfl (fun hbr => ?_) (fun hx => absurd ((by rw [Int32.le_iff_toInt_le, e1, k6]; rw [Int32.lt_iff_toInt_lt, z] at c2; omega)) hx)
    refine ev_iload_n 75 dX4_openingFinding_74 rfl rfl ?_
    refine ev_aload_n 76 dX4_openingFinding_75 rfl rfl ?_
    refine ev_getP 79 mm_cl4 (j := 1) (Nat.le_of_ble_eq_true rfl) dX4_openingFinding_76 lk863 (fun _ _ _ => rfl) tf (a := q) (hp) rfl ?_
    refine ev_alen 80 1 dX4_openingFinding_79 tq rfl ?_
    refine ev_eqI (y := nI (n)) ((by rw [nq])) ?_
    by_cases c3 : nI n < nI 6 + F 2
    · rw [if_pos c3]
      refine ev_icmp_le 83 85 dX4_openingFinding_80 (by decide) rfl (fun hx => absurd hx ((Int32.not_le.mpr c3))) (fun hbr => ?_)
      refine ev_iconstN 84 3 dX4_openingFinding_83 rfl ?_
      exact ev_iret dX4_openingFinding_84 rfl (rfl)
    rw [if_neg c3]
    refine ev_icmp_le 83 85 dX4_openingFinding_80 (by decide) rfl (fun hbr => ?_) (fun hx => absurd ((Int32.not_lt.mp c3)) hx)
    refine ev_aload_n 86 dX4_openingFinding_85 rfl rfl ?_
    refine ev_getP 89 mm_cl4 (j := 1) (Nat.le_of_ble_eq_true rfl) dX4_openingFinding_86 lk863 (fun _ _ _ => rfl) tf (a := q) (hp) rfl ?_
    refine ev_iconstN 90 5 dX4_openingFinding_89 rfl ?_
    refine ev_bald 91 _ dX4_openingFinding_90 tq rfl (by omega) rfl ?_
    refine ev_eqI (y := (F 5)) ((hF _ (by omega))) ?_
    by_cases c4 : F 5 < 0
    · rw [if_pos c4]
      refine ev_if_ge 94 96 dX4_openingFinding_91 (by decide) rfl (fun hx => absurd hx ((Int32.not_le.mpr c4))) (fun hbr => ?_)
      refine ev_iconstN 95 5 dX4_openingFinding_94 rfl ?_
      exact ev_iret dX4_openingFinding_95 rfl (rfl)
    rw [if_neg c4]
    refine ev_if_ge 94 96 dX4_openingFinding_91 (by decide) rfl (fun hbr => ?_) (fun hx => absurd ((Int32.not_lt.mp c4)) hx)
    refine ev_iload_n 97 dX4_openingFinding_96 rfl rfl ?_
    refine ev_aload_n 98 dX4_openingFinding_97 rfl rfl ?_
    refine ev_getP 101 mm_cl4 (j := 1) (Nat.le_of_ble_eq_true rfl) dX4_openingFinding_98 lk863 (fun _ _ _ => rfl) tf (a := q) (hp) rfl ?_
    refine ev_iconstN 102 5 dX4_openingFinding_101 rfl ?_
    refine ev_bald 103 _ dX4_openingFinding_102 tq rfl (by omega) rfl ?_
    refine ev_eqI (y := (F 5)) ((hF _ (by omega))) ?_
    refine ev_iadd 104 dX4_openingFinding_103 rfl ?_
    refine ev_aload_n 105 dX4_openingFinding_104 rfl rfl ?_
    refine ev_getP 108 mm_cl4 (j := 1) (Nat.le_of_ble_eq_true rfl) dX4_openingFinding_105 lk863 (fun _ _ _ => rfl) tf (a := q) (hp) rfl ?_
    refine ev_alen 109 1 dX4_openingFinding_108 tq rfl ?_
    refine ev_eqI (y := nI (n)) ((by rw [nq])) ?_
    by_cases c5 : nI n < nI 6 + F 2 + F 5
    · rw [if_pos c5]
      refine ev_icmp_le 112 114 dX4_openingFinding_109 (by decide) rfl (fun hx => absurd hx ((Int32.not_le.mpr c5))) (fun hbr => ?_)
      refine ev_iconstN 113 3 dX4_openingFinding_112 rfl ?_
      exact ev_iret dX4_openingFinding_113 rfl (rfl)
    rw [if_neg c5]
    refine ev_icmp_le 112 114 dX4_openingFinding_109 (by decide) rfl (fun hbr => ?_) (fun hx => absurd ((Int32.not_lt.mp c5)) hx)
    refine ev_aload_n 115 dX4_openingFinding_114 rfl rfl ?_
    refine ev_getP 118 mm_cl4 (j := 1) (Nat.le_of_ble_eq_true rfl) dX4_openingFinding_115 lk863 (fun _ _ _ => rfl) tf (a := q) (hp) rfl ?_
    refine ev_iconstN 119 2 dX4_openingFinding_118 rfl ?_
    refine ev_bald 120 _ dX4_openingFinding_119 tq rfl (by omega) rfl ?_
    refine ev_eqI (y := (F 2)) ((hF _ (by omega))) ?_
    refine ev_aload_n 121 dX4_openingFinding_120 rfl rfl ?_
    refine ev_invV 124 (Mc := mX4_isVoice) ⟨lk1069, lk89, hdX4_isVoice, (Nat.le_of_ble_eq_true rfl), (Nat.le_of_ble_eq_true rfl)⟩ lk1066 lk1067 lk1068 mm_cl4 rfl dX4_openingFinding_121 (ct_X4_isVoice (I := I) (F := F) tf tq nq hn hp (by omega) hF) rfl tf (Nat.le_of_ble_eq_true rfl) rfl rfl ?_
    have k133 : Ev g mX4_openingFinding 133 [some (.ref f), some (.int (nI 6 + F 2))] [.int (nI (if sp_vo F = 1 then 28 else 2)), .int (F 2)] B I J P (some (.int (nI (if F 2 < nI (if sp_vo F = 1 then 28 else 2) then 6 else 0))), B, I, J, P) := by
      generalize (if sp_vo F = 1 then 28 else 2) = w
      by_cases c7 : F 2 < nI w
      · rw [if_pos c7]
        refine ev_icmp_ge 136 141 dX4_openingFinding_133 (by decide) rfl (fun hx => absurd hx ((Int32.not_le.mpr c7))) (fun hbr => ?_)
        refine ev_bipushN 138 6 dX4_openingFinding_136 (by decide +kernel) rfl ?_
        refine ev_goto 142 dX4_openingFinding_138 (by decide) ?_
        exact ev_iret dX4_openingFinding_142 rfl (rfl)
      · rw [if_neg c7]
        refine ev_icmp_ge 136 141 dX4_openingFinding_133 (by decide) rfl (fun hbr => ?_) (fun hx => absurd ((Int32.not_lt.mp c7)) hx)
        refine ev_iconstN 142 0 dX4_openingFinding_141 rfl ?_
        exact ev_iret dX4_openingFinding_142 rfl (rfl)
    have hvo : sp_vo F ≤ 1 := by unfold sp_vo; split <;> omega
    refine ev_if_eqN 127 132 dX4_openingFinding_124 (by decide) (by omega) rfl (fun hz => ?_) (fun hz => ?_)
    · rw [show (if sp_vo F = 1 then 28 else 2) = 2 by rw [if_neg (by omega)]] at k133 ⊢
      refine ev_iconstN 133 2 dX4_openingFinding_132 rfl ?_
      exact k133
    · rw [show (if sp_vo F = 1 then 28 else 2) = 28 by rw [if_pos (by omega)]] at k133 ⊢
      refine ev_bipushN 129 28 dX4_openingFinding_127 (by decide +kernel) rfl ?_
      refine ev_goto 133 dX4_openingFinding_129 (by decide) ?_
      exact k133
  · rw [if_neg cs]
    refine ev_icmp_eq 54 56 dX4_openingFinding_51 (by decide) rfl (fun hx => absurd hx ((fun h => cs h.symm))) (fun hbr => ?_)
    refine ev_iconstN 55 4 dX4_openingFinding_54 rfl ?_
    exact ev_iret dX4_openingFinding_55 rfl (rfl)
theorem ct_X12_isVoice {R : Nat} {F : Nat → Int32} (hM : lyM B P m) (hR : I m 78 = nI R) (h43 : R < 4300) (hF : I (m + 33) (64 * R) = F 0) : Ct g mX12_isVoice [.ref m] B I J P (some (.int (nI (sp_vo F))), B, I, J, P) := by
  unfold sp_vo
  refine ct_of (lv := [some (.ref m)]) (by decide +kernel) (Nat.le_of_ble_eq_true rfl) rfl ?_
  refine ev_aload_n 1 dX12_isVoice_0 rfl rfl ?_
  refine ev_getP 4 mm_cl12 (j := 39) (Nat.le_of_ble_eq_true rfl) dX12_isVoice_1 lk1324 (fun _ _ _ => rfl) (hM.1 0 _ rfl) (a := (m + 33)) (hM.2.2 32 _ _ _ rfl) rfl ?_
  refine ev_bipushN 6 64 dX12_isVoice_4 (by decide +kernel) rfl ?_
  refine ev_aload_n 7 dX12_isVoice_6 rfl rfl ?_
  refine ev_getI 10 mm_cl12 (j := 78) (Nat.le_of_ble_eq_true rfl) dX12_isVoice_7 lk1363 (fun _ _ _ => rfl) (hM.1 0 _ rfl) rfl ?_
  refine ev_eqI (y := nI (R)) (hR) ?_
  refine ev_imulN 11 dX12_isVoice_10 rfl ?_
  refine ev_iald 12 _ dX12_isVoice_11 (hM.1 33 _ rfl) rfl (by have hNN := hM.2.1 33 _ rfl; omega) rfl ?_
  refine ev_eqI (y := (F 0)) (hF) ?_
  refine ev_iconstN 13 1 dX12_isVoice_12 rfl ?_
  refine ev_iand 14 dX12_isVoice_13 rfl ?_
  refine ev_iconstN 15 1 dX12_isVoice_14 rfl ?_
  refine ev_icmp_ne 18 22 dX12_isVoice_15 (by decide) rfl (fun hz => ?_) (fun hz => ?_)
  · rw [if_neg hz]
    refine ev_iconstN 23 0 dX12_isVoice_22 rfl ?_
    exact ev_zret dX12_isVoice_23 rfl (by first | rfl | assumption) (rfl)
  · rw [if_pos hz]
    refine ev_iconstN 19 1 dX12_isVoice_18 rfl ?_
    refine ev_goto 23 dX12_isVoice_19 (by decide) ?_
    exact ev_zret dX12_isVoice_23 rfl (by first | rfl | assumption) (rfl)
theorem ct_X12_body {R k : Nat} (hM : lyM B P m) (hR : I m 78 = nI R) (h43 : R < 4300) (hk : k < 58) : Ct g mX12_body [.ref m, .int (nI k)] B I J P (some (.int (I (m + 33) (64 * R + 6 + k) &&& nI 255)), B, I, J, P) := by
  refine ct_of (lv := [some (.ref m), some (.int (nI k))]) (by decide +kernel) (Nat.le_of_ble_eq_true rfl) rfl ?_
  refine ev_aload_n 1 dX12_body_0 rfl rfl ?_
  refine ev_getP 4 mm_cl12 (j := 39) (Nat.le_of_ble_eq_true rfl) dX12_body_1 lk1324 (fun _ _ _ => rfl) (hM.1 0 _ rfl) (a := (m + 33)) (hM.2.2 32 _ _ _ rfl) rfl ?_
  refine ev_bipushN 6 64 dX12_body_4 (by decide +kernel) rfl ?_
  refine ev_aload_n 7 dX12_body_6 rfl rfl ?_
  refine ev_getI 10 mm_cl12 (j := 78) (Nat.le_of_ble_eq_true rfl) dX12_body_7 lk1363 (fun _ _ _ => rfl) (hM.1 0 _ rfl) rfl ?_
  refine ev_eqI (y := nI (R)) (hR) ?_
  refine ev_imulN 11 dX12_body_10 rfl ?_
  refine ev_bipushN 13 6 dX12_body_11 (by decide +kernel) rfl ?_
  refine ev_iaddN 14 dX12_body_13 rfl ?_
  refine ev_iload_n 15 dX12_body_14 rfl rfl ?_
  refine ev_iaddN 16 dX12_body_15 rfl ?_
  refine ev_iald 17 _ dX12_body_16 (hM.1 33 _ rfl) rfl (by have hNN := hM.2.1 33 _ rfl; omega) rfl ?_
  refine ev_sipushN 20 255 dX12_body_17 (by decide +kernel) rfl ?_
  refine ev_iand 21 dX12_body_20 rfl ?_
  exact ev_iret dX12_body_21 rfl (rfl)
theorem ct_X12_opened1 {v : Int32} (hv : v < 0) : Ct g mX12_opened [.ref m, .int v] B I J P (some (.int (nI 1)), B, I, J, P) := by
  refine ct_of (lv := [some (.ref m), some (.int v), none]) (by decide +kernel) (Nat.le_of_ble_eq_true rfl) rfl ?_
  refine ev_iload_n 1 dX12_opened_0 rfl rfl ?_
  refine ev_if_ge 4 6 dX12_opened_1 (by decide) rfl (fun hx => absurd hx ((Int32.not_le.mpr hv))) (fun hbr => ?_)
  refine ev_iconstN 5 1 dX12_opened_4 rfl ?_
  exact ev_iret dX12_opened_5 rfl (rfl)
theorem ct_X12_opened2 {R : Nat} (hM : lyM B P m) (h43 : R < 4300) (hs : I (m + 32) R = nI 1) : Ct g mX12_opened [.ref m, .int (nI R)] B I J P (some (.int (nI 2)), B, I, J, P) := by
  refine ct_of (lv := [some (.ref m), some (.int (nI R)), none]) (by decide +kernel) (Nat.le_of_ble_eq_true rfl) rfl ?_
  refine ev_iload_n 1 dX12_opened_0 rfl rfl ?_
  refine ev_if_geN 4 6 dX12_opened_1 (by decide) (by omega) rfl (fun hbr => ?_) (fun hx => absurd (trivial) hx)
  refine ev_aload_n 7 dX12_opened_6 rfl rfl ?_
  refine ev_getP 10 mm_cl12 (j := 38) (Nat.le_of_ble_eq_true rfl) dX12_opened_7 lk1323 (fun _ _ _ => rfl) (hM.1 0 _ rfl) (a := (m + 32)) (hM.2.2 31 _ _ _ rfl) rfl ?_
  refine ev_iload_n 11 dX12_opened_10 rfl rfl ?_
  refine ev_zald 12 _ dX12_opened_11 (hM.1 32 _ rfl) rfl (by have hNN := hM.2.1 32 _ rfl; omega) rfl ?_
  refine ev_eqI (y := nI (1)) (hs) ?_
  refine ev_if_eqN 15 17 dX12_opened_12 (by decide) (by omega) rfl (fun hx => absurd hx ((by omega))) (fun hbr => ?_)
  refine ev_iconstN 16 2 dX12_opened_15 rfl ?_
  exact ev_iret dX12_opened_16 rfl (rfl)
theorem cx_X12_opened3 {R n : Nat} {F : Nat → Int32} (hM : lyM B P m) (h43 : R < 4300) (hs : I (m + 32) R = nI 0) (hl : I (m + 31) R = nI n) (hn : n ≤ 64) (hF : ∀ k, k < n → I (m + 33) (64 * R + k) = F k) : ∃ M' : Nat → Int32, Ct g mX12_opened [.ref m, .int (nI R)] B I J P (some (.int (nI (sp_op n F))), B, va_up I m M', J, P) ∧ (∀ j, j < 78 ∨ 80 < j → M' j = I m j) ∧ (sp_op n F = 0 → M' 78 = nI R ∧ M' 79 = F 2 ∧ M' 80 = F 5) := by
  have hd : ∀ Z : mm_Z, Ev g mX12_opened 24 [some (.ref m), some (.int (nI R)), some (.int (nI n))] [] B I J P Z → Ct g mX12_opened [.ref m, .int (nI R)] B I J P Z := by
    intro Z e
    refine ct_of (lv := [some (.ref m), some (.int (nI R)), none]) (by decide +kernel) (Nat.le_of_ble_eq_true rfl) rfl ?_
    refine ev_iload_n 1 dX12_opened_0 rfl rfl ?_
    refine ev_if_geN 4 6 dX12_opened_1 (by decide) (by omega) rfl (fun hbr => ?_) (fun hx => absurd (trivial) hx)
    refine ev_aload_n 7 dX12_opened_6 rfl rfl ?_
    refine ev_getP 10 mm_cl12 (j := 38) (Nat.le_of_ble_eq_true rfl) dX12_opened_7 lk1323 (fun _ _ _ => rfl) (hM.1 0 _ rfl) (a := (m + 32)) (hM.2.2 31 _ _ _ rfl) rfl ?_
    refine ev_iload_n 11 dX12_opened_10 rfl rfl ?_
    refine ev_zald 12 _ dX12_opened_11 (hM.1 32 _ rfl) rfl (by have hNN := hM.2.1 32 _ rfl; omega) rfl ?_
    refine ev_eqI (y := nI (0)) (hs) ?_
    refine ev_if_eqN 15 17 dX12_opened_12 (by decide) (by omega) rfl (fun hbr => ?_) (fun hx => absurd (rfl) hx)
    refine ev_aload_n 18 dX12_opened_17 rfl rfl ?_
    refine ev_getP 21 mm_cl12 (j := 37) (Nat.le_of_ble_eq_true rfl) dX12_opened_18 lk1322 (fun _ _ _ => rfl) (hM.1 0 _ rfl) (a := (m + 31)) (hM.2.2 30 _ _ _ rfl) rfl ?_
    refine ev_iload_n 22 dX12_opened_21 rfl rfl ?_
    refine ev_iald 23 _ dX12_opened_22 (hM.1 31 _ rfl) rfl (by have hNN := hM.2.1 31 _ rfl; omega) rfl ?_
    refine ev_eqI (y := nI (n)) (hl) ?_
    refine ev_istore_n 24 (lv' := [_, some (.int _), _]) dX12_opened_23 (Nat.le_of_ble_eq_true rfl) rfl rfl ?_
    exact e
  by_cases c6 : n < 6
  · have h0 : sp_op n F = 3 := by unfold sp_op; rw [if_pos c6]
    rw [h0]
    refine ⟨I m, hd _ ?_, fun j _ => rfl, fun h => by omega⟩
    rw [va_up_id]
    refine ev_iload_n 25 dX12_opened_24 rfl rfl ?_
    refine ev_bipushN 27 6 dX12_opened_25 (by decide +kernel) rfl ?_
    refine ev_icmp_geN 30 32 dX12_opened_27 (by decide) (by omega) (by omega) rfl (fun hx => absurd hx ((by omega))) (fun hbr => ?_)
    refine ev_iconstN 31 3 dX12_opened_30 rfl ?_
    exact ev_iret dX12_opened_31 rfl (rfl)
  have su := ct_X12_sumOf (g := g) (B := B) (I := I) (J := J) (P := P) (m := m) (row := R) (n := n - 1) (F := F) hM h43 (by omega) (fun k hk => hF k (by omega))
  have hd2 : ∀ Z : mm_Z, Ev g mX12_opened 53 [some (.ref m), some (.int (nI R)), some (.int (nI n))] [.int (F (n - 1)), .int (b8 (sp_xs F (n - 1)))] B I J P Z → Ct g mX12_opened [.ref m, .int (nI R)] B I J P Z := by
    intro Z e
    refine hd _ ?_
    refine ev_iload_n 25 dX12_opened_24 rfl rfl ?_
    refine ev_bipushN 27 6 dX12_opened_25 (by decide +kernel) rfl ?_
    refine ev_icmp_geN 30 32 dX12_opened_27 (by decide) (by omega) (by omega) rfl (fun hbr => ?_) (fun hx => absurd ((by omega)) hx)
    refine ev_aload_n 33 dX12_opened_32 rfl rfl ?_
    refine ev_iload_n 34 dX12_opened_33 rfl rfl ?_
    refine ev_iload_n 35 dX12_opened_34 rfl rfl ?_
    refine ev_iconstN 36 1 dX12_opened_35 rfl ?_
    refine ev_isubN 37 dX12_opened_36 (by omega) rfl ?_
    refine ev_invV 40 (Mc := mX12_sumOf) ⟨lk1698, lk80, hdX12_sumOf, (Nat.le_of_ble_eq_true rfl), (Nat.le_of_ble_eq_true rfl)⟩ lk1695 lk1697 lk59 mm_cl12 rfl dX12_opened_37 (su) rfl (hM.1 0 _ rfl) (Nat.le_of_ble_eq_true rfl) rfl rfl ?_
    refine ev_aload_n 41 dX12_opened_40 rfl rfl ?_
    refine ev_getP 44 mm_cl12 (j := 39) (Nat.le_of_ble_eq_true rfl) dX12_opened_41 lk1324 (fun _ _ _ => rfl) (hM.1 0 _ rfl) (a := (m + 33)) (hM.2.2 32 _ _ _ rfl) rfl ?_
    refine ev_bipushN 46 64 dX12_opened_44 (by decide +kernel) rfl ?_
    refine ev_iload_n 47 dX12_opened_46 rfl rfl ?_
    refine ev_imulN 48 dX12_opened_47 rfl ?_
    refine ev_iload_n 49 dX12_opened_48 rfl rfl ?_
    refine ev_iaddN 50 dX12_opened_49 rfl ?_
    refine ev_iconstN 51 1 dX12_opened_50 rfl ?_
    refine ev_isubN 52 dX12_opened_51 (by omega) rfl ?_
    refine ev_iald 53 _ dX12_opened_52 (hM.1 33 _ rfl) rfl (by have hNN := hM.2.1 33 _ rfl; omega) rfl ?_
    refine ev_eqI (y := (F (n - 1))) ((by rw [show 64 * R + n - 1 = 64 * R + (n - 1) by omega]; exact hF _ (by omega))) ?_
    exact e
  by_cases cs : b8 (sp_xs F (n - 1)) = F (n - 1)
  rotate_left 1
  · have h0 : sp_op n F = 4 := by unfold sp_op; rw [if_neg c6, if_neg cs]
    rw [h0]
    refine ⟨I m, hd2 _ ?_, fun j _ => rfl, fun h => by omega⟩
    rw [va_up_id]
    refine ev_icmp_eq 56 58 dX12_opened_53 (by decide) rfl (fun hx => absurd hx (cs)) (fun hbr => ?_)
    refine ev_iconstN 57 4 dX12_opened_56 rfl ?_
    exact ev_iret dX12_opened_57 rfl (rfl)
  have hop : sp_op n F = (if F 2 < 0 then 5 else if nI n < nI 6 + F 2 then 3 else if F 5 < 0 then 5 else if nI n < nI 6 + F 2 + F 5 then 3 else if F 2 < nI (if sp_vo F = 1 then 28 else 2) then 6 else 0) := by unfold sp_op; rw [if_neg c6, if_pos cs]
  generalize hM2 : va_up (va_up (I m) 78 (nI R)) 79 (F 2) = M2
  have m79 : M2 79 = F 2 := by rw [← hM2, va_up_s]
  have mo2 : ∀ j, j < 78 ∨ 80 < j → M2 j = I m j := fun j hj => by rw [← hM2, va_up_n _ _ (by omega), va_up_n _ _ (by omega)]
  have hd3 : ∀ Z : mm_Z, Ev g mX12_opened 78 [some (.ref m), some (.int (nI R)), some (.int (nI n))] [] B (va_up I m M2) J P Z → Ct g mX12_opened [.ref m, .int (nI R)] B I J P Z := by
    intro Z e
    refine hd2 _ ?_
    refine ev_icmp_eq 56 58 dX12_opened_53 (by decide) rfl (fun hbr => ?_) (fun hx => absurd (cs) hx)
    refine ev_aload_n 59 dX12_opened_58 rfl rfl ?_
    refine ev_iload_n 60 dX12_opened_59 rfl rfl ?_
    refine ev_putI 63 mm_cl12 (j := 78) (Nat.le_of_ble_eq_true rfl) dX12_opened_60 lk1363 rfl (fun _ _ _ => rfl) rfl rfl (hM.1 0 _ rfl) rfl ?_
    refine ev_aload_n 64 dX12_opened_63 rfl rfl ?_
    refine ev_aload_n 65 dX12_opened_64 rfl rfl ?_
    refine ev_getP 68 mm_cl12 (j := 39) (Nat.le_of_ble_eq_true rfl) dX12_opened_65 lk1324 (fun _ _ _ => rfl) (hM.1 0 _ rfl) (a := (m + 33)) (hM.2.2 32 _ _ _ rfl) rfl ?_
    refine ev_bipushN 70 64 dX12_opened_68 (by decide +kernel) rfl ?_
    refine ev_iload_n 71 dX12_opened_70 rfl rfl ?_
    refine ev_imulN 72 dX12_opened_71 rfl ?_
    refine ev_iconstN 73 2 dX12_opened_72 rfl ?_
    refine ev_iaddN 74 dX12_opened_73 rfl ?_
    refine ev_iald 75 _ dX12_opened_74 (hM.1 33 _ rfl) rfl (by have hNN := hM.2.1 33 _ rfl; omega) rfl ?_
    refine ev_eqI (y := (F 2)) ((by rw [va_up_n _ _ (by omega)]; exact hF 2 (by omega))) ?_
    refine ev_putI 78 mm_cl12 (j := 79) (Nat.le_of_ble_eq_true rfl) dX12_opened_75 lk1364 rfl (fun _ _ _ => rfl) rfl rfl (hM.1 0 _ rfl) rfl ?_
    rw [va_up_s, bx_uu, hM2]
    exact e
  by_cases c2 : F 2 < 0
  · rw [if_pos c2] at hop
    rw [hop]
    refine ⟨M2, hd3 _ ?_, mo2, fun h => by omega⟩
    refine ev_aload_n 79 dX12_opened_78 rfl rfl ?_
    refine ev_getI 82 mm_cl12 (j := 79) (Nat.le_of_ble_eq_true rfl) dX12_opened_79 lk1364 (fun _ _ _ => rfl) (hM.1 0 _ rfl) rfl ?_
    refine ev_eqI (y := (F 2)) ((by rw [va_up_s]; exact m79)) ?_
    refine ev_if_ge 85 87 dX12_opened_82 (by decide) rfl (fun hx => absurd hx ((Int32.not_le.mpr c2))) (fun hbr => ?_)
    refine ev_iconstN 86 5 dX12_opened_85 rfl ?_
    exact ev_iret dX12_opened_86 rfl (rfl)
  rw [if_neg c2] at hop
  by_cases c3 : nI n < nI 6 + F 2
  · rw [if_pos c3] at hop
    rw [hop]
    refine ⟨M2, hd3 _ ?_, mo2, fun h => by omega⟩
    refine ev_aload_n 79 dX12_opened_78 rfl rfl ?_
    refine ev_getI 82 mm_cl12 (j := 79) (Nat.le_of_ble_eq_true rfl) dX12_opened_79 lk1364 (fun _ _ _ => rfl) (hM.1 0 _ rfl) rfl ?_
    refine ev_eqI (y := (F 2)) ((by rw [va_up_s]; exact m79)) ?_
    refine ev_if_ge 85 87 dX12_opened_82 (by decide) rfl (fun hbr => ?_) (fun hx => absurd ((Int32.not_lt.mp c2)) hx)
    refine ev_bipushN 89 6 dX12_opened_87 (by decide +kernel) rfl ?_
    refine ev_aload_n 90 dX12_opened_89 rfl rfl ?_
    refine ev_getI 93 mm_cl12 (j := 79) (Nat.le_of_ble_eq_true rfl) dX12_opened_90 lk1364 (fun _ _ _ => rfl) (hM.1 0 _ rfl) rfl ?_
    refine ev_eqI (y := (F 2)) ((by rw [va_up_s]; exact m79)) ?_
    refine ev_iadd 94 dX12_opened_93 rfl ?_
    refine ev_iload_n 95 dX12_opened_94 rfl rfl ?_
    refine ev_icmp_le 98 100 dX12_opened_95 (by decide) rfl (fun hx => absurd hx ((Int32.not_le.mpr c3))) (fun hbr => ?_)
    refine ev_iconstN 99 3 dX12_opened_98 rfl ?_
    exact ev_iret dX12_opened_99 rfl (rfl)
  rw [if_neg c3] at hop
  generalize hM3 : va_up M2 80 (F 5) = M3
  have m3 : M3 79 = F 2 := by rw [← hM3, va_up_n _ _ (by omega)]; exact m79
  have m80 : M3 80 = F 5 := by rw [← hM3, va_up_s]
  have m78 : M3 78 = nI R := by rw [← hM3, va_up_n _ _ (by omega), ← hM2, va_up_n _ _ (by omega), va_up_s]
  have mo3 : ∀ j, j < 78 ∨ 80 < j → M3 j = I m j := fun j hj => by rw [← hM3, va_up_n _ _ (by omega)]; exact mo2 j hj
  have hd4 : ∀ Z : mm_Z, Ev g mX12_opened 115 [some (.ref m), some (.int (nI R)), some (.int (nI n))] [] B (va_up I m M3) J P Z → Ct g mX12_opened [.ref m, .int (nI R)] B I J P Z := by
    intro Z e
    refine hd3 _ ?_
    refine ev_aload_n 79 dX12_opened_78 rfl rfl ?_
    refine ev_getI 82 mm_cl12 (j := 79) (Nat.le_of_ble_eq_true rfl) dX12_opened_79 lk1364 (fun _ _ _ => rfl) (hM.1 0 _ rfl) rfl ?_
    refine ev_eqI (y := (F 2)) ((by rw [va_up_s]; exact m79)) ?_
    refine ev_if_ge 85 87 dX12_opened_82 (by decide) rfl (fun hbr => ?_) (fun hx => absurd ((Int32.not_lt.mp c2)) hx)
    refine ev_bipushN 89 6 dX12_opened_87 (by decide +kernel) rfl ?_
    refine ev_aload_n 90 dX12_opened_89 rfl rfl ?_
    refine ev_getI 93 mm_cl12 (j := 79) (Nat.le_of_ble_eq_true rfl) dX12_opened_90 lk1364 (fun _ _ _ => rfl) (hM.1 0 _ rfl) rfl ?_
    refine ev_eqI (y := (F 2)) ((by rw [va_up_s]; exact m79)) ?_
    refine ev_iadd 94 dX12_opened_93 rfl ?_
    refine ev_iload_n 95 dX12_opened_94 rfl rfl ?_
    refine ev_icmp_le 98 100 dX12_opened_95 (by decide) rfl (fun hbr => ?_) (fun hx => absurd ((Int32.not_lt.mp c3)) hx)
    refine ev_aload_n 101 dX12_opened_100 rfl rfl ?_
    refine ev_aload_n 102 dX12_opened_101 rfl rfl ?_
    refine ev_getP 105 mm_cl12 (j := 39) (Nat.le_of_ble_eq_true rfl) dX12_opened_102 lk1324 (fun _ _ _ => rfl) (hM.1 0 _ rfl) (a := (m + 33)) (hM.2.2 32 _ _ _ rfl) rfl ?_
    refine ev_bipushN 107 64 dX12_opened_105 (by decide +kernel) rfl ?_
    refine ev_iload_n 108 dX12_opened_107 rfl rfl ?_
    refine ev_imulN 109 dX12_opened_108 rfl ?_
    refine ev_iconstN 110 5 dX12_opened_109 rfl ?_
    refine ev_iaddN 111 dX12_opened_110 rfl ?_
    refine ev_iald 112 _ dX12_opened_111 (hM.1 33 _ rfl) rfl (by have hNN := hM.2.1 33 _ rfl; omega) rfl ?_
    refine ev_eqI (y := (F 5)) ((by rw [va_up_n _ _ (by omega)]; exact hF 5 (by omega))) ?_
    refine ev_putI 115 mm_cl12 (j := 80) (Nat.le_of_ble_eq_true rfl) dX12_opened_112 lk1365 rfl (fun _ _ _ => rfl) rfl rfl (hM.1 0 _ rfl) rfl ?_
    rw [va_up_s, bx_uu, hM3]
    exact e
  by_cases c4 : F 5 < 0
  · rw [if_pos c4] at hop
    rw [hop]
    refine ⟨M3, hd4 _ ?_, mo3, fun h => by omega⟩
    refine ev_aload_n 116 dX12_opened_115 rfl rfl ?_
    refine ev_getI 119 mm_cl12 (j := 80) (Nat.le_of_ble_eq_true rfl) dX12_opened_116 lk1365 (fun _ _ _ => rfl) (hM.1 0 _ rfl) rfl ?_
    refine ev_eqI (y := (F 5)) ((by rw [va_up_s]; exact m80)) ?_
    refine ev_if_ge 122 124 dX12_opened_119 (by decide) rfl (fun hx => absurd hx ((Int32.not_le.mpr c4))) (fun hbr => ?_)
    refine ev_iconstN 123 5 dX12_opened_122 rfl ?_
    exact ev_iret dX12_opened_123 rfl (rfl)
  rw [if_neg c4] at hop
  by_cases c5 : nI n < nI 6 + F 2 + F 5
  · rw [if_pos c5] at hop
    rw [hop]
    refine ⟨M3, hd4 _ ?_, mo3, fun h => by omega⟩
    refine ev_aload_n 116 dX12_opened_115 rfl rfl ?_
    refine ev_getI 119 mm_cl12 (j := 80) (Nat.le_of_ble_eq_true rfl) dX12_opened_116 lk1365 (fun _ _ _ => rfl) (hM.1 0 _ rfl) rfl ?_
    refine ev_eqI (y := (F 5)) ((by rw [va_up_s]; exact m80)) ?_
    refine ev_if_ge 122 124 dX12_opened_119 (by decide) rfl (fun hbr => ?_) (fun hx => absurd ((Int32.not_lt.mp c4)) hx)
    refine ev_bipushN 126 6 dX12_opened_124 (by decide +kernel) rfl ?_
    refine ev_aload_n 127 dX12_opened_126 rfl rfl ?_
    refine ev_getI 130 mm_cl12 (j := 79) (Nat.le_of_ble_eq_true rfl) dX12_opened_127 lk1364 (fun _ _ _ => rfl) (hM.1 0 _ rfl) rfl ?_
    refine ev_eqI (y := (F 2)) ((by rw [va_up_s]; exact m3)) ?_
    refine ev_iadd 131 dX12_opened_130 rfl ?_
    refine ev_aload_n 132 dX12_opened_131 rfl rfl ?_
    refine ev_getI 135 mm_cl12 (j := 80) (Nat.le_of_ble_eq_true rfl) dX12_opened_132 lk1365 (fun _ _ _ => rfl) (hM.1 0 _ rfl) rfl ?_
    refine ev_eqI (y := (F 5)) ((by rw [va_up_s]; exact m80)) ?_
    refine ev_iadd 136 dX12_opened_135 rfl ?_
    refine ev_iload_n 137 dX12_opened_136 rfl rfl ?_
    refine ev_icmp_le 140 142 dX12_opened_137 (by decide) rfl (fun hx => absurd hx ((Int32.not_le.mpr c5))) (fun hbr => ?_)
    refine ev_iconstN 141 3 dX12_opened_140 rfl ?_
    exact ev_iret dX12_opened_141 rfl (rfl)
  rw [if_neg c5] at hop
  rw [hop]
  refine ⟨M3, hd4 _ ?_, mo3, fun h => ⟨m78, m3, m80⟩⟩
  have vo := ct_X12_isVoice (g := g) (B := B) (I := va_up I m M3) (J := J) (P := P) (m := m) (R := R) (F := F) hM (by rw [va_up_s]; exact m78) h43 (by rw [va_up_n _ _ (by omega)]; have := hF 0 (by omega); rw [Nat.add_zero] at this; exact this)
  have hvo : sp_vo F ≤ 1 := by unfold sp_vo; split <;> omega
  have k159 : Ev g mX12_opened 159 [some (.ref m), some (.int (nI R)), some (.int (nI n))] [.int (nI (if sp_vo F = 1 then 28 else 2)), .int (F 2)] B (va_up I m M3) J P (some (.int (nI (if F 2 < nI (if sp_vo F = 1 then 28 else 2) then 6 else 0))), B, va_up I m M3, J, P) := by
    generalize (if sp_vo F = 1 then 28 else 2) = w
    by_cases c7 : F 2 < nI w
    · rw [if_pos c7]
      refine ev_icmp_ge 162 167 dX12_opened_159 (by decide) rfl (fun hx => absurd hx ((Int32.not_le.mpr c7))) (fun hbr => ?_)
      refine ev_bipushN 164 6 dX12_opened_162 (by decide +kernel) rfl ?_
      refine ev_goto 168 dX12_opened_164 (by decide) ?_
      exact ev_iret dX12_opened_168 rfl (rfl)
    · rw [if_neg c7]
      refine ev_icmp_ge 162 167 dX12_opened_159 (by decide) rfl (fun hbr => ?_) (fun hx => absurd ((Int32.not_lt.mp c7)) hx)
      refine ev_iconstN 168 0 dX12_opened_167 rfl ?_
      exact ev_iret dX12_opened_168 rfl (rfl)
  refine ev_aload_n 116 dX12_opened_115 rfl rfl ?_
  refine ev_getI 119 mm_cl12 (j := 80) (Nat.le_of_ble_eq_true rfl) dX12_opened_116 lk1365 (fun _ _ _ => rfl) (hM.1 0 _ rfl) rfl ?_
  refine ev_eqI (y := (F 5)) ((by rw [va_up_s]; exact m80)) ?_
  refine ev_if_ge 122 124 dX12_opened_119 (by decide) rfl (fun hbr => ?_) (fun hx => absurd ((Int32.not_lt.mp c4)) hx)
  refine ev_bipushN 126 6 dX12_opened_124 (by decide +kernel) rfl ?_
  refine ev_aload_n 127 dX12_opened_126 rfl rfl ?_
  refine ev_getI 130 mm_cl12 (j := 79) (Nat.le_of_ble_eq_true rfl) dX12_opened_127 lk1364 (fun _ _ _ => rfl) (hM.1 0 _ rfl) rfl ?_
  refine ev_eqI (y := (F 2)) ((by rw [va_up_s]; exact m3)) ?_
  refine ev_iadd 131 dX12_opened_130 rfl ?_
  refine ev_aload_n 132 dX12_opened_131 rfl rfl ?_
  refine ev_getI 135 mm_cl12 (j := 80) (Nat.le_of_ble_eq_true rfl) dX12_opened_132 lk1365 (fun _ _ _ => rfl) (hM.1 0 _ rfl) rfl ?_
  refine ev_eqI (y := (F 5)) ((by rw [va_up_s]; exact m80)) ?_
  refine ev_iadd 136 dX12_opened_135 rfl ?_
  refine ev_iload_n 137 dX12_opened_136 rfl rfl ?_
  refine ev_icmp_le 140 142 dX12_opened_137 (by decide) rfl (fun hbr => ?_) (fun hx => absurd ((Int32.not_lt.mp c5)) hx)
  refine ev_aload_n 143 dX12_opened_142 rfl rfl ?_
  refine ev_getI 146 mm_cl12 (j := 79) (Nat.le_of_ble_eq_true rfl) dX12_opened_143 lk1364 (fun _ _ _ => rfl) (hM.1 0 _ rfl) rfl ?_
  refine ev_eqI (y := (F 2)) ((by rw [va_up_s]; exact m3)) ?_
  refine ev_aload_n 147 dX12_opened_146 rfl rfl ?_
  refine ev_invV 150 (Mc := mX12_isVoice) ⟨lk1801, lk80, hdX12_isVoice, (Nat.le_of_ble_eq_true rfl), (Nat.le_of_ble_eq_true rfl)⟩ lk1798 lk1800 lk67 mm_cl12 rfl dX12_opened_147 (vo) rfl (hM.1 0 _ rfl) (Nat.le_of_ble_eq_true rfl) rfl rfl ?_
  refine ev_if_eqN 153 158 dX12_opened_150 (by decide) (by omega) rfl (fun hz => ?_) (fun hz => ?_)
  · rw [show (if sp_vo F = 1 then 28 else 2) = 2 by rw [if_neg (by omega)]] at k159 ⊢
    refine ev_iconstN 159 2 dX12_opened_158 rfl ?_
    exact k159
  · rw [show (if sp_vo F = 1 then 28 else 2) = 28 by rw [if_pos (by omega)]] at k159 ⊢
    refine ev_bipushN 155 28 dX12_opened_153 (by decide +kernel) rfl ?_
    refine ev_goto 159 dX12_opened_155 (by decide) ?_
    exact k159
end VOP
