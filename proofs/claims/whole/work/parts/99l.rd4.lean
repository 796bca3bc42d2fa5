/-! READERS, more: joint pick, state; digest; count -/
section RG0
variable {g : mm_G} {B : mm_B} {I : mm_TI} {J : mm_TJ} {P : mm_TP} {x m o b n k : Nat}
theorem lx_digestRow {a N : Nat} {d0 : Int32} (ta : mm_T B a = 200) (hN : mm_N B a = N) (h31 : N < 2 ^ 31) : ∀ (r i : Nat) (d v : Int32), i + r = N → Ev g mX6_digestRow 11 [some (.int d0), some (.ref a), some (.int d), some (.ref a), some (.int (nI N)), some (.int (nI i)), none] [] B I J P (some (.int (dgR (I a) i r d)), B, I, J, P) := by
  intro r
  induction r with
  | zero =>
    intro i d v hi
    refine ev_iload 13 dX6_digestRow_11 rfl rfl ?_
    refine ev_iload 15 dX6_digestRow_13 rfl rfl ?_
    refine ev_icmp_geN 18 38 dX6_digestRow_15 (by decide) (by omega) (by omega) rfl (fun hbr => ?_) (fun hx => absurd ((by omega)) hx)
    refine ev_iload_n 39 dX6_digestRow_38 rfl rfl ?_
    exact ev_iret dX6_digestRow_39 rfl (rfl)
  | succ r ih =>
    intro i d v hi
    refine ev_iload 13 dX6_digestRow_11 rfl rfl ?_
    refine ev_iload 15 dX6_digestRow_13 rfl rfl ?_
    refine ev_icmp_geN 18 38 dX6_digestRow_15 (by decide) (by omega) (by omega) rfl (fun hx => absurd hx ((by omega))) (fun hbr => ?_)
    refine ev_aload_n 19 dX6_digestRow_18 rfl rfl ?_
    refine ev_iload 21 dX6_digestRow_19 rfl rfl ?_
    refine ev_iald 22 _ dX6_digestRow_21 ta rfl (by omega) rfl ?_
    refine ev_istore 24 (lv' := [_, _, _, _, _, some (.int _), _]) dX6_digestRow_22 (Nat.le_of_ble_eq_true rfl) rfl rfl ?_
    refine ev_bipushN 26 31 dX6_digestRow_24 (by decide +kernel) rfl ?_
    refine ev_iload_n 27 dX6_digestRow_26 rfl rfl ?_
    refine ev_imul 28 dX6_digestRow_27 rfl ?_
    refine ev_iload 30 dX6_digestRow_28 rfl rfl ?_
    refine ev_iadd 31 dX6_digestRow_30 rfl ?_
    refine ev_istore_n 32 (lv' := [_, some (.ref _), _, _, _, _, _]) dX6_digestRow_31 (Nat.le_of_ble_eq_true rfl) rfl rfl ?_
    refine ev_iincN 35 (lv' := [_, _, _, _, some (.int _), _, _]) 1 dX6_digestRow_32 rfl (Nat.le_of_ble_eq_true rfl) rfl rfl ?_
    refine ev_goto 11 dX6_digestRow_35 (by decide) ?_
    refine ev_le (mle_s (mle_s (mle_s (mle_s (mle_s (mle_s (mle_n (mle_0)))))))) ?_
    exact ih (i + 1) (nI 31 * d + I a i) (I a i) (by omega)
theorem ct_digestRow {a N : Nat} {d : Int32} (ta : mm_T B a = 200) (hN : mm_N B a = N) (h31 : N < 2 ^ 31) : Ct g mX6_digestRow [.int d, .ref a] B I J P (some (.int (dgR (I a) 0 N d)), B, I, J, P) := by
  have e := lx_digestRow (g := g) (B := B) (I := I) (J := J) (P := P) (d0 := d) ta hN h31 N 0 d d (by omega)
  refine ct_of (lv := [some (.int d), some (.ref a), none, none, none, none, none]) (by decide +kernel) (Nat.le_of_ble_eq_true rfl) rfl ?_
  refine ev_iload_n 1 dX6_digestRow_0 rfl rfl ?_
  refine ev_istore_n 2 (lv' := [_, some (.ref _), _, _, _, _, _]) dX6_digestRow_1 (Nat.le_of_ble_eq_true rfl) rfl rfl ?_
  refine ev_aload_n 3 dX6_digestRow_2 rfl rfl ?_
  refine ev_astore_n 4 (lv' := [_, _, some (.int _), _, _, _, _]) dX6_digestRow_3 (Nat.le_of_ble_eq_true rfl) rfl rfl ?_
  refine ev_aload_n 5 dX6_digestRow_4 rfl rfl ?_
  refine ev_alen 6 0 dX6_digestRow_5 ta rfl ?_
  refine ev_eqI (y := nI (N)) ((by rw [hN])) ?_
  refine ev_istore 8 (lv' := [_, _, _, some (.ref _), _, _, _]) dX6_digestRow_6 (Nat.le_of_ble_eq_true rfl) rfl rfl ?_
  refine ev_iconstN 9 0 dX6_digestRow_8 rfl ?_
  refine ev_istore 11 (lv' := [_, _, _, _, some (.int _), _, _]) dX6_digestRow_9 (Nat.le_of_ble_eq_true rfl) rfl rfl ?_
  exact e
theorem ct_digested {v : Int32} (hK : lyK B P x b) (hv : nI 31 * dgR (I (b + 3)) 0 8 (dgR (I (b + 2)) 0 8 (dgR (I (b + 1)) 0 160 (nI 7))) + I b 3 = v) : Ct g mX6_digested [.ref b] B I J P (some (.int v), B, I, J, P) := by
  refine ct_of (lv := [some (.ref b), none]) (by decide +kernel) (Nat.le_of_ble_eq_true rfl) rfl ?_
  refine ev_bipushN 2 7 dX6_digested_0 (by decide +kernel) rfl ?_
  refine ev_aload_n 3 dX6_digested_2 rfl rfl ?_
  refine ev_getP 6 mm_cl6 (j := 0) (Nat.le_of_ble_eq_true rfl) dX6_digested_3 lk341 (fun _ _ _ => rfl) (hK.1 0 _ rfl) (a := (b + 1)) (hK.2.2.1 0 _ _ _ rfl) rfl ?_
  refine ev_invS 9 (Mc := mX6_digestRow) ⟨lk1265, lk84, hdX6_digestRow, (Nat.le_of_ble_eq_true rfl), (Nat.le_of_ble_eq_true rfl)⟩ lk1263 lk1264 dX6_digested_6 (ct_digestRow (hK.1 1 _ rfl) (hK.2.1 1 _ rfl) (by omega)) rfl (Nat.le_of_ble_eq_true rfl) rfl rfl ?_
  refine ev_istore_n 10 (lv' := [some (.ref _), _]) dX6_digested_9 (Nat.le_of_ble_eq_true rfl) rfl rfl ?_
  refine ev_iload_n 11 dX6_digested_10 rfl rfl ?_
  refine ev_aload_n 12 dX6_digested_11 rfl rfl ?_
  refine ev_getP 15 mm_cl6 (j := 1) (Nat.le_of_ble_eq_true rfl) dX6_digested_12 lk344 (fun _ _ _ => rfl) (hK.1 0 _ rfl) (a := (b + 2)) (hK.2.2.1 1 _ _ _ rfl) rfl ?_
  refine ev_invS 18 (Mc := mX6_digestRow) ⟨lk1265, lk84, hdX6_digestRow, (Nat.le_of_ble_eq_true rfl), (Nat.le_of_ble_eq_true rfl)⟩ lk1263 lk1264 dX6_digested_15 (ct_digestRow (hK.1 2 _ rfl) (hK.2.1 2 _ rfl) (by omega)) rfl (Nat.le_of_ble_eq_true rfl) rfl rfl ?_
  refine ev_istore_n 19 (lv' := [some (.ref _), _]) dX6_digested_18 (Nat.le_of_ble_eq_true rfl) rfl rfl ?_
  refine ev_iload_n 20 dX6_digested_19 rfl rfl ?_
  refine ev_aload_n 21 dX6_digested_20 rfl rfl ?_
  refine ev_getP 24 mm_cl6 (j := 2) (Nat.le_of_ble_eq_true rfl) dX6_digested_21 lk346 (fun _ _ _ => rfl) (hK.1 0 _ rfl) (a := (b + 3)) (hK.2.2.1 2 _ _ _ rfl) rfl ?_
  refine ev_invS 27 (Mc := mX6_digestRow) ⟨lk1265, lk84, hdX6_digestRow, (Nat.le_of_ble_eq_true rfl), (Nat.le_of_ble_eq_true rfl)⟩ lk1263 lk1264 dX6_digested_24 (ct_digestRow (hK.1 3 _ rfl) (hK.2.1 3 _ rfl) (by omega)) rfl (Nat.le_of_ble_eq_true rfl) rfl rfl ?_
  refine ev_istore_n 28 (lv' := [some (.ref _), _]) dX6_digested_27 (Nat.le_of_ble_eq_true rfl) rfl rfl ?_
  refine ev_bipushN 30 31 dX6_digested_28 (by decide +kernel) rfl ?_
  refine ev_iload_n 31 dX6_digested_30 rfl rfl ?_
  refine ev_imul 32 dX6_digested_31 rfl ?_
  refine ev_aload_n 33 dX6_digested_32 rfl rfl ?_
  refine ev_getI 36 mm_cl6 (j := 3) (Nat.le_of_ble_eq_true rfl) dX6_digested_33 lk350 (fun _ _ _ => rfl) (hK.1 0 _ rfl) rfl ?_
  refine ev_iadd 37 dX6_digested_36 rfl ?_
  refine ev_eqI (y := (v)) (hv) ?_
  exact ev_iret dX6_digested_37 rfl (rfl)
theorem cl_digest_u {c s : Int32} (hV : lyV B P x) (hm : Ct g mX11_memoryOf [.ref x, .int c, .int s] B (vz I x) J P (some .null, B, vz I x, J, P)) : Ct g mX11_digest [.ref x, .int c, .int s] B I J P (some (.int (nI 0)), B, vst I x (-1), J, P) := by
  have e : vst (vz I x) x (-1) = vst I x (-1) := vst_v (v := nI 0)
  rw [← e]
  refine ct_of (lv := [some (.ref x), some (.int (c)), some (.int (s)), none]) (by decide +kernel) (Nat.le_of_ble_eq_true rfl) rfl ?_
  refine ev_aload_n 1 dX11_digest_0 rfl rfl ?_
  refine ev_iconstN 2 0 dX11_digest_1 rfl ?_
  refine ev_putI 5 mm_cl11 (j := 9) (Nat.le_of_ble_eq_true rfl) dX11_digest_2 lk270 rfl (fun _ _ _ => rfl) rfl rfl (hV.1 0 _ rfl) rfl ?_
  refine ev_aload_n 6 dX11_digest_5 rfl rfl ?_
  refine ev_iload_n 7 dX11_digest_6 rfl rfl ?_
  refine ev_iload_n 8 dX11_digest_7 rfl rfl ?_
  refine ev_invV 11 (Mc := mX11_memoryOf) ⟨lk1189, lk75, hdX11_memoryOf, (Nat.le_of_ble_eq_true rfl), (Nat.le_of_ble_eq_true rfl)⟩ lk1186 lk1188 lk37 mm_cl11 rfl dX11_digest_8 (hm) rfl (hV.1 0 _ rfl) (Nat.le_of_ble_eq_true rfl) rfl rfl ?_
  refine ev_astore_nN 12 (lv' := [_, _, some (.int _), _]) dX11_digest_11 (Nat.le_of_ble_eq_true rfl) rfl rfl ?_
  refine ev_aload_nN 13 dX11_digest_12 rfl rfl ?_
  refine ev_ifnonnull_n 16 dX11_digest_13 rfl ?_
  refine ev_aload_n 17 dX11_digest_16 rfl rfl ?_
  refine ev_iconst 18 (v := -1) dX11_digest_17 (by decide +kernel) rfl ?_
  refine ev_putI 21 mm_cl11 (j := 9) (Nat.le_of_ble_eq_true rfl) dX11_digest_18 lk270 rfl (fun _ _ _ => rfl) rfl rfl (hV.1 0 _ rfl) rfl ?_
  refine ev_iconstN 22 0 dX11_digest_21 rfl ?_
  exact ev_iret dX11_digest_22 rfl (rfl)
theorem cl_digest_t {c s : Int32} {v : Int32} (hV : lyV B P x) (hK : lyK B P x b) (hxb : x + 22 ≤ b) (hm : Ct g mX11_memoryOf [.ref x, .int c, .int s] B (vz I x) J P (some (.ref b), B, vz I x, J, P)) (hv : nI 31 * dgR (I (b + 3)) 0 8 (dgR (I (b + 2)) 0 8 (dgR (I (b + 1)) 0 160 (nI 7))) + I b 3 = v) : Ct g mX11_digest [.ref x, .int c, .int s] B I J P (some (.int v), B, vst I x (nI 0), J, P) := by
  have e : ∀ q, q ≠ x → vz I x q = I q := fun q hq => va_up_n _ _ hq
  refine ct_of (lv := [some (.ref x), some (.int (c)), some (.int (s)), none]) (by decide +kernel) (Nat.le_of_ble_eq_true rfl) rfl ?_
  refine ev_aload_n 1 dX11_digest_0 rfl rfl ?_
  refine ev_iconstN 2 0 dX11_digest_1 rfl ?_
  refine ev_putI 5 mm_cl11 (j := 9) (Nat.le_of_ble_eq_true rfl) dX11_digest_2 lk270 rfl (fun _ _ _ => rfl) rfl rfl (hV.1 0 _ rfl) rfl ?_
  refine ev_aload_n 6 dX11_digest_5 rfl rfl ?_
  refine ev_iload_n 7 dX11_digest_6 rfl rfl ?_
  refine ev_iload_n 8 dX11_digest_7 rfl rfl ?_
  refine ev_invV 11 (Mc := mX11_memoryOf) ⟨lk1189, lk75, hdX11_memoryOf, (Nat.le_of_ble_eq_true rfl), (Nat.le_of_ble_eq_true rfl)⟩ lk1186 lk1188 lk37 mm_cl11 rfl dX11_digest_8 (hm) rfl (hV.1 0 _ rfl) (Nat.le_of_ble_eq_true rfl) rfl rfl ?_
  refine ev_astore_n 12 (lv' := [_, _, some (.int _), _]) dX11_digest_11 (Nat.le_of_ble_eq_true rfl) rfl rfl ?_
  refine ev_aload_n 13 dX11_digest_12 rfl rfl ?_
  refine ev_ifnonnull_r 23 dX11_digest_13 (by decide) ?_
  refine ev_aload_n 24 dX11_digest_23 rfl rfl ?_
  refine ev_invV 27 (Mc := mX6_digested) ⟨lk1262, lk84, hdX6_digested, (Nat.le_of_ble_eq_true rfl), (Nat.le_of_ble_eq_true rfl)⟩ lk1259 lk1260 lk1261 mm_cl6 rfl dX11_digest_24 (ct_digested (v := v) hK (by rw [e _ (by omega), e _ (by omega), e _ (by omega), e _ (by omega)]; exact hv)) rfl (hK.1 0 _ rfl) (Nat.le_of_ble_eq_true rfl) rfl rfl ?_
  exact ev_iret dX11_digest_27 rfl (rfl)
theorem lx_dg1 {s : Nat} {c s0 : Int32} {Z : mm_Z} (hM : lyM B P m) (hs : s < 16) (K : ∀ d v, d = dgR (fun j => I (m + 15) (160 * s + j)) 0 160 (nI 7) → Ev g mX12_digest 72 [some (.ref m), some (.int c), some (.int s0), some (.int (nI s)), some (.int d), some (.int v)] [] B I J P Z) : ∀ (r i : Nat) (d : Int32), i + r = 160 → dgR (fun j => I (m + 15) (160 * s + j)) i r d = dgR (fun j => I (m + 15) (160 * s + j)) 0 160 (nI 7) → Ev g mX12_digest 37 [some (.ref m), some (.int c), some (.int s0), some (.int (nI s)), some (.int d), some (.int (nI i))] [] B I J P Z := by
  intro r
  induction r with
  | zero =>
    intro i d hi hd
    refine ev_iload 39 dX12_digest_37 rfl rfl ?_
    refine ev_sipushN 42 160 dX12_digest_39 (by decide +kernel) rfl ?_
    refine ev_icmp_geN 45 72 dX12_digest_42 (by decide) (by omega) (by omega) rfl (fun hbr => ?_) (fun hx => absurd ((by omega)) hx)
    exact K d _ hd
  | succ r ih =>
    intro i d hi hd
    refine ev_iload 39 dX12_digest_37 rfl rfl ?_
    refine ev_sipushN 42 160 dX12_digest_39 (by decide +kernel) rfl ?_
    refine ev_icmp_geN 45 72 dX12_digest_42 (by decide) (by omega) (by omega) rfl (fun hx => absurd hx ((by omega))) (fun hbr => ?_)
    refine ev_bipushN 47 31 dX12_digest_45 (by decide +kernel) rfl ?_
    refine ev_iload 49 dX12_digest_47 rfl rfl ?_
    refine ev_imul 50 dX12_digest_49 rfl ?_
    refine ev_aload_n 51 dX12_digest_50 rfl rfl ?_
    refine ev_getP 54 mm_cl12 (j := 20) (Nat.le_of_ble_eq_true rfl) dX12_digest_51 lk1305 (fun _ _ _ => rfl) (hM.1 0 _ rfl) (a := (m + 15)) (hM.2.2 14 _ _ _ rfl) rfl ?_
    refine ev_sipushN 57 160 dX12_digest_54 (by decide +kernel) rfl ?_
    refine ev_iload_n 58 dX12_digest_57 rfl rfl ?_
    refine ev_imulN 59 dX12_digest_58 rfl ?_
    refine ev_iload 61 dX12_digest_59 rfl rfl ?_
    refine ev_iaddN 62 dX12_digest_61 rfl ?_
    refine ev_iald 63 _ dX12_digest_62 (hM.1 15 _ rfl) rfl (by have hNN := hM.2.1 15 _ rfl; omega) rfl ?_
    refine ev_iadd 64 dX12_digest_63 rfl ?_
    refine ev_istore 66 (lv' := [_, _, _, some (.int _), _, _]) dX12_digest_64 (Nat.le_of_ble_eq_true rfl) rfl rfl ?_
    refine ev_iincN 69 (lv' := [_, _, _, _, some (.int _), _]) 1 dX12_digest_66 rfl (Nat.le_of_ble_eq_true rfl) rfl rfl ?_
    refine ev_goto 37 dX12_digest_69 (by decide) ?_
    exact ih (i + 1) _ (by omega) hd
theorem lx_dg2 {s : Nat} {c s0 d0 : Int32} {Z : mm_Z} (hM : lyM B P m) (hs : s < 16) (K : ∀ d v, d = dgR (fun j => I (m + 16) (8 * s + j)) 0 8 d0 → Ev g mX12_digest 108 [some (.ref m), some (.int c), some (.int s0), some (.int (nI s)), some (.int d), some (.int v)] [] B I J P Z) : ∀ (r i : Nat) (d : Int32), i + r = 8 → dgR (fun j => I (m + 16) (8 * s + j)) i r d = dgR (fun j => I (m + 16) (8 * s + j)) 0 8 d0 → Ev g mX12_digest 75 [some (.ref m), some (.int c), some (.int s0), some (.int (nI s)), some (.int d), some (.int (nI i))] [] B I J P Z := by
  intro r
  induction r with
  | zero =>
    intro i d hi hd
    refine ev_iload 77 dX12_digest_75 rfl rfl ?_
    refine ev_bipushN 79 8 dX12_digest_77 (by decide +kernel) rfl ?_
    refine ev_icmp_geN 82 108 dX12_digest_79 (by decide) (by omega) (by omega) rfl (fun hbr => ?_) (fun hx => absurd ((by omega)) hx)
    exact K d _ hd
  | succ r ih =>
    intro i d hi hd
    refine ev_iload 77 dX12_digest_75 rfl rfl ?_
    refine ev_bipushN 79 8 dX12_digest_77 (by decide +kernel) rfl ?_
    refine ev_icmp_geN 82 108 dX12_digest_79 (by decide) (by omega) (by omega) rfl (fun hx => absurd hx ((by omega))) (fun hbr => ?_)
    refine ev_bipushN 84 31 dX12_digest_82 (by decide +kernel) rfl ?_
    refine ev_iload 86 dX12_digest_84 rfl rfl ?_
    refine ev_imul 87 dX12_digest_86 rfl ?_
    refine ev_aload_n 88 dX12_digest_87 rfl rfl ?_
    refine ev_getP 91 mm_cl12 (j := 21) (Nat.le_of_ble_eq_true rfl) dX12_digest_88 lk1306 (fun _ _ _ => rfl) (hM.1 0 _ rfl) (a := (m + 16)) (hM.2.2 15 _ _ _ rfl) rfl ?_
    refine ev_bipushN 93 8 dX12_digest_91 (by decide +kernel) rfl ?_
    refine ev_iload_n 94 dX12_digest_93 rfl rfl ?_
    refine ev_imulN 95 dX12_digest_94 rfl ?_
    refine ev_iload 97 dX12_digest_95 rfl rfl ?_
    refine ev_iaddN 98 dX12_digest_97 rfl ?_
    refine ev_iald 99 _ dX12_digest_98 (hM.1 16 _ rfl) rfl (by have hNN := hM.2.1 16 _ rfl; omega) rfl ?_
    refine ev_iadd 100 dX12_digest_99 rfl ?_
    refine ev_istore 102 (lv' := [_, _, _, some (.int _), _, _]) dX12_digest_100 (Nat.le_of_ble_eq_true rfl) rfl rfl ?_
    refine ev_iincN 105 (lv' := [_, _, _, _, some (.int _), _]) 1 dX12_digest_102 rfl (Nat.le_of_ble_eq_true rfl) rfl rfl ?_
    refine ev_goto 75 dX12_digest_105 (by decide) ?_
    exact ih (i + 1) _ (by omega) hd
theorem lx_dg3 {s : Nat} {c s0 d0 : Int32} {Z : mm_Z} (hM : lyM B P m) (hs : s < 16) (K : ∀ d v, d = dgR (fun j => I (m + 17) (8 * s + j)) 0 8 d0 → Ev g mX12_digest 144 [some (.ref m), some (.int c), some (.int s0), some (.int (nI s)), some (.int d), some (.int v)] [] B I J P Z) : ∀ (r i : Nat) (d : Int32), i + r = 8 → dgR (fun j => I (m + 17) (8 * s + j)) i r d = dgR (fun j => I (m + 17) (8 * s + j)) 0 8 d0 → Ev g mX12_digest 111 [some (.ref m), some (.int c), some (.int s0), some (.int (nI s)), some (.int d), some (.int (nI i))] [] B I J P Z := by
  intro r
  induction r with
  | zero =>
    intro i d hi hd
    refine ev_iload 113 dX12_digest_111 rfl rfl ?_
    refine ev_bipushN 115 8 dX12_digest_113 (by decide +kernel) rfl ?_
    refine ev_icmp_geN 118 144 dX12_digest_115 (by decide) (by omega) (by omega) rfl (fun hbr => ?_) (fun hx => absurd ((by omega)) hx)
    exact K d _ hd
  | succ r ih =>
    intro i d hi hd
    refine ev_iload 113 dX12_digest_111 rfl rfl ?_
    refine ev_bipushN 115 8 dX12_digest_113 (by decide +kernel) rfl ?_
    refine ev_icmp_geN 118 144 dX12_digest_115 (by decide) (by omega) (by omega) rfl (fun hx => absurd hx ((by omega))) (fun hbr => ?_)
    refine ev_bipushN 120 31 dX12_digest_118 (by decide +kernel) rfl ?_
    refine ev_iload 122 dX12_digest_120 rfl rfl ?_
    refine ev_imul 123 dX12_digest_122 rfl ?_
    refine ev_aload_n 124 dX12_digest_123 rfl rfl ?_
    refine ev_getP 127 mm_cl12 (j := 22) (Nat.le_of_ble_eq_true rfl) dX12_digest_124 lk1307 (fun _ _ _ => rfl) (hM.1 0 _ rfl) (a := (m + 17)) (hM.2.2 16 _ _ _ rfl) rfl ?_
    refine ev_bipushN 129 8 dX12_digest_127 (by decide +kernel) rfl ?_
    refine ev_iload_n 130 dX12_digest_129 rfl rfl ?_
    refine ev_imulN 131 dX12_digest_130 rfl ?_
    refine ev_iload 133 dX12_digest_131 rfl rfl ?_
    refine ev_iaddN 134 dX12_digest_133 rfl ?_
    refine ev_iald 135 _ dX12_digest_134 (hM.1 17 _ rfl) rfl (by have hNN := hM.2.1 17 _ rfl; omega) rfl ?_
    refine ev_iadd 136 dX12_digest_135 rfl ?_
    refine ev_istore 138 (lv' := [_, _, _, some (.int _), _, _]) dX12_digest_136 (Nat.le_of_ble_eq_true rfl) rfl rfl ?_
    refine ev_iincN 141 (lv' := [_, _, _, _, some (.int _), _]) 1 dX12_digest_138 rfl (Nat.le_of_ble_eq_true rfl) rfl rfl ?_
    refine ev_goto 111 dX12_digest_141 (by decide) ?_
    exact ih (i + 1) _ (by omega) hd
theorem ml_digest_f {c s : Int32} (hM : lyM B P m) (hn : I m 0 = nI n) (hc : ¬ (0 ≤ c ∧ c < nI n)) : Ct g mX12_digest [.ref m, .int c, .int s] B I J P (some (.int (nI 0)), B, mo_st I m (-1), J, P) := by
  refine ct_of (lv := [some (.ref m), some (.int (c)), some (.int (s)), none, none, none]) (by decide +kernel) (Nat.le_of_ble_eq_true rfl) rfl ?_
  refine ev_aload_n 1 dX12_digest_0 rfl rfl ?_
  refine ev_iload_n 2 dX12_digest_1 rfl rfl ?_
  refine ev_invV 5 (Mc := mX12_isCoder) ⟨lk1552, lk80, hdX12_isCoder, (Nat.le_of_ble_eq_true rfl), (Nat.le_of_ble_eq_true rfl)⟩ lk1549 lk1551 lk40 mm_cl12 rfl dX12_digest_2 (ct_X12_isCoder_f hM (by rw [hn]; exact hc)) rfl (hM.1 0 _ rfl) (Nat.le_of_ble_eq_true rfl) rfl rfl ?_
  refine ev_if_eqN 8 17 dX12_digest_5 (by decide) (by omega) rfl (fun hbr => ?_) (fun hx => absurd ((by omega)) hx)
  refine ev_aload_n 18 dX12_digest_17 rfl rfl ?_
  refine ev_iconst 19 (v := -1) dX12_digest_18 (by decide +kernel) rfl ?_
  refine ev_putI 22 mm_cl12 (j := 1) (Nat.le_of_ble_eq_true rfl) dX12_digest_19 lk1286 rfl (fun _ _ _ => rfl) rfl rfl (hM.1 0 _ rfl) rfl ?_
  refine ev_iconstN 23 0 dX12_digest_22 rfl ?_
  exact ev_iret dX12_digest_23 rfl (rfl)
theorem ml_digest_s {s : Int32} (h : MA B I P m n k) (hs : ¬ (nI 0 ≤ s ∧ s ≤ nI 1)) : Ct g mX12_digest [.ref m, .int (nI k), .int s] B I J P (some (.int (nI 0)), B, mo_st I m (-1), J, P) := by
  obtain ⟨hM, hn, h8, hk⟩ := h
  refine ct_of (lv := [some (.ref m), some (.int (nI (k))), some (.int (s)), none, none, none]) (by decide +kernel) (Nat.le_of_ble_eq_true rfl) rfl ?_
  refine ev_aload_n 1 dX12_digest_0 rfl rfl ?_
  refine ev_iload_n 2 dX12_digest_1 rfl rfl ?_
  refine ev_invV 5 (Mc := mX12_isCoder) ⟨lk1552, lk80, hdX12_isCoder, (Nat.le_of_ble_eq_true rfl), (Nat.le_of_ble_eq_true rfl)⟩ lk1549 lk1551 lk40 mm_cl12 rfl dX12_digest_2 (ct_X12_isCoder_t hM hn h8 hk) rfl (hM.1 0 _ rfl) (Nat.le_of_ble_eq_true rfl) rfl rfl ?_
  refine ev_if_eqN 8 17 dX12_digest_5 (by decide) (by omega) rfl (fun hx => absurd hx ((by omega))) (fun hbr => ?_)
  refine ev_iload_n 9 dX12_digest_8 rfl rfl ?_
  refine ev_iconstN 10 0 dX12_digest_9 rfl ?_
  refine ev_iconstN 11 1 dX12_digest_10 rfl ?_
  refine ev_invS 14 (Mc := mX12_in) ⟨lk1536, lk80, hdX12_in, (Nat.le_of_ble_eq_true rfl), (Nat.le_of_ble_eq_true rfl)⟩ lk1534 lk1535 dX12_digest_11 (ct_X12_in_f hs) rfl (Nat.le_of_ble_eq_true rfl) rfl rfl ?_
  refine ev_if_neN 17 24 dX12_digest_14 (by decide) (by omega) rfl (fun hx => absurd ((by omega)) hx) (fun hbr => ?_)
  refine ev_aload_n 18 dX12_digest_17 rfl rfl ?_
  refine ev_iconst 19 (v := -1) dX12_digest_18 (by decide +kernel) rfl ?_
  refine ev_putI 22 mm_cl12 (j := 1) (Nat.le_of_ble_eq_true rfl) dX12_digest_19 lk1286 rfl (fun _ _ _ => rfl) rfl rfl (hM.1 0 _ rfl) rfl ?_
  refine ev_iconstN 23 0 dX12_digest_22 rfl ?_
  exact ev_iret dX12_digest_23 rfl (rfl)
theorem ml_digest_t {s : Nat} {v : Int32} (h : MA B I P m n k) (hs : s ≤ 1) (hv : nI 31 * dgR (fun j => I (m + 17) (8 * (2 * k + s) + j)) 0 8 (dgR (fun j => I (m + 16) (8 * (2 * k + s) + j)) 0 8 (dgR (fun j => I (m + 15) (160 * (2 * k + s) + j)) 0 160 (nI 7))) + I (m + 18) (2 * k + s) = v) : Ct g mX12_digest [.ref m, .int (nI k), .int (nI s)] B I J P (some (.int v), B, mo_st I m (nI 0), J, P) := by
  obtain ⟨hM, hn, h8, hk⟩ := h
  refine ct_of (lv := [some (.ref m), some (.int (nI k)), some (.int (nI s)), none, none, none]) (by decide +kernel) (Nat.le_of_ble_eq_true rfl) rfl ?_
  refine ev_aload_n 1 dX12_digest_0 rfl rfl ?_
  refine ev_iload_n 2 dX12_digest_1 rfl rfl ?_
  refine ev_invV 5 (Mc := mX12_isCoder) ⟨lk1552, lk80, hdX12_isCoder, (Nat.le_of_ble_eq_true rfl), (Nat.le_of_ble_eq_true rfl)⟩ lk1549 lk1551 lk40 mm_cl12 rfl dX12_digest_2 (ct_X12_isCoder_t hM hn h8 hk) rfl (hM.1 0 _ rfl) (Nat.le_of_ble_eq_true rfl) rfl rfl ?_
  refine ev_if_eqN 8 17 dX12_digest_5 (by decide) (by omega) rfl (fun hx => absurd hx ((by omega))) (fun hbr => ?_)
  refine ev_iload_n 9 dX12_digest_8 rfl rfl ?_
  refine ev_iconstN 10 0 dX12_digest_9 rfl ?_
  refine ev_iconstN 11 1 dX12_digest_10 rfl ?_
  refine ev_invS 14 (Mc := mX12_in) ⟨lk1536, lk80, hdX12_in, (Nat.le_of_ble_eq_true rfl), (Nat.le_of_ble_eq_true rfl)⟩ lk1534 lk1535 dX12_digest_11 (ct_X12_in_t (in_t (by omega) hs (by omega))) rfl (Nat.le_of_ble_eq_true rfl) rfl rfl ?_
  refine ev_if_neN 17 24 dX12_digest_14 (by decide) (by omega) rfl (fun hbr => ?_) (fun hx => absurd hx ((by omega)))
  refine ev_iconstN 25 2 dX12_digest_24 rfl ?_
  refine ev_iload_n 26 dX12_digest_25 rfl rfl ?_
  refine ev_imulN 27 dX12_digest_26 rfl ?_
  refine ev_iload_n 28 dX12_digest_27 rfl rfl ?_
  refine ev_iaddN 29 dX12_digest_28 rfl ?_
  refine ev_istore_n 30 (lv' := [_, _, some (.int _), _, _, _]) dX12_digest_29 (Nat.le_of_ble_eq_true rfl) rfl rfl ?_
  refine ev_bipushN 32 7 dX12_digest_30 (by decide +kernel) rfl ?_
  refine ev_istore 34 (lv' := [_, _, _, some (.int _), _, _]) dX12_digest_32 (Nat.le_of_ble_eq_true rfl) rfl rfl ?_
  refine ev_iconstN 35 0 dX12_digest_34 rfl ?_
  refine ev_istore 37 (lv' := [_, _, _, _, some (.int _), _]) dX12_digest_35 (Nat.le_of_ble_eq_true rfl) rfl rfl ?_
  refine lx_dg1 hM (by omega) (fun d v0 hd => ?_) 160 0 _ rfl rfl
  refine ev_iconstN 73 0 dX12_digest_72 rfl ?_
  refine ev_istore 75 (lv' := [_, _, _, _, some (.int _), _]) dX12_digest_73 (Nat.le_of_ble_eq_true rfl) rfl rfl ?_
  refine lx_dg2 (d0 := d) hM (by omega) (fun d2 v2 hd2 => ?_) 8 0 _ rfl rfl
  refine ev_iconstN 109 0 dX12_digest_108 rfl ?_
  refine ev_istore 111 (lv' := [_, _, _, _, some (.int _), _]) dX12_digest_109 (Nat.le_of_ble_eq_true rfl) rfl rfl ?_
  refine lx_dg3 (d0 := d2) hM (by omega) (fun d3 v3 hd3 => ?_) 8 0 _ rfl rfl
  refine ev_aload_n 145 dX12_digest_144 rfl rfl ?_
  refine ev_bipushN 147 31 dX12_digest_145 (by decide +kernel) rfl ?_
  refine ev_iload 149 dX12_digest_147 rfl rfl ?_
  refine ev_imul 150 dX12_digest_149 rfl ?_
  refine ev_aload_n 151 dX12_digest_150 rfl rfl ?_
  refine ev_getP 154 mm_cl12 (j := 23) (Nat.le_of_ble_eq_true rfl) dX12_digest_151 lk1308 (fun _ _ _ => rfl) (hM.1 0 _ rfl) (a := (m + 18)) (hM.2.2 17 _ _ _ rfl) rfl ?_
  refine ev_iload_n 155 dX12_digest_154 rfl rfl ?_
  refine ev_iald 156 _ dX12_digest_155 (hM.1 18 _ rfl) rfl (by have hNN := hM.2.1 18 _ rfl; omega) rfl ?_
  refine ev_iadd 157 dX12_digest_156 rfl ?_
  refine ev_eqI (y := (v)) ((by rw [hd3, hd2, hd]; exact hv)) ?_
  refine ev_invV 160 (Mc := mX12_done) ⟨lk1544, lk80, hdX12_done, (Nat.le_of_ble_eq_true rfl), (Nat.le_of_ble_eq_true rfl)⟩ lk1541 lk1543 lk39 mm_cl12 rfl dX12_digest_157 (ct_X12_done hM) rfl (hM.1 0 _ rfl) (Nat.le_of_ble_eq_true rfl) rfl rfl ?_
  exact ev_iret dX12_digest_160 rfl (rfl)
/-! what is left over: nothing -/
theorem lx_inRow {a N : Nat} (ta : mm_T B a = 200) (hN : mm_N B a = N) (h31 : N < 2 ^ 31) (h0 : I a = fun _ => 0) : ∀ (r i : Nat), i + r = N → Ev g mX8_inRow 10 [some (.ref a), some (.int (nI 0)), some (.ref a), some (.int (nI N)), some (.int (nI i)), none] [] B I J P (some (.int (nI 0)), B, I, J, P) := by
  intro r
  induction r with
  | zero =>
    intro i hi
    refine ev_iload 12 dX8_inRow_10 rfl rfl ?_
    refine ev_iload_n 13 dX8_inRow_12 rfl rfl ?_
    refine ev_icmp_geN 16 41 dX8_inRow_13 (by decide) (by omega) (by omega) rfl (fun hbr => ?_) (fun hx => absurd ((by omega)) hx)
    refine ev_iload_n 42 dX8_inRow_41 rfl rfl ?_
    exact ev_iret dX8_inRow_42 rfl (rfl)
  | succ r ih =>
    intro i hi
    refine ev_iload 12 dX8_inRow_10 rfl rfl ?_
    refine ev_iload_n 13 dX8_inRow_12 rfl rfl ?_
    refine ev_icmp_geN 16 41 dX8_inRow_13 (by decide) (by omega) (by omega) rfl (fun hx => absurd hx ((by omega))) (fun hbr => ?_)
    refine ev_aload_n 17 dX8_inRow_16 rfl rfl ?_
    refine ev_iload 19 dX8_inRow_17 rfl rfl ?_
    refine ev_iald 20 _ dX8_inRow_19 ta rfl (by omega) rfl ?_
    refine ev_eqI (y := nI (0)) ((by rw [h0]; rfl)) ?_
    refine ev_istore 22 (lv' := [_, _, _, _, some (.int _), _]) dX8_inRow_20 (Nat.le_of_ble_eq_true rfl) rfl rfl ?_
    refine ev_iload_n 23 dX8_inRow_22 rfl rfl ?_
    refine ev_iload 25 dX8_inRow_23 rfl rfl ?_
    refine ev_if_neN 28 32 dX8_inRow_25 (by decide) (by omega) rfl (fun hx => absurd ((by omega)) hx) (fun hbr => ?_)
    refine ev_iconstN 29 0 dX8_inRow_28 rfl ?_
    refine ev_goto 33 dX8_inRow_29 (by decide) ?_
    refine ev_iaddN 34 dX8_inRow_33 rfl ?_
    refine ev_istore_n 35 (lv' := [some (.ref _), _, _, _, _, _]) dX8_inRow_34 (Nat.le_of_ble_eq_true rfl) rfl rfl ?_
    refine ev_iincN 38 (lv' := [_, _, _, some (.int _), _, _]) 1 dX8_inRow_35 rfl (Nat.le_of_ble_eq_true rfl) rfl rfl ?_
    refine ev_goto 10 dX8_inRow_38 (by decide) ?_
    refine ev_le (mle_s (mle_s (mle_s (mle_s (mle_s (mle_n (mle_0))))))) ?_
    exact ih (i + 1) (by omega)
theorem ct_inRow {a N : Nat} (ta : mm_T B a = 200) (hN : mm_N B a = N) (h31 : N < 2 ^ 31) (h0 : I a = fun _ => 0) : Ct g mX8_inRow [.ref a] B I J P (some (.int (nI 0)), B, I, J, P) := by
  have e := lx_inRow (g := g) (B := B) (I := I) (J := J) (P := P) ta hN h31 h0 N 0 (by omega)
  refine ct_of (lv := [some (.ref a), none, none, none, none, none]) (by decide +kernel) (Nat.le_of_ble_eq_true rfl) rfl ?_
  refine ev_iconstN 1 0 dX8_inRow_0 rfl ?_
  refine ev_istore_n 2 (lv' := [some (.ref _), _, _, _, _, _]) dX8_inRow_1 (Nat.le_of_ble_eq_true rfl) rfl rfl ?_
  refine ev_aload_n 3 dX8_inRow_2 rfl rfl ?_
  refine ev_astore_n 4 (lv' := [_, some (.int _), _, _, _, _]) dX8_inRow_3 (Nat.le_of_ble_eq_true rfl) rfl rfl ?_
  refine ev_aload_n 5 dX8_inRow_4 rfl rfl ?_
  refine ev_alen 6 0 dX8_inRow_5 ta rfl ?_
  refine ev_eqI (y := nI (N)) ((by rw [hN])) ?_
  refine ev_istore_n 7 (lv' := [_, _, some (.ref _), _, _, _]) dX8_inRow_6 (Nat.le_of_ble_eq_true rfl) rfl rfl ?_
  refine ev_iconstN 8 0 dX8_inRow_7 rfl ?_
  refine ev_istore 10 (lv' := [_, _, _, some (.int _), _, _]) dX8_inRow_8 (Nat.le_of_ble_eq_true rfl) rfl rfl ?_
  exact e
theorem lx_inLongRow {a N : Nat} (ta : mm_T B a = 204) (hN : mm_N B a = N) (h31 : N < 2 ^ 31) (h0 : ∀ i, i < N → J a i = 0) : ∀ (r i : Nat), i + r = N → Ev g mX8_inLongRow 10 [some (.ref a), some (.int (nI 0)), some (.ref a), some (.int (nI N)), some (.int (nI i)), none, none] [] B I J P (some (.int (nI 0)), B, I, J, P) := by
  intro r
  induction r with
  | zero =>
    intro i hi
    refine ev_iload 12 dX8_inLongRow_10 rfl rfl ?_
    refine ev_iload_n 13 dX8_inLongRow_12 rfl rfl ?_
    refine ev_icmp_geN 16 43 dX8_inLongRow_13 (by decide) (by omega) (by omega) rfl (fun hbr => ?_) (fun hx => absurd ((by omega)) hx)
    refine ev_iload_n 44 dX8_inLongRow_43 rfl rfl ?_
    exact ev_iret dX8_inLongRow_44 rfl (rfl)
  | succ r ih =>
    intro i hi
    refine ev_iload 12 dX8_inLongRow_10 rfl rfl ?_
    refine ev_iload_n 13 dX8_inLongRow_12 rfl rfl ?_
    refine ev_icmp_geN 16 43 dX8_inLongRow_13 (by decide) (by omega) (by omega) rfl (fun hx => absurd hx ((by omega))) (fun hbr => ?_)
    refine ev_aload_n 17 dX8_inLongRow_16 rfl rfl ?_
    refine ev_iload 19 dX8_inLongRow_17 rfl rfl ?_
    refine ev_lald 20 _ dX8_inLongRow_19 ta rfl (by omega) rfl ?_
    refine ev_lstore 22 (lv' := [_, _, _, _, some (.int _), _, _]) dX8_inLongRow_20 (Nat.le_of_ble_eq_true rfl) rfl rfl ?_
    refine ev_iload_n 23 dX8_inLongRow_22 rfl rfl ?_
    refine ev_lload 25 dX8_inLongRow_23 rfl rfl ?_
    refine ev_lconst 26 (v := 0) dX8_inLongRow_25 (by decide +kernel) rfl ?_
    refine ev_lcmp 27 dX8_inLongRow_26 rfl ?_
    refine ev_lc_ne 30 34 dX8_inLongRow_27 (by decide) rfl (fun hx => absurd ((h0 i (by omega))) hx) (fun hbr => ?_)
    refine ev_iconstN 31 0 dX8_inLongRow_30 rfl ?_
    refine ev_goto 35 dX8_inLongRow_31 (by decide) ?_
    refine ev_iaddN 36 dX8_inLongRow_35 rfl ?_
    refine ev_istore_n 37 (lv' := [some (.ref _), _, _, _, _, _, _]) dX8_inLongRow_36 (Nat.le_of_ble_eq_true rfl) rfl rfl ?_
    refine ev_iincN 40 (lv' := [_, _, _, some (.int _), _, _, _]) 1 dX8_inLongRow_37 rfl (Nat.le_of_ble_eq_true rfl) rfl rfl ?_
    refine ev_goto 10 dX8_inLongRow_40 (by decide) ?_
    refine ev_le (mle_s (mle_s (mle_s (mle_s (mle_s (mle_n (mle_n (mle_0)))))))) ?_
    exact ih (i + 1) (by omega)
theorem ct_inLongRow {a N : Nat} (ta : mm_T B a = 204) (hN : mm_N B a = N) (h31 : N < 2 ^ 31) (h0 : ∀ i, i < N → J a i = 0) : Ct g mX8_inLongRow [.ref a] B I J P (some (.int (nI 0)), B, I, J, P) := by
  have e := lx_inLongRow (g := g) (B := B) (I := I) (J := J) (P := P) ta hN h31 h0 N 0 (by omega)
  refine ct_of (lv := [some (.ref a), none, none, none, none, none, none]) (by decide +kernel) (Nat.le_of_ble_eq_true rfl) rfl ?_
  refine ev_iconstN 1 0 dX8_inLongRow_0 rfl ?_
  refine ev_istore_n 2 (lv' := [some (.ref _), _, _, _, _, _, _]) dX8_inLongRow_1 (Nat.le_of_ble_eq_true rfl) rfl rfl ?_
  refine ev_aload_n 3 dX8_inLongRow_2 rfl rfl ?_
  refine ev_astore_n 4 (lv' := [_, some (.int _), _, _, _, _, _]) dX8_inLongRow_3 (Nat.le_of_ble_eq_true rfl) rfl rfl ?_
  refine ev_aload_n 5 dX8_inLongRow_4 rfl rfl ?_
  refine ev_alen 6 4 dX8_inLongRow_5 ta rfl ?_
  refine ev_eqI (y := nI (N)) ((by rw [hN])) ?_
  refine ev_istore_n 7 (lv' := [_, _, some (.ref _), _, _, _, _]) dX8_inLongRow_6 (Nat.le_of_ble_eq_true rfl) rfl rfl ?_
  refine ev_iconstN 8 0 dX8_inLongRow_7 rfl ?_
  refine ev_istore 10 (lv' := [_, _, _, some (.int _), _, _, _]) dX8_inLongRow_8 (Nat.le_of_ble_eq_true rfl) rfl rfl ?_
  exact e
theorem ct_leftovers (hV : lyV B P x) (hz : RGz I J x) : Ct g mX8_leftovers [.ref (x + 4)] B I J P (some (.int (nI 0)), B, I, J, P) := by
  have c1 : ∀ k : Nat, 5 ≤ k → k ≤ 14 → ∀ t N : Nat, lyV_T[k]? = some (some t) → t = 200 → lyV_N[k]? = some (some N) → N < 2 ^ 31 → Ct g mX8_inRow [.ref (x + k)] B I J P (some (.int (nI 0)), B, I, J, P) := fun k k1 k2 t N et e2 eN e3 => ct_inRow (by rw [hV.1 k t et]; exact e2) (hV.2.1 k N eN) e3 (hz.1 k k1 k2)
  refine ct_of (lv := [some (.ref (x + 4))]) (by decide +kernel) (Nat.le_of_ble_eq_true rfl) rfl ?_
  refine ev_aload_n 1 dX8_leftovers_0 rfl rfl ?_
  refine ev_getP 4 mm_cl8 (j := 0) (Nat.le_of_ble_eq_true rfl) dX8_leftovers_1 lk132 (fun _ _ _ => rfl) (hV.1 4 _ rfl) (a := (x + 5)) (hV.2.2 8 _ _ _ rfl) rfl ?_
  refine ev_invS 7 (Mc := mX8_inRow) ⟨lk1243, lk77, hdX8_inRow, (Nat.le_of_ble_eq_true rfl), (Nat.le_of_ble_eq_true rfl)⟩ lk1241 lk1242 dX8_leftovers_4 (c1 5 (by omega) (by omega) 200 320 rfl rfl rfl (by omega)) rfl (Nat.le_of_ble_eq_true rfl) rfl rfl ?_
  refine ev_aload_n 8 dX8_leftovers_7 rfl rfl ?_
  refine ev_getP 11 mm_cl8 (j := 1) (Nat.le_of_ble_eq_true rfl) dX8_leftovers_8 lk135 (fun _ _ _ => rfl) (hV.1 4 _ rfl) (a := (x + 6)) (hV.2.2 9 _ _ _ rfl) rfl ?_
  refine ev_invS 14 (Mc := mX8_inRow) ⟨lk1243, lk77, hdX8_inRow, (Nat.le_of_ble_eq_true rfl), (Nat.le_of_ble_eq_true rfl)⟩ lk1241 lk1242 dX8_leftovers_11 (c1 6 (by omega) (by omega) 200 321 rfl rfl rfl (by omega)) rfl (Nat.le_of_ble_eq_true rfl) rfl rfl ?_
  refine ev_iaddN 15 dX8_leftovers_14 rfl ?_
  refine ev_aload_n 16 dX8_leftovers_15 rfl rfl ?_
  refine ev_getP 19 mm_cl8 (j := 2) (Nat.le_of_ble_eq_true rfl) dX8_leftovers_16 lk138 (fun _ _ _ => rfl) (hV.1 4 _ rfl) (a := (x + 7)) (hV.2.2 10 _ _ _ rfl) rfl ?_
  refine ev_invS 22 (Mc := mX8_inRow) ⟨lk1243, lk77, hdX8_inRow, (Nat.le_of_ble_eq_true rfl), (Nat.le_of_ble_eq_true rfl)⟩ lk1241 lk1242 dX8_leftovers_19 (c1 7 (by omega) (by omega) 200 80 rfl rfl rfl (by omega)) rfl (Nat.le_of_ble_eq_true rfl) rfl rfl ?_
  refine ev_iaddN 23 dX8_leftovers_22 rfl ?_
  refine ev_aload_n 24 dX8_leftovers_23 rfl rfl ?_
  refine ev_getP 27 mm_cl8 (j := 3) (Nat.le_of_ble_eq_true rfl) dX8_leftovers_24 lk141 (fun _ _ _ => rfl) (hV.1 4 _ rfl) (a := (x + 8)) (hV.2.2 11 _ _ _ rfl) rfl ?_
  refine ev_invS 30 (Mc := mX8_inRow) ⟨lk1243, lk77, hdX8_inRow, (Nat.le_of_ble_eq_true rfl), (Nat.le_of_ble_eq_true rfl)⟩ lk1241 lk1242 dX8_leftovers_27 (c1 8 (by omega) (by omega) 200 80 rfl rfl rfl (by omega)) rfl (Nat.le_of_ble_eq_true rfl) rfl rfl ?_
  refine ev_iaddN 31 dX8_leftovers_30 rfl ?_
  refine ev_aload_n 32 dX8_leftovers_31 rfl rfl ?_
  refine ev_getP 35 mm_cl8 (j := 4) (Nat.le_of_ble_eq_true rfl) dX8_leftovers_32 lk143 (fun _ _ _ => rfl) (hV.1 4 _ rfl) (a := (x + 9)) (hV.2.2 12 _ _ _ rfl) rfl ?_
  refine ev_invS 38 (Mc := mX8_inRow) ⟨lk1243, lk77, hdX8_inRow, (Nat.le_of_ble_eq_true rfl), (Nat.le_of_ble_eq_true rfl)⟩ lk1241 lk1242 dX8_leftovers_35 (c1 9 (by omega) (by omega) 200 80 rfl rfl rfl (by omega)) rfl (Nat.le_of_ble_eq_true rfl) rfl rfl ?_
  refine ev_iaddN 39 dX8_leftovers_38 rfl ?_
  refine ev_aload_n 40 dX8_leftovers_39 rfl rfl ?_
  refine ev_getP 43 mm_cl8 (j := 5) (Nat.le_of_ble_eq_true rfl) dX8_leftovers_40 lk146 (fun _ _ _ => rfl) (hV.1 4 _ rfl) (a := (x + 10)) (hV.2.2 13 _ _ _ rfl) rfl ?_
  refine ev_invS 46 (Mc := mX8_inRow) ⟨lk1243, lk77, hdX8_inRow, (Nat.le_of_ble_eq_true rfl), (Nat.le_of_ble_eq_true rfl)⟩ lk1241 lk1242 dX8_leftovers_43 (c1 10 (by omega) (by omega) 200 160 rfl rfl rfl (by omega)) rfl (Nat.le_of_ble_eq_true rfl) rfl rfl ?_
  refine ev_iaddN 47 dX8_leftovers_46 rfl ?_
  refine ev_aload_n 48 dX8_leftovers_47 rfl rfl ?_
  refine ev_getP 51 mm_cl8 (j := 6) (Nat.le_of_ble_eq_true rfl) dX8_leftovers_48 lk148 (fun _ _ _ => rfl) (hV.1 4 _ rfl) (a := (x + 11)) (hV.2.2 14 _ _ _ rfl) rfl ?_
  refine ev_invS 54 (Mc := mX8_inRow) ⟨lk1243, lk77, hdX8_inRow, (Nat.le_of_ble_eq_true rfl), (Nat.le_of_ble_eq_true rfl)⟩ lk1241 lk1242 dX8_leftovers_51 (c1 11 (by omega) (by omega) 200 80 rfl rfl rfl (by omega)) rfl (Nat.le_of_ble_eq_true rfl) rfl rfl ?_
  refine ev_iaddN 55 dX8_leftovers_54 rfl ?_
  refine ev_aload_n 56 dX8_leftovers_55 rfl rfl ?_
  refine ev_getP 59 mm_cl8 (j := 7) (Nat.le_of_ble_eq_true rfl) dX8_leftovers_56 lk150 (fun _ _ _ => rfl) (hV.1 4 _ rfl) (a := (x + 12)) (hV.2.2 15 _ _ _ rfl) rfl ?_
  refine ev_invS 62 (Mc := mX8_inRow) ⟨lk1243, lk77, hdX8_inRow, (Nat.le_of_ble_eq_true rfl), (Nat.le_of_ble_eq_true rfl)⟩ lk1241 lk1242 dX8_leftovers_59 (c1 12 (by omega) (by omega) 200 80 rfl rfl rfl (by omega)) rfl (Nat.le_of_ble_eq_true rfl) rfl rfl ?_
  refine ev_iaddN 63 dX8_leftovers_62 rfl ?_
  refine ev_aload_n 64 dX8_leftovers_63 rfl rfl ?_
  refine ev_getP 67 mm_cl8 (j := 8) (Nat.le_of_ble_eq_true rfl) dX8_leftovers_64 lk152 (fun _ _ _ => rfl) (hV.1 4 _ rfl) (a := (x + 13)) (hV.2.2 16 _ _ _ rfl) rfl ?_
  refine ev_invS 70 (Mc := mX8_inRow) ⟨lk1243, lk77, hdX8_inRow, (Nat.le_of_ble_eq_true rfl), (Nat.le_of_ble_eq_true rfl)⟩ lk1241 lk1242 dX8_leftovers_67 (c1 13 (by omega) (by omega) 200 80 rfl rfl rfl (by omega)) rfl (Nat.le_of_ble_eq_true rfl) rfl rfl ?_
  refine ev_iaddN 71 dX8_leftovers_70 rfl ?_
  refine ev_aload_n 72 dX8_leftovers_71 rfl rfl ?_
  refine ev_getP 75 mm_cl8 (j := 9) (Nat.le_of_ble_eq_true rfl) dX8_leftovers_72 lk154 (fun _ _ _ => rfl) (hV.1 4 _ rfl) (a := (x + 14)) (hV.2.2 17 _ _ _ rfl) rfl ?_
  refine ev_invS 78 (Mc := mX8_inRow) ⟨lk1243, lk77, hdX8_inRow, (Nat.le_of_ble_eq_true rfl), (Nat.le_of_ble_eq_true rfl)⟩ lk1241 lk1242 dX8_leftovers_75 (c1 14 (by omega) (by omega) 200 80 rfl rfl rfl (by omega)) rfl (Nat.le_of_ble_eq_true rfl) rfl rfl ?_
  refine ev_iaddN 79 dX8_leftovers_78 rfl ?_
  refine ev_aload_n 80 dX8_leftovers_79 rfl rfl ?_
  refine ev_getP 83 mm_cl8 (j := 10) (Nat.le_of_ble_eq_true rfl) dX8_leftovers_80 lk156 (fun _ _ _ => rfl) (hV.1 4 _ rfl) (a := (x + 15)) (hV.2.2 18 _ _ _ rfl) rfl ?_
  refine ev_invS 86 (Mc := mX8_inLongRow) ⟨lk1246, lk77, hdX8_inLongRow, (Nat.le_of_ble_eq_true rfl), (Nat.le_of_ble_eq_true rfl)⟩ lk1244 lk1245 dX8_leftovers_83 (ct_inLongRow (N := 9) (hV.1 15 _ rfl) (hV.2.1 15 _ rfl) (by omega) hz.2.1) rfl (Nat.le_of_ble_eq_true rfl) rfl rfl ?_
  refine ev_iaddN 87 dX8_leftovers_86 rfl ?_
  refine ev_aload_n 88 dX8_leftovers_87 rfl rfl ?_
  refine ev_getP 91 mm_cl8 (j := 11) (Nat.le_of_ble_eq_true rfl) dX8_leftovers_88 lk158 (fun _ _ _ => rfl) (hV.1 4 _ rfl) (a := (x + 16)) (hV.2.2 19 _ _ _ rfl) rfl ?_
  refine ev_invS 94 (Mc := mX8_inLongRow) ⟨lk1246, lk77, hdX8_inLongRow, (Nat.le_of_ble_eq_true rfl), (Nat.le_of_ble_eq_true rfl)⟩ lk1244 lk1245 dX8_leftovers_91 (ct_inLongRow (N := 8) (hV.1 16 _ rfl) (hV.2.1 16 _ rfl) (by omega) hz.2.2) rfl (Nat.le_of_ble_eq_true rfl) rfl rfl ?_
  refine ev_iaddN 95 dX8_leftovers_94 rfl ?_
  exact ev_iret dX8_leftovers_95 rfl (rfl)
theorem cl_count_f {c w : Int32} (hV : lyV B P x) (hx : I x 4 = nI n) (hc : ¬ (0 ≤ c ∧ c < nI n)) : Ct g mX11_count [.ref x, .int c, .int w] B I J P (some (.int (-1)), B, vst I x (-1), J, P) := by
  refine ct_of (lv := [some (.ref x), some (.int (c)), some (.int (w)), none]) (by decide +kernel) (Nat.le_of_ble_eq_true rfl) rfl ?_
  refine ev_aload_n 1 dX11_count_0 rfl rfl ?_
  refine ev_iconstN 2 0 dX11_count_1 rfl ?_
  refine ev_putI 5 mm_cl11 (j := 9) (Nat.le_of_ble_eq_true rfl) dX11_count_2 lk270 rfl (fun _ _ _ => rfl) rfl rfl (hV.1 0 _ rfl) rfl ?_
  refine ev_aload_n 6 dX11_count_5 rfl rfl ?_
  refine ev_iload_n 7 dX11_count_6 rfl rfl ?_
  refine ev_invV 10 (Mc := mX11_coderAt) ⟨lk570, lk75, hdX11_coderAt, (Nat.le_of_ble_eq_true rfl), (Nat.le_of_ble_eq_true rfl)⟩ lk567 lk569 lk1 mm_cl11 rfl dX11_count_7 (ca_f hV hx hc) rfl (hV.1 0 _ rfl) (Nat.le_of_ble_eq_true rfl) rfl rfl ?_
  refine ev_astore_nN 11 (lv' := [_, _, some (.int _), _]) dX11_count_10 (Nat.le_of_ble_eq_true rfl) rfl rfl ?_
  refine ev_aload_nN 12 dX11_count_11 rfl rfl ?_
  refine ev_ifnull_n 25 dX11_count_12 (by decide) ?_
  refine ev_aload_n 26 dX11_count_25 rfl rfl ?_
  refine ev_iconst 27 (v := -1) dX11_count_26 (by decide +kernel) rfl ?_
  refine ev_invV 30 (Mc := mX11_refuse) ⟨lk303, lk75, hdX11_refuse, (Nat.le_of_ble_eq_true rfl), (Nat.le_of_ble_eq_true rfl)⟩ lk300 lk302 lk0 mm_cl11 rfl dX11_count_27 (ct_refuse hV) rfl (hV.1 0 _ rfl) (Nat.le_of_ble_eq_true rfl) rfl rfl ?_
  exact ev_iret dX11_count_30 rfl (rfl)
theorem cl_count_b {w : Int32} (h : CA B I P x o n k) (hw : ¬ (nI 0 ≤ w ∧ w ≤ nI 9)) : Ct g mX11_count [.ref x, .int (nI k), .int w] B I J P (some (.int (-1)), B, vst I x (-1), J, P) := by
  have ca := ca_t (g := g) (J := J) h
  obtain ⟨hV, hC, hxo, hx, h8, hk, hP⟩ := h
  refine ct_of (lv := [some (.ref x), some (.int (nI (k))), some (.int (w)), none]) (by decide +kernel) (Nat.le_of_ble_eq_true rfl) rfl ?_
  refine ev_aload_n 1 dX11_count_0 rfl rfl ?_
  refine ev_iconstN 2 0 dX11_count_1 rfl ?_
  refine ev_putI 5 mm_cl11 (j := 9) (Nat.le_of_ble_eq_true rfl) dX11_count_2 lk270 rfl (fun _ _ _ => rfl) rfl rfl (hV.1 0 _ rfl) rfl ?_
  refine ev_aload_n 6 dX11_count_5 rfl rfl ?_
  refine ev_iload_n 7 dX11_count_6 rfl rfl ?_
  refine ev_invV 10 (Mc := mX11_coderAt) ⟨lk570, lk75, hdX11_coderAt, (Nat.le_of_ble_eq_true rfl), (Nat.le_of_ble_eq_true rfl)⟩ lk567 lk569 lk1 mm_cl11 rfl dX11_count_7 (ca) rfl (hV.1 0 _ rfl) (Nat.le_of_ble_eq_true rfl) rfl rfl ?_
  refine ev_astore_n 11 (lv' := [_, _, some (.int _), _]) dX11_count_10 (Nat.le_of_ble_eq_true rfl) rfl rfl ?_
  refine ev_aload_n 12 dX11_count_11 rfl rfl ?_
  refine ev_ifnull_r 15 dX11_count_12 rfl ?_
  refine ev_iload_n 16 dX11_count_15 rfl rfl ?_
  refine ev_if_lt 19 25 dX11_count_16 (by decide) rfl (fun h1 => ?_) (fun h1 => ?_)
  · refine ev_aload_n 26 dX11_count_25 rfl rfl ?_
    refine ev_iconst 27 (v := -1) dX11_count_26 (by decide +kernel) rfl ?_
    refine ev_invV 30 (Mc := mX11_refuse) ⟨lk303, lk75, hdX11_refuse, (Nat.le_of_ble_eq_true rfl), (Nat.le_of_ble_eq_true rfl)⟩ lk300 lk302 lk0 mm_cl11 rfl dX11_count_27 (ct_refuse hV) rfl (hV.1 0 _ rfl) (Nat.le_of_ble_eq_true rfl) rfl rfl ?_
    exact ev_iret dX11_count_30 rfl (rfl)
  · refine ev_iload_n 20 dX11_count_19 rfl rfl ?_
    refine ev_bipushN 22 9 dX11_count_20 (by decide +kernel) rfl ?_
    refine ev_icmp_le 25 31 dX11_count_22 (by decide) rfl (fun hx => absurd hx ((fun h2 => hw ⟨Int32.not_lt.mp h1, h2⟩))) (fun hbr => ?_)
    refine ev_aload_n 26 dX11_count_25 rfl rfl ?_
    refine ev_iconst 27 (v := -1) dX11_count_26 (by decide +kernel) rfl ?_
    refine ev_invV 30 (Mc := mX11_refuse) ⟨lk303, lk75, hdX11_refuse, (Nat.le_of_ble_eq_true rfl), (Nat.le_of_ble_eq_true rfl)⟩ lk300 lk302 lk0 mm_cl11 rfl dX11_count_27 (ct_refuse hV) rfl (hV.1 0 _ rfl) (Nat.le_of_ble_eq_true rfl) rfl rfl ?_
    exact ev_iret dX11_count_30 rfl (rfl)
theorem cl_count_t {w : Nat} {v : Int32} (h : CA B I P x o n k) (hz : RGz I J x) (hw : w ≤ 9) (h0 : w = 0 → I o 1 = v) (h1 : w = 1 → I (o + 2) 1 = v) (h2 : w = 2 → I (o + 17) 9 = v) (h3 : w = 3 → I (o + 4) 16 = v) (h4 : w = 4 → I (o + 4) 17 = v) (h5 : w = 5 → I (o + 17) 15 = v) (h6 : w = 6 → I (o + 17) 16 = v) (h7 : w = 7 → I (o + 17) 17 = v) (h8' : w = 8 → I (o + 17) 18 = v) (h9 : w = 9 → nI 0 = v) : Ct g mX11_count [.ref x, .int (nI k), .int (nI w)] B I J P (some (.int v), B, vst I x (nI 0), J, P) := by
  have ca := ca_t (g := g) (J := J) h
  obtain ⟨hV, hC, hxo, hx, h8, hk, hP⟩ := h
  have this : w = 0 ∨ w = 1 ∨ w = 2 ∨ w = 3 ∨ w = 4 ∨ w = 5 ∨ w = 6 ∨ w = 7 ∨ w = 8 ∨ w = 9 := by omega
  have lo := ct_leftovers (g := g) (P := P) (I := vz I x) (J := J) hV (RGz_cg hz (fun k _ _ => va_up_n _ _ (by omega)) rfl rfl)
  rcases this with rfl | rfl | rfl | rfl | rfl | rfl | rfl | rfl | rfl | rfl
  · refine ct_of (lv := [some (.ref x), some (.int (nI (k))), some (.int (nI (0))), none]) (by decide +kernel) (Nat.le_of_ble_eq_true rfl) rfl ?_
    refine ev_aload_n 1 dX11_count_0 rfl rfl ?_
    refine ev_iconstN 2 0 dX11_count_1 rfl ?_
    refine ev_putI 5 mm_cl11 (j := 9) (Nat.le_of_ble_eq_true rfl) dX11_count_2 lk270 rfl (fun _ _ _ => rfl) rfl rfl (hV.1 0 _ rfl) rfl ?_
    refine ev_aload_n 6 dX11_count_5 rfl rfl ?_
    refine ev_iload_n 7 dX11_count_6 rfl rfl ?_
    refine ev_invV 10 (Mc := mX11_coderAt) ⟨lk570, lk75, hdX11_coderAt, (Nat.le_of_ble_eq_true rfl), (Nat.le_of_ble_eq_true rfl)⟩ lk567 lk569 lk1 mm_cl11 rfl dX11_count_7 (ca) rfl (hV.1 0 _ rfl) (Nat.le_of_ble_eq_true rfl) rfl rfl ?_
    refine ev_astore_n 11 (lv' := [_, _, some (.int _), _]) dX11_count_10 (Nat.le_of_ble_eq_true rfl) rfl rfl ?_
    refine ev_aload_n 12 dX11_count_11 rfl rfl ?_
    refine ev_ifnull_r 15 dX11_count_12 rfl ?_
    refine ev_iload_n 16 dX11_count_15 rfl rfl ?_
    refine ev_if_ltN 19 25 dX11_count_16 (by decide) (by omega) rfl (fun hx => absurd hx ((not_false))) (fun hbr => ?_)
    refine ev_iload_n 20 dX11_count_19 rfl rfl ?_
    refine ev_bipushN 22 9 dX11_count_20 (by decide +kernel) rfl ?_
    refine ev_icmp_leN 25 31 dX11_count_22 (by decide) (by omega) (by omega) rfl (fun hbr => ?_) (fun hx => absurd ((by omega)) hx)
    refine ev_iload_n 32 dX11_count_31 rfl rfl ?_
    refine ev_tableIn 84 dX11_count_32 (by decide) (by decide) rfl (by decide) ?_
    refine ev_aload_n 85 dX11_count_84 rfl rfl ?_
    refine ev_getI 88 mm_cl0 (j := 1) (Nat.le_of_ble_eq_true rfl) dX11_count_85 lk545 (fun _ _ _ => rfl) (hC.1 0 _ rfl) rfl ?_
    refine ev_eqI (y := (v)) ((vzk (h0 rfl) (by omega))) ?_
    exact ev_iret dX11_count_88 rfl (rfl)
  · refine ct_of (lv := [some (.ref x), some (.int (nI (k))), some (.int (nI (1))), none]) (by decide +kernel) (Nat.le_of_ble_eq_true rfl) rfl ?_
    refine ev_aload_n 1 dX11_count_0 rfl rfl ?_
    refine ev_iconstN 2 0 dX11_count_1 rfl ?_
    refine ev_putI 5 mm_cl11 (j := 9) (Nat.le_of_ble_eq_true rfl) dX11_count_2 lk270 rfl (fun _ _ _ => rfl) rfl rfl (hV.1 0 _ rfl) rfl ?_
    refine ev_aload_n 6 dX11_count_5 rfl rfl ?_
    refine ev_iload_n 7 dX11_count_6 rfl rfl ?_
    refine ev_invV 10 (Mc := mX11_coderAt) ⟨lk570, lk75, hdX11_coderAt, (Nat.le_of_ble_eq_true rfl), (Nat.le_of_ble_eq_true rfl)⟩ lk567 lk569 lk1 mm_cl11 rfl dX11_count_7 (ca) rfl (hV.1 0 _ rfl) (Nat.le_of_ble_eq_true rfl) rfl rfl ?_
    refine ev_astore_n 11 (lv' := [_, _, some (.int _), _]) dX11_count_10 (Nat.le_of_ble_eq_true rfl) rfl rfl ?_
    refine ev_aload_n 12 dX11_count_11 rfl rfl ?_
    refine ev_ifnull_r 15 dX11_count_12 rfl ?_
    refine ev_iload_n 16 dX11_count_15 rfl rfl ?_
    refine ev_if_ltN 19 25 dX11_count_16 (by decide) (by omega) rfl (fun hx => absurd hx ((not_false))) (fun hbr => ?_)
    refine ev_iload_n 20 dX11_count_19 rfl rfl ?_
    refine ev_bipushN 22 9 dX11_count_20 (by decide +kernel) rfl ?_
    refine ev_icmp_leN 25 31 dX11_count_22 (by decide) (by omega) (by omega) rfl (fun hbr => ?_) (fun hx => absurd ((by omega)) hx)
    refine ev_iload_n 32 dX11_count_31 rfl rfl ?_
    refine ev_tableIn 89 dX11_count_32 (by decide) (by decide) rfl (by decide) ?_
    refine ev_aload_n 90 dX11_count_89 rfl rfl ?_
    refine ev_getP 93 mm_cl0 (j := 2) (Nat.le_of_ble_eq_true rfl) dX11_count_90 lk547 (fun _ _ _ => rfl) (hC.1 0 _ rfl) (a := (o + 2)) (hC.2.2.1 1 _ _ _ rfl) rfl ?_
    refine ev_getI 96 mm_cl5 (j := 1) (Nat.le_of_ble_eq_true rfl) dX11_count_93 lk320 (fun _ _ _ => rfl) (hC.1 2 _ rfl) rfl ?_
    refine ev_eqI (y := (v)) ((vzk (h1 rfl) (by omega))) ?_
    exact ev_iret dX11_count_96 rfl (rfl)
  · refine ct_of (lv := [some (.ref x), some (.int (nI (k))), some (.int (nI (2))), none]) (by decide +kernel) (Nat.le_of_ble_eq_true rfl) rfl ?_
    refine ev_aload_n 1 dX11_count_0 rfl rfl ?_
    refine ev_iconstN 2 0 dX11_count_1 rfl ?_
    refine ev_putI 5 mm_cl11 (j := 9) (Nat.le_of_ble_eq_true rfl) dX11_count_2 lk270 rfl (fun _ _ _ => rfl) rfl rfl (hV.1 0 _ rfl) rfl ?_
    refine ev_aload_n 6 dX11_count_5 rfl rfl ?_
    refine ev_iload_n 7 dX11_count_6 rfl rfl ?_
    refine ev_invV 10 (Mc := mX11_coderAt) ⟨lk570, lk75, hdX11_coderAt, (Nat.le_of_ble_eq_true rfl), (Nat.le_of_ble_eq_true rfl)⟩ lk567 lk569 lk1 mm_cl11 rfl dX11_count_7 (ca) rfl (hV.1 0 _ rfl) (Nat.le_of_ble_eq_true rfl) rfl rfl ?_
    refine ev_astore_n 11 (lv' := [_, _, some (.int _), _]) dX11_count_10 (Nat.le_of_ble_eq_true rfl) rfl rfl ?_
    refine ev_aload_n 12 dX11_count_11 rfl rfl ?_
    refine ev_ifnull_r 15 dX11_count_12 rfl ?_
    refine ev_iload_n 16 dX11_count_15 rfl rfl ?_
    refine ev_if_ltN 19 25 dX11_count_16 (by decide) (by omega) rfl (fun hx => absurd hx ((not_false))) (fun hbr => ?_)
    refine ev_iload_n 20 dX11_count_19 rfl rfl ?_
    refine ev_bipushN 22 9 dX11_count_20 (by decide +kernel) rfl ?_
    refine ev_icmp_leN 25 31 dX11_count_22 (by decide) (by omega) (by omega) rfl (fun hbr => ?_) (fun hx => absurd ((by omega)) hx)
    refine ev_iload_n 32 dX11_count_31 rfl rfl ?_
    refine ev_tableIn 97 dX11_count_32 (by decide) (by decide) rfl (by decide) ?_
    refine ev_aload_n 98 dX11_count_97 rfl rfl ?_
    refine ev_getP 101 mm_cl0 (j := 4) (Nat.le_of_ble_eq_true rfl) dX11_count_98 lk551 (fun _ _ _ => rfl) (hC.1 0 _ rfl) (a := (o + 17)) (hC.2.2.1 3 _ _ _ rfl) rfl ?_
    refine ev_getI 104 mm_cl1 (j := 9) (Nat.le_of_ble_eq_true rfl) dX11_count_101 lk486 (fun _ _ _ => rfl) (hC.1 17 _ rfl) rfl ?_
    refine ev_eqI (y := (v)) ((vzk (h2 rfl) (by omega))) ?_
    exact ev_iret dX11_count_104 rfl (rfl)
  · refine ct_of (lv := [some (.ref x), some (.int (nI (k))), some (.int (nI (3))), none]) (by decide +kernel) (Nat.le_of_ble_eq_true rfl) rfl ?_
    refine ev_aload_n 1 dX11_count_0 rfl rfl ?_
    refine ev_iconstN 2 0 dX11_count_1 rfl ?_
    refine ev_putI 5 mm_cl11 (j := 9) (Nat.le_of_ble_eq_true rfl) dX11_count_2 lk270 rfl (fun _ _ _ => rfl) rfl rfl (hV.1 0 _ rfl) rfl ?_
    refine ev_aload_n 6 dX11_count_5 rfl rfl ?_
    refine ev_iload_n 7 dX11_count_6 rfl rfl ?_
    refine ev_invV 10 (Mc := mX11_coderAt) ⟨lk570, lk75, hdX11_coderAt, (Nat.le_of_ble_eq_true rfl), (Nat.le_of_ble_eq_true rfl)⟩ lk567 lk569 lk1 mm_cl11 rfl dX11_count_7 (ca) rfl (hV.1 0 _ rfl) (Nat.le_of_ble_eq_true rfl) rfl rfl ?_
    refine ev_astore_n 11 (lv' := [_, _, some (.int _), _]) dX11_count_10 (Nat.le_of_ble_eq_true rfl) rfl rfl ?_
    refine ev_aload_n 12 dX11_count_11 rfl rfl ?_
    refine ev_ifnull_r 15 dX11_count_12 rfl ?_
    refine ev_iload_n 16 dX11_count_15 rfl rfl ?_
    refine ev_if_ltN 19 25 dX11_count_16 (by decide) (by omega) rfl (fun hx => absurd hx ((not_false))) (fun hbr => ?_)
    refine ev_iload_n 20 dX11_count_19 rfl rfl ?_
    refine ev_bipushN 22 9 dX11_count_20 (by decide +kernel) rfl ?_
    refine ev_icmp_leN 25 31 dX11_count_22 (by decide) (by omega) (by omega) rfl (fun hbr => ?_) (fun hx => absurd ((by omega)) hx)
    refine ev_iload_n 32 dX11_count_31 rfl rfl ?_
    refine ev_tableIn 105 dX11_count_32 (by decide) (by decide) rfl (by decide) ?_
    refine ev_aload_n 106 dX11_count_105 rfl rfl ?_
    refine ev_getP 109 mm_cl0 (j := 3) (Nat.le_of_ble_eq_true rfl) dX11_count_106 lk549 (fun _ _ _ => rfl) (hC.1 0 _ rfl) (a := (o + 4)) (hC.2.2.1 2 _ _ _ rfl) rfl ?_
    refine ev_getI 112 mm_cl2 (j := 16) (Nat.le_of_ble_eq_true rfl) dX11_count_109 lk395 (fun _ _ _ => rfl) (hC.1 4 _ rfl) rfl ?_
    refine ev_eqI (y := (v)) ((vzk (h3 rfl) (by omega))) ?_
    exact ev_iret dX11_count_112 rfl (rfl)
  · refine ct_of (lv := [some (.ref x), some (.int (nI (k))), some (.int (nI (4))), none]) (by decide +kernel) (Nat.le_of_ble_eq_true rfl) rfl ?_
    refine ev_aload_n 1 dX11_count_0 rfl rfl ?_
    refine ev_iconstN 2 0 dX11_count_1 rfl ?_
    refine ev_putI 5 mm_cl11 (j := 9) (Nat.le_of_ble_eq_true rfl) dX11_count_2 lk270 rfl (fun _ _ _ => rfl) rfl rfl (hV.1 0 _ rfl) rfl ?_
    refine ev_aload_n 6 dX11_count_5 rfl rfl ?_
    refine ev_iload_n 7 dX11_count_6 rfl rfl ?_
    refine ev_invV 10 (Mc := mX11_coderAt) ⟨lk570, lk75, hdX11_coderAt, (Nat.le_of_ble_eq_true rfl), (Nat.le_of_ble_eq_true rfl)⟩ lk567 lk569 lk1 mm_cl11 rfl dX11_count_7 (ca) rfl (hV.1 0 _ rfl) (Nat.le_of_ble_eq_true rfl) rfl rfl ?_
    refine ev_astore_n 11 (lv' := [_, _, some (.int _), _]) dX11_count_10 (Nat.le_of_ble_eq_true rfl) rfl rfl ?_
    refine ev_aload_n 12 dX11_count_11 rfl rfl ?_
    refine ev_ifnull_r 15 dX11_count_12 rfl ?_
    refine ev_iload_n 16 dX11_count_15 rfl rfl ?_
    refine ev_if_ltN 19 25 dX11_count_16 (by decide) (by omega) rfl (fun hx => absurd hx ((not_false))) (fun hbr => ?_)
    refine ev_iload_n 20 dX11_count_19 rfl rfl ?_
    refine ev_bipushN 22 9 dX11_count_20 (by decide +kernel) rfl ?_
    refine ev_icmp_leN 25 31 dX11_count_22 (by decide) (by omega) (by omega) rfl (fun hbr => ?_) (fun hx => absurd ((by omega)) hx)
    refine ev_iload_n 32 dX11_count_31 rfl rfl ?_
    refine ev_tableIn 113 dX11_count_32 (by decide) (by decide) rfl (by decide) ?_
    refine ev_aload_n 114 dX11_count_113 rfl rfl ?_
    refine ev_getP 117 mm_cl0 (j := 3) (Nat.le_of_ble_eq_true rfl) dX11_count_114 lk549 (fun _ _ _ => rfl) (hC.1 0 _ rfl) (a := (o + 4)) (hC.2.2.1 2 _ _ _ rfl) rfl ?_
    refine ev_getI 120 mm_cl2 (j := 17) (Nat.le_of_ble_eq_true rfl) dX11_count_117 lk397 (fun _ _ _ => rfl) (hC.1 4 _ rfl) rfl ?_
    refine ev_eqI (y := (v)) ((vzk (h4 rfl) (by omega))) ?_
    exact ev_iret dX11_count_120 rfl (rfl)
  · refine ct_of (lv := [some (.ref x), some (.int (nI (k))), some (.int (nI (5))), none]) (by decide +kernel) (Nat.le_of_ble_eq_true rfl) rfl ?_
    refine ev_aload_n 1 dX11_count_0 rfl rfl ?_
    refine ev_iconstN 2 0 dX11_count_1 rfl ?_
    refine ev_putI 5 mm_cl11 (j := 9) (Nat.le_of_ble_eq_true rfl) dX11_count_2 lk270 rfl (fun _ _ _ => rfl) rfl rfl (hV.1 0 _ rfl) rfl ?_
    refine ev_aload_n 6 dX11_count_5 rfl rfl ?_
    refine ev_iload_n 7 dX11_count_6 rfl rfl ?_
    refine ev_invV 10 (Mc := mX11_coderAt) ⟨lk570, lk75, hdX11_coderAt, (Nat.le_of_ble_eq_true rfl), (Nat.le_of_ble_eq_true rfl)⟩ lk567 lk569 lk1 mm_cl11 rfl dX11_count_7 (ca) rfl (hV.1 0 _ rfl) (Nat.le_of_ble_eq_true rfl) rfl rfl ?_
    refine ev_astore_n 11 (lv' := [_, _, some (.int _), _]) dX11_count_10 (Nat.le_of_ble_eq_true rfl) rfl rfl ?_
    refine ev_aload_n 12 dX11_count_11 rfl rfl ?_
    refine ev_ifnull_r 15 dX11_count_12 rfl ?_
    refine ev_iload_n 16 dX11_count_15 rfl rfl ?_
    refine ev_if_ltN 19 25 dX11_count_16 (by decide) (by omega) rfl (fun hx => absurd hx ((not_false))) (fun hbr => ?_)
    refine ev_iload_n 20 dX11_count_19 rfl rfl ?_
    refine ev_bipushN 22 9 dX11_count_20 (by decide +kernel) rfl ?_
    refine ev_icmp_leN 25 31 dX11_count_22 (by decide) (by omega) (by omega) rfl (fun hbr => ?_) (fun hx => absurd ((by omega)) hx)
    refine ev_iload_n 32 dX11_count_31 rfl rfl ?_
    refine ev_tableIn 121 dX11_count_32 (by decide) (by decide) rfl (by decide) ?_
    refine ev_aload_n 122 dX11_count_121 rfl rfl ?_
    refine ev_getP 125 mm_cl0 (j := 4) (Nat.le_of_ble_eq_true rfl) dX11_count_122 lk551 (fun _ _ _ => rfl) (hC.1 0 _ rfl) (a := (o + 17)) (hC.2.2.1 3 _ _ _ rfl) rfl ?_
    refine ev_getI 128 mm_cl1 (j := 15) (Nat.le_of_ble_eq_true rfl) dX11_count_125 lk497 (fun _ _ _ => rfl) (hC.1 17 _ rfl) rfl ?_
    refine ev_eqI (y := (v)) ((vzk (h5 rfl) (by omega))) ?_
    exact ev_iret dX11_count_128 rfl (rfl)
  · refine ct_of (lv := [some (.ref x), some (.int (nI (k))), some (.int (nI (6))), none]) (by decide +kernel) (Nat.le_of_ble_eq_true rfl) rfl ?_
    refine ev_aload_n 1 dX11_count_0 rfl rfl ?_
    refine ev_iconstN 2 0 dX11_count_1 rfl ?_
    refine ev_putI 5 mm_cl11 (j := 9) (Nat.le_of_ble_eq_true rfl) dX11_count_2 lk270 rfl (fun _ _ _ => rfl) rfl rfl (hV.1 0 _ rfl) rfl ?_
    refine ev_aload_n 6 dX11_count_5 rfl rfl ?_
    refine ev_iload_n 7 dX11_count_6 rfl rfl ?_
    refine ev_invV 10 (Mc := mX11_coderAt) ⟨lk570, lk75, hdX11_coderAt, (Nat.le_of_ble_eq_true rfl), (Nat.le_of_ble_eq_true rfl)⟩ lk567 lk569 lk1 mm_cl11 rfl dX11_count_7 (ca) rfl (hV.1 0 _ rfl) (Nat.le_of_ble_eq_true rfl) rfl rfl ?_
    refine ev_astore_n 11 (lv' := [_, _, some (.int _), _]) dX11_count_10 (Nat.le_of_ble_eq_true rfl) rfl rfl ?_
    refine ev_aload_n 12 dX11_count_11 rfl rfl ?_
    refine ev_ifnull_r 15 dX11_count_12 rfl ?_
    refine ev_iload_n 16 dX11_count_15 rfl rfl ?_
    refine ev_if_ltN 19 25 dX11_count_16 (by decide) (by omega) rfl (fun hx => absurd hx ((not_false))) (fun hbr => ?_)
    refine ev_iload_n 20 dX11_count_19 rfl rfl ?_
    refine ev_bipushN 22 9 dX11_count_20 (by decide +kernel) rfl ?_
    refine ev_icmp_leN 25 31 dX11_count_22 (by decide) (by omega) (by omega) rfl (fun hbr => ?_) (fun hx => absurd ((by omega)) hx)
    refine ev_iload_n 32 dX11_count_31 rfl rfl ?_
    refine ev_tableIn 129 dX11_count_32 (by decide) (by decide) rfl (by decide) ?_
    refine ev_aload_n 130 dX11_count_129 rfl rfl ?_
    refine ev_getP 133 mm_cl0 (j := 4) (Nat.le_of_ble_eq_true rfl) dX11_count_130 lk551 (fun _ _ _ => rfl) (hC.1 0 _ rfl) (a := (o + 17)) (hC.2.2.1 3 _ _ _ rfl) rfl ?_
    refine ev_getI 136 mm_cl1 (j := 16) (Nat.le_of_ble_eq_true rfl) dX11_count_133 lk499 (fun _ _ _ => rfl) (hC.1 17 _ rfl) rfl ?_
    refine ev_eqI (y := (v)) ((vzk (h6 rfl) (by omega))) ?_
    exact ev_iret dX11_count_136 rfl (rfl)
  · refine ct_of (lv := [some (.ref x), some (.int (nI (k))), some (.int (nI (7))), none]) (by decide +kernel) (Nat.le_of_ble_eq_true rfl) rfl ?_
    refine ev_aload_n 1 dX11_count_0 rfl rfl ?_
    refine ev_iconstN 2 0 dX11_count_1 rfl ?_
    refine ev_putI 5 mm_cl11 (j := 9) (Nat.le_of_ble_eq_true rfl) dX11_count_2 lk270 rfl (fun _ _ _ => rfl) rfl rfl (hV.1 0 _ rfl) rfl ?_
    refine ev_aload_n 6 dX11_count_5 rfl rfl ?_
    refine ev_iload_n 7 dX11_count_6 rfl rfl ?_
    refine ev_invV 10 (Mc := mX11_coderAt) ⟨lk570, lk75, hdX11_coderAt, (Nat.le_of_ble_eq_true rfl), (Nat.le_of_ble_eq_true rfl)⟩ lk567 lk569 lk1 mm_cl11 rfl dX11_count_7 (ca) rfl (hV.1 0 _ rfl) (Nat.le_of_ble_eq_true rfl) rfl rfl ?_
    refine ev_astore_n 11 (lv' := [_, _, some (.int _), _]) dX11_count_10 (Nat.le_of_ble_eq_true rfl) rfl rfl ?_
    refine ev_aload_n 12 dX11_count_11 rfl rfl ?_
    refine ev_ifnull_r 15 dX11_count_12 rfl ?_
    refine ev_iload_n 16 dX11_count_15 rfl rfl ?_
    refine ev_if_ltN 19 25 dX11_count_16 (by decide) (by omega) rfl (fun hx => absurd hx ((not_false))) (fun hbr => ?_)
    refine ev_iload_n 20 dX11_count_19 rfl rfl ?_
    refine ev_bipushN 22 9 dX11_count_20 (by decide +kernel) rfl ?_
    refine ev_icmp_leN 25 31 dX11_count_22 (by decide) (by omega) (by omega) rfl (fun hbr => ?_) (fun hx => absurd ((by omega)) hx)
    refine ev_iload_n 32 dX11_count_31 rfl rfl ?_
    refine ev_tableIn 137 dX11_count_32 (by decide) (by decide) rfl (by decide) ?_
    refine ev_aload_n 138 dX11_count_137 rfl rfl ?_
    refine ev_getP 141 mm_cl0 (j := 4) (Nat.le_of_ble_eq_true rfl) dX11_count_138 lk551 (fun _ _ _ => rfl) (hC.1 0 _ rfl) (a := (o + 17)) (hC.2.2.1 3 _ _ _ rfl) rfl ?_
    refine ev_getI 144 mm_cl1 (j := 17) (Nat.le_of_ble_eq_true rfl) dX11_count_141 lk501 (fun _ _ _ => rfl) (hC.1 17 _ rfl) rfl ?_
    refine ev_eqI (y := (v)) ((vzk (h7 rfl) (by omega))) ?_
    exact ev_iret dX11_count_144 rfl (rfl)
  · refine ct_of (lv := [some (.ref x), some (.int (nI (k))), some (.int (nI (8))), none]) (by decide +kernel) (Nat.le_of_ble_eq_true rfl) rfl ?_
    refine ev_aload_n 1 dX11_count_0 rfl rfl ?_
    refine ev_iconstN 2 0 dX11_count_1 rfl ?_
    refine ev_putI 5 mm_cl11 (j := 9) (Nat.le_of_ble_eq_true rfl) dX11_count_2 lk270 rfl (fun _ _ _ => rfl) rfl rfl (hV.1 0 _ rfl) rfl ?_
    refine ev_aload_n 6 dX11_count_5 rfl rfl ?_
    refine ev_iload_n 7 dX11_count_6 rfl rfl ?_
    refine ev_invV 10 (Mc := mX11_coderAt) ⟨lk570, lk75, hdX11_coderAt, (Nat.le_of_ble_eq_true rfl), (Nat.le_of_ble_eq_true rfl)⟩ lk567 lk569 lk1 mm_cl11 rfl dX11_count_7 (ca) rfl (hV.1 0 _ rfl) (Nat.le_of_ble_eq_true rfl) rfl rfl ?_
    refine ev_astore_n 11 (lv' := [_, _, some (.int _), _]) dX11_count_10 (Nat.le_of_ble_eq_true rfl) rfl rfl ?_
    refine ev_aload_n 12 dX11_count_11 rfl rfl ?_
    refine ev_ifnull_r 15 dX11_count_12 rfl ?_
    refine ev_iload_n 16 dX11_count_15 rfl rfl ?_
    refine ev_if_ltN 19 25 dX11_count_16 (by decide) (by omega) rfl (fun hx => absurd hx ((not_false))) (fun hbr => ?_)
    refine ev_iload_n 20 dX11_count_19 rfl rfl ?_
    refine ev_bipushN 22 9 dX11_count_20 (by decide +kernel) rfl ?_
    refine ev_icmp_leN 25 31 dX11_count_22 (by decide) (by omega) (by omega) rfl (fun hbr => ?_) (fun hx => absurd ((by omega)) hx)
    refine ev_iload_n 32 dX11_count_31 rfl rfl ?_
    refine ev_tableIn 145 dX11_count_32 (by decide) (by decide) rfl (by decide) ?_
    refine ev_aload_n 146 dX11_count_145 rfl rfl ?_
    refine ev_getP 149 mm_cl0 (j := 4) (Nat.le_of_ble_eq_true rfl) dX11_count_146 lk551 (fun _ _ _ => rfl) (hC.1 0 _ rfl) (a := (o + 17)) (hC.2.2.1 3 _ _ _ rfl) rfl ?_
    refine ev_getI 152 mm_cl1 (j := 18) (Nat.le_of_ble_eq_true rfl) dX11_count_149 lk503 (fun _ _ _ => rfl) (hC.1 17 _ rfl) rfl ?_
    refine ev_eqI (y := (v)) ((vzk (h8' rfl) (by omega))) ?_
    exact ev_iret dX11_count_152 rfl (rfl)
  · rw [← h9 rfl]
    refine ct_of (lv := [some (.ref x), some (.int (nI (k))), some (.int (nI (9))), none]) (by decide +kernel) (Nat.le_of_ble_eq_true rfl) rfl ?_
    refine ev_aload_n 1 dX11_count_0 rfl rfl ?_
    refine ev_iconstN 2 0 dX11_count_1 rfl ?_
    refine ev_putI 5 mm_cl11 (j := 9) (Nat.le_of_ble_eq_true rfl) dX11_count_2 lk270 rfl (fun _ _ _ => rfl) rfl rfl (hV.1 0 _ rfl) rfl ?_
    refine ev_aload_n 6 dX11_count_5 rfl rfl ?_
    refine ev_iload_n 7 dX11_count_6 rfl rfl ?_
    refine ev_invV 10 (Mc := mX11_coderAt) ⟨lk570, lk75, hdX11_coderAt, (Nat.le_of_ble_eq_true rfl), (Nat.le_of_ble_eq_true rfl)⟩ lk567 lk569 lk1 mm_cl11 rfl dX11_count_7 (ca) rfl (hV.1 0 _ rfl) (Nat.le_of_ble_eq_true rfl) rfl rfl ?_
    refine ev_astore_n 11 (lv' := [_, _, some (.int _), _]) dX11_count_10 (Nat.le_of_ble_eq_true rfl) rfl rfl ?_
    refine ev_aload_n 12 dX11_count_11 rfl rfl ?_
    refine ev_ifnull_r 15 dX11_count_12 rfl ?_
    refine ev_iload_n 16 dX11_count_15 rfl rfl ?_
    refine ev_if_ltN 19 25 dX11_count_16 (by decide) (by omega) rfl (fun hx => absurd hx ((not_false))) (fun hbr => ?_)
    refine ev_iload_n 20 dX11_count_19 rfl rfl ?_
    refine ev_bipushN 22 9 dX11_count_20 (by decide +kernel) rfl ?_
    refine ev_icmp_leN 25 31 dX11_count_22 (by decide) (by omega) (by omega) rfl (fun hbr => ?_) (fun hx => absurd ((by omega)) hx)
    refine ev_iload_n 32 dX11_count_31 rfl rfl ?_
    refine ev_tableOut 153 dX11_count_32 (by decide) (by decide) ?_
    refine ev_aload_n 154 dX11_count_153 rfl rfl ?_
    refine ev_getP 157 mm_cl11 (j := 1) (Nat.le_of_ble_eq_true rfl) dX11_count_154 lk262 (fun _ _ _ => rfl) (hV.1 0 _ rfl) (a := (x + 4)) (hV.2.2 1 _ _ _ rfl) rfl ?_
    refine ev_invV 160 (Mc := mX8_leftovers) ⟨lk1240, lk77, hdX8_leftovers, (Nat.le_of_ble_eq_true rfl), (Nat.le_of_ble_eq_true rfl)⟩ lk1237 lk1238 lk1239 mm_cl8 rfl dX11_count_157 (lo) rfl (hV.1 4 _ rfl) (Nat.le_of_ble_eq_true rfl) rfl rfl ?_
    exact ev_iret dX11_count_160 rfl (rfl)
theorem ml_count_f {c w : Int32} (hM : lyM B P m) (hn : I m 0 = nI n) (hc : ¬ (0 ≤ c ∧ c < nI n)) : Ct g mX12_count [.ref m, .int c, .int w] B I J P (some (.int (-1)), B, mo_st I m (-1), J, P) := by
  refine ct_of (lv := [some (.ref m), some (.int (c)), some (.int (w))]) (by decide +kernel) (Nat.le_of_ble_eq_true rfl) rfl ?_
  refine ev_aload_n 1 dX12_count_0 rfl rfl ?_
  refine ev_iload_n 2 dX12_count_1 rfl rfl ?_
  refine ev_invV 5 (Mc := mX12_isCoder) ⟨lk1552, lk80, hdX12_isCoder, (Nat.le_of_ble_eq_true rfl), (Nat.le_of_ble_eq_true rfl)⟩ lk1549 lk1551 lk40 mm_cl12 rfl dX12_count_2 (ct_X12_isCoder_f hM (by rw [hn]; exact hc)) rfl (hM.1 0 _ rfl) (Nat.le_of_ble_eq_true rfl) rfl rfl ?_
  refine ev_if_neN 8 14 dX12_count_5 (by decide) (by omega) rfl (fun hx => absurd ((by omega)) hx) (fun hbr => ?_)
  refine ev_aload_n 9 dX12_count_8 rfl rfl ?_
  refine ev_iconst 10 (v := -1) dX12_count_9 (by decide +kernel) rfl ?_
  refine ev_invV 13 (Mc := mX12_refused) ⟨lk1540, lk80, hdX12_refused, (Nat.le_of_ble_eq_true rfl), (Nat.le_of_ble_eq_true rfl)⟩ lk1537 lk1539 lk38 mm_cl12 rfl dX12_count_10 (ct_X12_refused hM) rfl (hM.1 0 _ rfl) (Nat.le_of_ble_eq_true rfl) rfl rfl ?_
  exact ev_iret dX12_count_13 rfl (rfl)
theorem ml_count_b {w : Int32} (h : MA B I P m n k) (hw : ¬ (nI 0 ≤ w ∧ w ≤ nI 9)) : Ct g mX12_count [.ref m, .int (nI k), .int w] B I J P (some (.int (-1)), B, mo_st I m (-1), J, P) := by
  obtain ⟨hM, hn, h8, hk⟩ := h
  refine ct_of (lv := [some (.ref m), some (.int (nI (k))), some (.int (w))]) (by decide +kernel) (Nat.le_of_ble_eq_true rfl) rfl ?_
  refine ev_aload_n 1 dX12_count_0 rfl rfl ?_
  refine ev_iload_n 2 dX12_count_1 rfl rfl ?_
  refine ev_invV 5 (Mc := mX12_isCoder) ⟨lk1552, lk80, hdX12_isCoder, (Nat.le_of_ble_eq_true rfl), (Nat.le_of_ble_eq_true rfl)⟩ lk1549 lk1551 lk40 mm_cl12 rfl dX12_count_2 (ct_X12_isCoder_t hM hn h8 hk) rfl (hM.1 0 _ rfl) (Nat.le_of_ble_eq_true rfl) rfl rfl ?_
  refine ev_if_neN 8 14 dX12_count_5 (by decide) (by omega) rfl (fun hbr => ?_) (fun hx => absurd hx ((by omega)))
  refine ev_iload_n 15 dX12_count_14 rfl rfl ?_
  refine ev_tableOut 173 dX12_count_15 (nI_out (lo := 0) (hi := 9) (by omega) (by omega) hw) (by decide) ?_
  refine ev_aload_n 174 dX12_count_173 rfl rfl ?_
  refine ev_iconst 175 (v := -1) dX12_count_174 (by decide +kernel) rfl ?_
  refine ev_invV 178 (Mc := mX12_refused) ⟨lk1540, lk80, hdX12_refused, (Nat.le_of_ble_eq_true rfl), (Nat.le_of_ble_eq_true rfl)⟩ lk1537 lk1539 lk38 mm_cl12 rfl dX12_count_175 (ct_X12_refused hM) rfl (hM.1 0 _ rfl) (Nat.le_of_ble_eq_true rfl) rfl rfl ?_
  exact ev_iret dX12_count_178 rfl (rfl)
theorem ml_count_t {w : Nat} {v : Int32} (h : MA B I P m n k) (hw : w ≤ 9) (h0 : w = 0 → I (m + 11) k = v) (h1 : w = 1 → I (m + 28) k = v) (h2 : w = 2 → I (m + 36) k = v) (h3 : w = 3 → I (m + 10) k = v) (h4 : w = 4 → I (m + 14) k = v) (h5 : w = 5 → I (m + 38) k = v) (h6 : w = 6 → I (m + 39) k = v) (h7 : w = 7 → I (m + 40) k = v) (h8' : w = 8 → I (m + 41) k = v) (h9 : w = 9 → nI 0 = v) : Ct g mX12_count [.ref m, .int (nI k), .int (nI w)] B I J P (some (.int v), B, mo_st I m (nI 0), J, P) := by
  obtain ⟨hM, hn, h8, hk⟩ := h
  have this : w = 0 ∨ w = 1 ∨ w = 2 ∨ w = 3 ∨ w = 4 ∨ w = 5 ∨ w = 6 ∨ w = 7 ∨ w = 8 ∨ w = 9 := by omega
  rcases this with rfl | rfl | rfl | rfl | rfl | rfl | rfl | rfl | rfl | rfl
  · refine ct_of (lv := [some (.ref m), some (.int (nI (k))), some (.int (nI (0)))]) (by decide +kernel) (Nat.le_of_ble_eq_true rfl) rfl ?_
    refine ev_aload_n 1 dX12_count_0 rfl rfl ?_
    refine ev_iload_n 2 dX12_count_1 rfl rfl ?_
    refine ev_invV 5 (Mc := mX12_isCoder) ⟨lk1552, lk80, hdX12_isCoder, (Nat.le_of_ble_eq_true rfl), (Nat.le_of_ble_eq_true rfl)⟩ lk1549 lk1551 lk40 mm_cl12 rfl dX12_count_2 (ct_X12_isCoder_t hM hn h8 hk) rfl (hM.1 0 _ rfl) (Nat.le_of_ble_eq_true rfl) rfl rfl ?_
    refine ev_if_neN 8 14 dX12_count_5 (by decide) (by omega) rfl (fun hbr => ?_) (fun hx => absurd hx ((by omega)))
    refine ev_iload_n 15 dX12_count_14 rfl rfl ?_
    refine ev_tableIn 68 dX12_count_15 (by decide) (by decide) rfl (by decide) ?_
    refine ev_aload_n 69 dX12_count_68 rfl rfl ?_
    refine ev_aload_n 70 dX12_count_69 rfl rfl ?_
    refine ev_getP 73 mm_cl12 (j := 16) (Nat.le_of_ble_eq_true rfl) dX12_count_70 lk1301 (fun _ _ _ => rfl) (hM.1 0 _ rfl) (a := (m + 11)) (hM.2.2 10 _ _ _ rfl) rfl ?_
    refine ev_iload_n 74 dX12_count_73 rfl rfl ?_
    refine ev_iald 75 _ dX12_count_74 (hM.1 11 _ rfl) rfl (by have hNN := hM.2.1 11 _ rfl; omega) rfl ?_
    refine ev_eqI (y := (v)) ((h0 rfl)) ?_
    refine ev_invV 78 (Mc := mX12_done) ⟨lk1544, lk80, hdX12_done, (Nat.le_of_ble_eq_true rfl), (Nat.le_of_ble_eq_true rfl)⟩ lk1541 lk1543 lk39 mm_cl12 rfl dX12_count_75 (ct_X12_done hM) rfl (hM.1 0 _ rfl) (Nat.le_of_ble_eq_true rfl) rfl rfl ?_
    exact ev_iret dX12_count_78 rfl (rfl)
  · refine ct_of (lv := [some (.ref m), some (.int (nI (k))), some (.int (nI (1)))]) (by decide +kernel) (Nat.le_of_ble_eq_true rfl) rfl ?_
    refine ev_aload_n 1 dX12_count_0 rfl rfl ?_
    refine ev_iload_n 2 dX12_count_1 rfl rfl ?_
    refine ev_invV 5 (Mc := mX12_isCoder) ⟨lk1552, lk80, hdX12_isCoder, (Nat.le_of_ble_eq_true rfl), (Nat.le_of_ble_eq_true rfl)⟩ lk1549 lk1551 lk40 mm_cl12 rfl dX12_count_2 (ct_X12_isCoder_t hM hn h8 hk) rfl (hM.1 0 _ rfl) (Nat.le_of_ble_eq_true rfl) rfl rfl ?_
    refine ev_if_neN 8 14 dX12_count_5 (by decide) (by omega) rfl (fun hbr => ?_) (fun hx => absurd hx ((by omega)))
    refine ev_iload_n 15 dX12_count_14 rfl rfl ?_
    refine ev_tableIn 79 dX12_count_15 (by decide) (by decide) rfl (by decide) ?_
    refine ev_aload_n 80 dX12_count_79 rfl rfl ?_
    refine ev_aload_n 81 dX12_count_80 rfl rfl ?_
    refine ev_getP 84 mm_cl12 (j := 33) (Nat.le_of_ble_eq_true rfl) dX12_count_81 lk1318 (fun _ _ _ => rfl) (hM.1 0 _ rfl) (a := (m + 28)) (hM.2.2 27 _ _ _ rfl) rfl ?_
    refine ev_iload_n 85 dX12_count_84 rfl rfl ?_
    refine ev_iald 86 _ dX12_count_85 (hM.1 28 _ rfl) rfl (by have hNN := hM.2.1 28 _ rfl; omega) rfl ?_
    refine ev_eqI (y := (v)) ((h1 rfl)) ?_
    refine ev_invV 89 (Mc := mX12_done) ⟨lk1544, lk80, hdX12_done, (Nat.le_of_ble_eq_true rfl), (Nat.le_of_ble_eq_true rfl)⟩ lk1541 lk1543 lk39 mm_cl12 rfl dX12_count_86 (ct_X12_done hM) rfl (hM.1 0 _ rfl) (Nat.le_of_ble_eq_true rfl) rfl rfl ?_
    exact ev_iret dX12_count_89 rfl (rfl)
  · refine ct_of (lv := [some (.ref m), some (.int (nI (k))), some (.int (nI (2)))]) (by decide +kernel) (Nat.le_of_ble_eq_true rfl) rfl ?_
    refine ev_aload_n 1 dX12_count_0 rfl rfl ?_
    refine ev_iload_n 2 dX12_count_1 rfl rfl ?_
    refine ev_invV 5 (Mc := mX12_isCoder) ⟨lk1552, lk80, hdX12_isCoder, (Nat.le_of_ble_eq_true rfl), (Nat.le_of_ble_eq_true rfl)⟩ lk1549 lk1551 lk40 mm_cl12 rfl dX12_count_2 (ct_X12_isCoder_t hM hn h8 hk) rfl (hM.1 0 _ rfl) (Nat.le_of_ble_eq_true rfl) rfl rfl ?_
    refine ev_if_neN 8 14 dX12_count_5 (by decide) (by omega) rfl (fun hbr => ?_) (fun hx => absurd hx ((by omega)))
    refine ev_iload_n 15 dX12_count_14 rfl rfl ?_
    refine ev_tableIn 90 dX12_count_15 (by decide) (by decide) rfl (by decide) ?_
    refine ev_aload_n 91 dX12_count_90 rfl rfl ?_
    refine ev_aload_n 92 dX12_count_91 rfl rfl ?_
    refine ev_getP 95 mm_cl12 (j := 42) (Nat.le_of_ble_eq_true rfl) dX12_count_92 lk1327 (fun _ _ _ => rfl) (hM.1 0 _ rfl) (a := (m + 36)) (hM.2.2 35 _ _ _ rfl) rfl ?_
    refine ev_iload_n 96 dX12_count_95 rfl rfl ?_
    refine ev_iald 97 _ dX12_count_96 (hM.1 36 _ rfl) rfl (by have hNN := hM.2.1 36 _ rfl; omega) rfl ?_
    refine ev_eqI (y := (v)) ((h2 rfl)) ?_
    refine ev_invV 100 (Mc := mX12_done) ⟨lk1544, lk80, hdX12_done, (Nat.le_of_ble_eq_true rfl), (Nat.le_of_ble_eq_true rfl)⟩ lk1541 lk1543 lk39 mm_cl12 rfl dX12_count_97 (ct_X12_done hM) rfl (hM.1 0 _ rfl) (Nat.le_of_ble_eq_true rfl) rfl rfl ?_
    exact ev_iret dX12_count_100 rfl (rfl)
  · refine ct_of (lv := [some (.ref m), some (.int (nI (k))), some (.int (nI (3)))]) (by decide +kernel) (Nat.le_of_ble_eq_true rfl) rfl ?_
    refine ev_aload_n 1 dX12_count_0 rfl rfl ?_
    refine ev_iload_n 2 dX12_count_1 rfl rfl ?_
    refine ev_invV 5 (Mc := mX12_isCoder) ⟨lk1552, lk80, hdX12_isCoder, (Nat.le_of_ble_eq_true rfl), (Nat.le_of_ble_eq_true rfl)⟩ lk1549 lk1551 lk40 mm_cl12 rfl dX12_count_2 (ct_X12_isCoder_t hM hn h8 hk) rfl (hM.1 0 _ rfl) (Nat.le_of_ble_eq_true rfl) rfl rfl ?_
    refine ev_if_neN 8 14 dX12_count_5 (by decide) (by omega) rfl (fun hbr => ?_) (fun hx => absurd hx ((by omega)))
    refine ev_iload_n 15 dX12_count_14 rfl rfl ?_
    refine ev_tableIn 101 dX12_count_15 (by decide) (by decide) rfl (by decide) ?_
    refine ev_aload_n 102 dX12_count_101 rfl rfl ?_
    refine ev_aload_n 103 dX12_count_102 rfl rfl ?_
    refine ev_getP 106 mm_cl12 (j := 15) (Nat.le_of_ble_eq_true rfl) dX12_count_103 lk1300 (fun _ _ _ => rfl) (hM.1 0 _ rfl) (a := (m + 10)) (hM.2.2 9 _ _ _ rfl) rfl ?_
    refine ev_iload_n 107 dX12_count_106 rfl rfl ?_
    refine ev_iald 108 _ dX12_count_107 (hM.1 10 _ rfl) rfl (by have hNN := hM.2.1 10 _ rfl; omega) rfl ?_
    refine ev_eqI (y := (v)) ((h3 rfl)) ?_
    refine ev_invV 111 (Mc := mX12_done) ⟨lk1544, lk80, hdX12_done, (Nat.le_of_ble_eq_true rfl), (Nat.le_of_ble_eq_true rfl)⟩ lk1541 lk1543 lk39 mm_cl12 rfl dX12_count_108 (ct_X12_done hM) rfl (hM.1 0 _ rfl) (Nat.le_of_ble_eq_true rfl) rfl rfl ?_
    exact ev_iret dX12_count_111 rfl (rfl)
  · refine ct_of (lv := [some (.ref m), some (.int (nI (k))), some (.int (nI (4)))]) (by decide +kernel) (Nat.le_of_ble_eq_true rfl) rfl ?_
    refine ev_aload_n 1 dX12_count_0 rfl rfl ?_
    refine ev_iload_n 2 dX12_count_1 rfl rfl ?_
    refine ev_invV 5 (Mc := mX12_isCoder) ⟨lk1552, lk80, hdX12_isCoder, (Nat.le_of_ble_eq_true rfl), (Nat.le_of_ble_eq_true rfl)⟩ lk1549 lk1551 lk40 mm_cl12 rfl dX12_count_2 (ct_X12_isCoder_t hM hn h8 hk) rfl (hM.1 0 _ rfl) (Nat.le_of_ble_eq_true rfl) rfl rfl ?_
    refine ev_if_neN 8 14 dX12_count_5 (by decide) (by omega) rfl (fun hbr => ?_) (fun hx => absurd hx ((by omega)))
    refine ev_iload_n 15 dX12_count_14 rfl rfl ?_
    refine ev_tableIn 112 dX12_count_15 (by decide) (by decide) rfl (by decide) ?_
    refine ev_aload_n 113 dX12_count_112 rfl rfl ?_
    refine ev_aload_n 114 dX12_count_113 rfl rfl ?_
    refine ev_getP 117 mm_cl12 (j := 19) (Nat.le_of_ble_eq_true rfl) dX12_count_114 lk1304 (fun _ _ _ => rfl) (hM.1 0 _ rfl) (a := (m + 14)) (hM.2.2 13 _ _ _ rfl) rfl ?_
    refine ev_iload_n 118 dX12_count_117 rfl rfl ?_
    refine ev_iald 119 _ dX12_count_118 (hM.1 14 _ rfl) rfl (by have hNN := hM.2.1 14 _ rfl; omega) rfl ?_
    refine ev_eqI (y := (v)) ((h4 rfl)) ?_
    refine ev_invV 122 (Mc := mX12_done) ⟨lk1544, lk80, hdX12_done, (Nat.le_of_ble_eq_true rfl), (Nat.le_of_ble_eq_true rfl)⟩ lk1541 lk1543 lk39 mm_cl12 rfl dX12_count_119 (ct_X12_done hM) rfl (hM.1 0 _ rfl) (Nat.le_of_ble_eq_true rfl) rfl rfl ?_
    exact ev_iret dX12_count_122 rfl (rfl)
  · refine ct_of (lv := [some (.ref m), some (.int (nI (k))), some (.int (nI (5)))]) (by decide +kernel) (Nat.le_of_ble_eq_true rfl) rfl ?_
    refine ev_aload_n 1 dX12_count_0 rfl rfl ?_
    refine ev_iload_n 2 dX12_count_1 rfl rfl ?_
    refine ev_invV 5 (Mc := mX12_isCoder) ⟨lk1552, lk80, hdX12_isCoder, (Nat.le_of_ble_eq_true rfl), (Nat.le_of_ble_eq_true rfl)⟩ lk1549 lk1551 lk40 mm_cl12 rfl dX12_count_2 (ct_X12_isCoder_t hM hn h8 hk) rfl (hM.1 0 _ rfl) (Nat.le_of_ble_eq_true rfl) rfl rfl ?_
    refine ev_if_neN 8 14 dX12_count_5 (by decide) (by omega) rfl (fun hbr => ?_) (fun hx => absurd hx ((by omega)))
    refine ev_iload_n 15 dX12_count_14 rfl rfl ?_
    refine ev_tableIn 123 dX12_count_15 (by decide) (by decide) rfl (by decide) ?_
    refine ev_aload_n 124 dX12_count_123 rfl rfl ?_
    refine ev_aload_n 125 dX12_count_124 rfl rfl ?_
    refine ev_getP 128 mm_cl12 (j := 44) (Nat.le_of_ble_eq_true rfl) dX12_count_125 lk1329 (fun _ _ _ => rfl) (hM.1 0 _ rfl) (a := (m + 38)) (hM.2.2 37 _ _ _ rfl) rfl ?_
    refine ev_iload_n 129 dX12_count_128 rfl rfl ?_
    refine ev_iald 130 _ dX12_count_129 (hM.1 38 _ rfl) rfl (by have hNN := hM.2.1 38 _ rfl; omega) rfl ?_
    refine ev_eqI (y := (v)) ((h5 rfl)) ?_
    refine ev_invV 133 (Mc := mX12_done) ⟨lk1544, lk80, hdX12_done, (Nat.le_of_ble_eq_true rfl), (Nat.le_of_ble_eq_true rfl)⟩ lk1541 lk1543 lk39 mm_cl12 rfl dX12_count_130 (ct_X12_done hM) rfl (hM.1 0 _ rfl) (Nat.le_of_ble_eq_true rfl) rfl rfl ?_
    exact ev_iret dX12_count_133 rfl (rfl)
  · refine ct_of (lv := [some (.ref m), some (.int (nI (k))), some (.int (nI (6)))]) (by decide +kernel) (Nat.le_of_ble_eq_true rfl) rfl ?_
    refine ev_aload_n 1 dX12_count_0 rfl rfl ?_
    refine ev_iload_n 2 dX12_count_1 rfl rfl ?_
    refine ev_invV 5 (Mc := mX12_isCoder) ⟨lk1552, lk80, hdX12_isCoder, (Nat.le_of_ble_eq_true rfl), (Nat.le_of_ble_eq_true rfl)⟩ lk1549 lk1551 lk40 mm_cl12 rfl dX12_count_2 (ct_X12_isCoder_t hM hn h8 hk) rfl (hM.1 0 _ rfl) (Nat.le_of_ble_eq_true rfl) rfl rfl ?_
    refine ev_if_neN 8 14 dX12_count_5 (by decide) (by omega) rfl (fun hbr => ?_) (fun hx => absurd hx ((by omega)))
    refine ev_iload_n 15 dX12_count_14 rfl rfl ?_
    refine ev_tableIn 134 dX12_count_15 (by decide) (by decide) rfl (by decide) ?_
    refine ev_aload_n 135 dX12_count_134 rfl rfl ?_
    refine ev_aload_n 136 dX12_count_135 rfl rfl ?_
    refine ev_getP 139 mm_cl12 (j := 45) (Nat.le_of_ble_eq_true rfl) dX12_count_136 lk1330 (fun _ _ _ => rfl) (hM.1 0 _ rfl) (a := (m + 39)) (hM.2.2 38 _ _ _ rfl) rfl ?_
    refine ev_iload_n 140 dX12_count_139 rfl rfl ?_
    refine ev_iald 141 _ dX12_count_140 (hM.1 39 _ rfl) rfl (by have hNN := hM.2.1 39 _ rfl; omega) rfl ?_
    refine ev_eqI (y := (v)) ((h6 rfl)) ?_
    refine ev_invV 144 (Mc := mX12_done) ⟨lk1544, lk80, hdX12_done, (Nat.le_of_ble_eq_true rfl), (Nat.le_of_ble_eq_true rfl)⟩ lk1541 lk1543 lk39 mm_cl12 rfl dX12_count_141 (ct_X12_done hM) rfl (hM.1 0 _ rfl) (Nat.le_of_ble_eq_true rfl) rfl rfl ?_
    exact ev_iret dX12_count_144 rfl (rfl)
  · refine ct_of (lv := [some (.ref m), some (.int (nI (k))), some (.int (nI (7)))]) (by decide +kernel) (Nat.le_of_ble_eq_true rfl) rfl ?_
    refine ev_aload_n 1 dX12_count_0 rfl rfl ?_
    refine ev_iload_n 2 dX12_count_1 rfl rfl ?_
    refine ev_invV 5 (Mc := mX12_isCoder) ⟨lk1552, lk80, hdX12_isCoder, (Nat.le_of_ble_eq_true rfl), (Nat.le_of_ble_eq_true rfl)⟩ lk1549 lk1551 lk40 mm_cl12 rfl dX12_count_2 (ct_X12_isCoder_t hM hn h8 hk) rfl (hM.1 0 _ rfl) (Nat.le_of_ble_eq_true rfl) rfl rfl ?_
    refine ev_if_neN 8 14 dX12_count_5 (by decide) (by omega) rfl (fun hbr => ?_) (fun hx => absurd hx ((by omega)))
    refine ev_iload_n 15 dX12_count_14 rfl rfl ?_
    refine ev_tableIn 145 dX12_count_15 (by decide) (by decide) rfl (by decide) ?_
    refine ev_aload_n 146 dX12_count_145 rfl rfl ?_
    refine ev_aload_n 147 dX12_count_146 rfl rfl ?_
    refine ev_getP 150 mm_cl12 (j := 46) (Nat.le_of_ble_eq_true rfl) dX12_count_147 lk1331 (fun _ _ _ => rfl) (hM.1 0 _ rfl) (a := (m + 40)) (hM.2.2 39 _ _ _ rfl) rfl ?_
    refine ev_iload_n 151 dX12_count_150 rfl rfl ?_
    refine ev_iald 152 _ dX12_count_151 (hM.1 40 _ rfl) rfl (by have hNN := hM.2.1 40 _ rfl; omega) rfl ?_
    refine ev_eqI (y := (v)) ((h7 rfl)) ?_
    refine ev_invV 155 (Mc := mX12_done) ⟨lk1544, lk80, hdX12_done, (Nat.le_of_ble_eq_true rfl), (Nat.le_of_ble_eq_true rfl)⟩ lk1541 lk1543 lk39 mm_cl12 rfl dX12_count_152 (ct_X12_done hM) rfl (hM.1 0 _ rfl) (Nat.le_of_ble_eq_true rfl) rfl rfl ?_
    exact ev_iret dX12_count_155 rfl (rfl)
  · refine ct_of (lv := [some (.ref m), some (.int (nI (k))), some (.int (nI (8)))]) (by decide +kernel) (Nat.le_of_ble_eq_true rfl) rfl ?_
    refine ev_aload_n 1 dX12_count_0 rfl rfl ?_
    refine ev_iload_n 2 dX12_count_1 rfl rfl ?_
    refine ev_invV 5 (Mc := mX12_isCoder) ⟨lk1552, lk80, hdX12_isCoder, (Nat.le_of_ble_eq_true rfl), (Nat.le_of_ble_eq_true rfl)⟩ lk1549 lk1551 lk40 mm_cl12 rfl dX12_count_2 (ct_X12_isCoder_t hM hn h8 hk) rfl (hM.1 0 _ rfl) (Nat.le_of_ble_eq_true rfl) rfl rfl ?_
    refine ev_if_neN 8 14 dX12_count_5 (by decide) (by omega) rfl (fun hbr => ?_) (fun hx => absurd hx ((by omega)))
    refine ev_iload_n 15 dX12_count_14 rfl rfl ?_
    refine ev_tableIn 156 dX12_count_15 (by decide) (by decide) rfl (by decide) ?_
    refine ev_aload_n 157 dX12_count_156 rfl rfl ?_
    refine ev_aload_n 158 dX12_count_157 rfl rfl ?_
    refine ev_getP 161 mm_cl12 (j := 47) (Nat.le_of_ble_eq_true rfl) dX12_count_158 lk1332 (fun _ _ _ => rfl) (hM.1 0 _ rfl) (a := (m + 41)) (hM.2.2 40 _ _ _ rfl) rfl ?_
    refine ev_iload_n 162 dX12_count_161 rfl rfl ?_
    refine ev_iald 163 _ dX12_count_162 (hM.1 41 _ rfl) rfl (by have hNN := hM.2.1 41 _ rfl; omega) rfl ?_
    refine ev_eqI (y := (v)) ((h8' rfl)) ?_
    refine ev_invV 166 (Mc := mX12_done) ⟨lk1544, lk80, hdX12_done, (Nat.le_of_ble_eq_true rfl), (Nat.le_of_ble_eq_true rfl)⟩ lk1541 lk1543 lk39 mm_cl12 rfl dX12_count_163 (ct_X12_done hM) rfl (hM.1 0 _ rfl) (Nat.le_of_ble_eq_true rfl) rfl rfl ?_
    exact ev_iret dX12_count_166 rfl (rfl)
  · rw [← h9 rfl]
    refine ct_of (lv := [some (.ref m), some (.int (nI (k))), some (.int (nI (9)))]) (by decide +kernel) (Nat.le_of_ble_eq_true rfl) rfl ?_
    refine ev_aload_n 1 dX12_count_0 rfl rfl ?_
    refine ev_iload_n 2 dX12_count_1 rfl rfl ?_
    refine ev_invV 5 (Mc := mX12_isCoder) ⟨lk1552, lk80, hdX12_isCoder, (Nat.le_of_ble_eq_true rfl), (Nat.le_of_ble_eq_true rfl)⟩ lk1549 lk1551 lk40 mm_cl12 rfl dX12_count_2 (ct_X12_isCoder_t hM hn h8 hk) rfl (hM.1 0 _ rfl) (Nat.le_of_ble_eq_true rfl) rfl rfl ?_
    refine ev_if_neN 8 14 dX12_count_5 (by decide) (by omega) rfl (fun hbr => ?_) (fun hx => absurd hx ((by omega)))
    refine ev_iload_n 15 dX12_count_14 rfl rfl ?_
    refine ev_tableIn 167 dX12_count_15 (by decide) (by decide) rfl (by decide) ?_
    refine ev_aload_n 168 dX12_count_167 rfl rfl ?_
    refine ev_iconstN 169 0 dX12_count_168 rfl ?_
    refine ev_invV 172 (Mc := mX12_done) ⟨lk1544, lk80, hdX12_done, (Nat.le_of_ble_eq_true rfl), (Nat.le_of_ble_eq_true rfl)⟩ lk1541 lk1543 lk39 mm_cl12 rfl dX12_count_169 (ct_X12_done hM) rfl (hM.1 0 _ rfl) (Nat.le_of_ble_eq_true rfl) rfl rfl ?_
    exact ev_iret dX12_count_172 rfl (rfl)
end RG0
section RG1
variable {g : mm_G} {c p w i s : Int32}
theorem jo_pick : JO g mX11_pick mX12_pick [.int c, .int p, .int w] := by
  refine jo_rd fun K x m B I J P n R o fl φ ρ hK h => ?_
  obtain ⟨hV, hM, -⟩ := RG_ly h
  obtain ⟨h8, hx4, hm0⟩ := RG_n h
  have xm := (RC_xm h).1
  rcases cd_cases h8 c with ⟨k, hk, rfl⟩ | hc
  · obtain ⟨so, s1, s2, s3, s4⟩ := RC_s h hk
    by_cases hb : (nI 0 ≤ p ∧ p ≤ nI 3) ∧ nI 0 ≤ w ∧ w ≤ nI 6
    · rcases in_cases (lo := 0) (hi := 3) (by omega) (by omega) p with ⟨p, -, p2, rfl⟩ | hc
      · rcases in_cases (lo := 0) (hi := 6) (by omega) (by omega) w with ⟨w, -, w2, rfl⟩ | hc
        · by_cases e : so = 1
          · subst e
            obtain ⟨sr, -, -, -, e, -⟩ := s4 rfl
            exact ⟨_, _, cl_pick_t (CA_of h hk) p2 w2 s3 ((RC_v h hk).1.2.2.2.2.1 p (by omega)) (e p w (by omega) (by omega)), fun I1 h1 => ml_pick_t (MA_of h hk (h1 _ (by omega))) p2 w2 (by rw [h1 _ (by omega)]; exact s2) (by rw [h1 _ (by omega)])⟩
          · rw [if_neg e] at s3
            exact ⟨_, _, cl_pick_s (CA_of h hk) p2 w2 s3, fun I1 h1 => ml_pick_s (MA_of h hk (h1 _ (by omega))) p2 w2 (by rw [h1 _ (by omega)]; exact s2) e s1⟩
        · exact absurd hb.2 hc
      · exact absurd hb.1 hc
    · exact ⟨_, _, cl_pick_b (CA_of h hk) hb, fun I1 h1 => ml_pick_b (MA_of h hk (h1 _ (by omega))) hb⟩
  · exact ⟨_, _, cl_pick_f hV hx4 hc, fun I1 h1 => ml_pick_f hM (by rw [h1 _ (by omega)]; exact hm0) hc⟩
/-- the memory of a side -/
theorem mem_side {B : mm_B} {I : mm_TI} {J : mm_TJ} {P : mm_TP} {x m n R K k s : Nat} {o : Nat → Nat} {fl φ : Nat → Nat → Nat} {ρ : Nat → Nat} (h : RC g B I J P x m n R K o fl φ ρ) (hk : k < n) (hs : s ≤ 1) : ∃ b, x + 22 ≤ b ∧ lyK B P x b ∧ Ct g mX11_memoryOf [.ref x, .int (nI k), .int (nI s)] B (vz I x) J P (some (.ref b), B, vz I x, J, P) ∧ VCm I m b (2 * k + s) := by
  have ca := CA_of h hk
  have : s = 0 ∨ s = 1 := by omega
  rcases this with rfl | rfl
  · exact ⟨o k + 13, by have := ca.2.2.1; omega, lyK_of13 ca.2.1, ct_memoryOf_0 ca, RC_m1 h hk⟩
  · exact ⟨o k + 29, by have := ca.2.2.1; omega, lyK_of29 ca.2.1, ct_memoryOf_1 ca, RC_m2 h hk⟩
theorem sg_at {f : Nat → Int32} {a n j : Nat} (h : j < n) : sg f a n j = f (a + j) := by unfold sg; rw [if_pos h]
theorem jo_state : JO g mX11_state mX12_state [.int c, .int s, .int w, .int i] := by
  refine jo_rd fun K x m B I J P n R o fl φ ρ hK h => ?_
  obtain ⟨hV, hM, -⟩ := RG_ly h
  obtain ⟨h8, hx4, hm0⟩ := RG_n h
  have xm := (RC_xm h).1
  rcases cd_cases h8 c with ⟨k, hk, rfl⟩ | hc
  · rcases in_cases (lo := 0) (hi := 1) (by omega) (by omega) s with ⟨s, -, s2, rfl⟩ | hc
    · obtain ⟨b, b1, b2, b3, m1, -, m2, m3, L, l1, l2, l3, l4⟩ := mem_side (g := g) h hk s2
      rcases in_cases (lo := 0) (hi := 3) (by omega) (by omega) w with ⟨w, -, w2, rfl⟩ | hc
      · by_cases e3 : w = 3
        · subst e3
          by_cases e0 : i = 0
          · subst e0
            exact ⟨_, _, cl_state_l hV b2 b1 b3 l3, fun I1 h1 => ml_state_t (i := 0) (MA_of h hk (h1 _ (by omega))) s2 w2 (by omega) (by rw [if_neg (by omega), if_neg (by omega), if_neg (by omega), h1 _ (by omega)]; exact l4)⟩
          · exact ⟨_, _, cl_state_m hV b2 b3 e0, fun I1 h1 => ml_state_e (MA_of h hk (h1 _ (by omega))) s2 w2 (fun hh => e0 (by
              rw [if_neg (by omega), if_pos rfl] at hh
              exact Int32.le_antisymm hh.2 hh.1))⟩
        · rcases nn_cases (b := if w = 0 then 160 else 8) (by split <;> omega) i with ⟨j, hj, rfl⟩ | hc
          · have : w = 0 ∨ w = 1 ∨ w = 2 := by omega
            rcases this with rfl | rfl | rfl
            · rw [if_pos rfl] at hj
              exact ⟨_, _, cl_state_r (w := 0) hV b2 b1 b3 (by omega) (by rw [if_pos rfl]; exact hj) (by rw [show b + 1 + 0 = b + 1 by omega, m1, sg_at hj]), fun I1 h1 => ml_state_t (MA_of h hk (h1 _ (by omega))) s2 w2 (by rw [if_pos rfl]; omega) (by rw [if_pos rfl, h1 _ (by omega)])⟩
            · rw [if_neg (by omega)] at hj
              exact ⟨_, _, cl_state_r (w := 1) hV b2 b1 b3 (by omega) (by rw [if_neg (by omega)]; exact hj) (by rw [show b + 1 + 1 = b + 2 by omega, m2, sg_at hj]), fun I1 h1 => ml_state_t (MA_of h hk (h1 _ (by omega))) s2 w2 (by rw [if_neg (by omega), if_neg (by omega)]; omega) (by rw [if_neg (by omega), if_pos rfl, h1 _ (by omega)])⟩
            · rw [if_neg (by omega)] at hj
              exact ⟨_, _, cl_state_r (w := 2) hV b2 b1 b3 (by omega) (by rw [if_neg (by omega)]; exact hj) (by rw [show b + 1 + 2 = b + 3 by omega, m3, sg_at hj]), fun I1 h1 => ml_state_t (MA_of h hk (h1 _ (by omega))) s2 w2 (by rw [if_neg (by omega), if_neg (by omega)]; omega) (by rw [if_neg (by omega), if_neg (by omega), if_pos rfl, h1 _ (by omega)])⟩
          · refine ⟨_, _, cl_state_e hV b2 b3 (by omega) hc, fun I1 h1 => ml_state_e (MA_of h hk (h1 _ (by omega))) s2 w2 (fun hh => hc ?_)⟩
            rw [if_neg e3] at hh
            refine ⟨hh.1, ?_⟩
            have a := Int32.le_iff_toInt_le.mp hh.2
            apply Int32.lt_iff_toInt_lt.mpr
            by_cases e0 : w = 0
            · rw [if_pos e0] at a ⊢
              rw [nI_toInt (by omega)] at a ⊢; omega
            · rw [if_neg e0] at a ⊢
              rw [nI_toInt (by omega)] at a ⊢; omega
      · exact ⟨_, _, cl_state_w hV b2 b3 hc, fun I1 h1 => ml_state_w (MA_of h hk (h1 _ (by omega))) s2 hc⟩
    · exact ⟨_, _, cl_state_u hV (ct_memoryOf_b (CA_of h hk) hc), fun I1 h1 => ml_state_s (MA_of h hk (h1 _ (by omega))) hc⟩
  · exact ⟨_, _, cl_state_u hV (ct_memoryOf_f hV hx4 hc), fun I1 h1 => ml_state_f hM (by rw [h1 _ (by omega)]; exact hm0) hc⟩
theorem jo_digest : JO g mX11_digest mX12_digest [.int c, .int s] := by
  refine jo_rd fun K x m B I J P n R o fl φ ρ hK h => ?_
  obtain ⟨hV, hM, -⟩ := RG_ly h
  obtain ⟨h8, hx4, hm0⟩ := RG_n h
  have xm := (RC_xm h).1
  rcases cd_cases h8 c with ⟨k, hk, rfl⟩ | hc
  · rcases in_cases (lo := 0) (hi := 1) (by omega) (by omega) s with ⟨s, -, s2, rfl⟩ | hc
    · obtain ⟨b, b1, b2, b3, m1, -, m2, m3, L, l1, l2, l3, l4⟩ := mem_side (g := g) h hk s2
      refine ⟨_, _, cl_digest_t hV b2 b1 b3 rfl, fun I1 h1 => ml_digest_t (MA_of h hk (h1 _ (by omega))) s2 ?_⟩
      rw [h1 (m + 15) (by omega), h1 (m + 16) (by omega), h1 (m + 17) (by omega), h1 (m + 18) (by omega), m1, m2, m3, l3, l4, dgR_cg (f := sg (I (m + 15)) _ 160) 160 0 _ (fun j _ j2 => sg_at (by omega)), dgR_cg (f := sg (I (m + 16)) _ 8) 8 0 _ (fun j _ j2 => sg_at (by omega)), dgR_cg (f := sg (I (m + 17)) _ 8) 8 0 _ (fun j _ j2 => sg_at (by omega))]
    · exact ⟨_, _, cl_digest_u hV (ct_memoryOf_b (CA_of h hk) hc), fun I1 h1 => ml_digest_s (MA_of h hk (h1 _ (by omega))) hc⟩
  · exact ⟨_, _, cl_digest_u hV (ct_memoryOf_f hV hx4 hc), fun I1 h1 => ml_digest_f hM (by rw [h1 _ (by omega)]; exact hm0) hc⟩
theorem jo_count : JO g mX11_count mX12_count [.int c, .int w] := by
  refine jo_rd fun K x m B I J P n R o fl φ ρ hK h => ?_
  obtain ⟨hV, hM, -⟩ := RG_ly h
  obtain ⟨h8, hx4, hm0⟩ := RG_n h
  have xm := (RC_xm h).1
  rcases cd_cases h8 c with ⟨k, hk, rfl⟩ | hc
  · rcases in_cases (lo := 0) (hi := 9) (by omega) (by omega) w with ⟨w, -, w2, rfl⟩ | hc
    · obtain ⟨ww, -, w3, w4, -⟩ := RC_w h hk
      obtain ⟨L, -, l3, l4, -⟩ := RC_l h hk
      obtain ⟨-, -, -, ⟨nx, -, n3, n4⟩, -, -, -, ⟨de, -, d3, d4, -⟩, -, e6, e7, e8⟩ := RC_d h hk
      obtain ⟨-, -, -, -, -, -, ⟨nu, -, u3, u4⟩, e4, -⟩ := RC_e h hk
      refine ⟨(if w = 0 then nI ww else if w = 1 then nI L else if w = 2 then nI nx else if w = 3 then nI nu else if w = 4 then I (m + 14) k else if w = 5 then nI de else if w = 6 then I (m + 39) k else if w = 7 then I (m + 40) k else if w = 8 then I (m + 41) k else nI 0), _, cl_count_t (CA_of h hk) (RG_z h) w2 ?_ ?_ ?_ ?_ ?_ ?_ ?_ ?_ ?_ ?_, fun I1 h1 => ml_count_t (MA_of h hk (h1 _ (by omega))) w2 ?_ ?_ ?_ ?_ ?_ ?_ ?_ ?_ ?_ ?_⟩ <;> rintro rfl <;> first | exact w3 | exact l3 | exact n3 | exact u3 | exact e4 | exact d3 | exact e6 | exact e7 | exact e8 | rfl | (rw [h1 _ (by omega)]; first | exact w4 | exact l4 | exact n4 | exact u4 | exact d4 | rfl)
    · exact ⟨_, _, cl_count_b (CA_of h hk) hc, fun I1 h1 => ml_count_b (MA_of h hk (h1 _ (by omega))) hc⟩
  · exact ⟨_, _, cl_count_f hV hx4 hc, fun I1 h1 => ml_count_f hM (by rw [h1 _ (by omega)]; exact hm0) hc⟩
end RG1
