/-! FRAMES: readers -/
theorem s16_id {v : Int32} (h1 : -32768 ≤ v.toInt) (h2 : v.toInt ≤ 32767) : v.toInt16.toInt32 = v := by
  apply Int32.toInt_inj.mp
  rw [Int16.toInt_toInt32, Int32.toInt_toInt16]
  exact Int.bmod_eq_of_le (by omega) (by omega)
/-- what a frame holds: s places -/
def FV (B : mm_B) (P : mm_TP) (f s : Nat) : Prop := (P f 1 = none ∧ P f 2 = none ∧ s = 0) ∨ (∃ a, P f 1 = some a ∧ mm_T B a = 201 ∧ mm_N B a = s) ∨ (∃ a, P f 1 = none ∧ P f 2 = some a ∧ mm_T B a = 202 ∧ mm_N B a = s)
section FR0
variable {g : mm_G} {B : mm_B} {I : mm_TI} {J : mm_TJ} {P : mm_TP} {x m o n k f : Nat}
theorem ct_hasRow_0 (tf : mm_T B f = 104) (h1 : P f 1 = none) (h2 : P f 2 = none) : Ct g mX4_hasRow [.ref f] B I J P (some (.int (nI 0)), B, I, J, P) := by
  refine ct_of (lv := [some (.ref f)]) (by decide +kernel) (Nat.le_of_ble_eq_true rfl) rfl ?_
  refine ev_aload_n 1 dX4_hasRow_0 rfl rfl ?_
  refine ev_getN 4 mm_cl4 (j := 1) (Nat.le_of_ble_eq_true rfl) dX4_hasRow_1 lk863 (fun _ _ _ => rfl) tf (h1) rfl ?_
  refine ev_ifnonnull_n 7 dX4_hasRow_4 rfl ?_
  refine ev_aload_n 8 dX4_hasRow_7 rfl rfl ?_
  refine ev_getN 11 mm_cl4 (j := 2) (Nat.le_of_ble_eq_true rfl) dX4_hasRow_8 lk865 (fun _ _ _ => rfl) tf (h2) rfl ?_
  refine ev_ifnull_n 18 dX4_hasRow_11 (by decide) ?_
  refine ev_iconstN 19 0 dX4_hasRow_18 rfl ?_
  exact ev_zret dX4_hasRow_19 rfl (by first | rfl | assumption) (rfl)
theorem ct_hasRow_1 {a : Nat} (tf : mm_T B f = 104) (h1 : P f 1 = some a) (ta : mm_T B a = 201) : Ct g mX4_hasRow [.ref f] B I J P (some (.int (nI 1)), B, I, J, P) := by
  refine ct_of (lv := [some (.ref f)]) (by decide +kernel) (Nat.le_of_ble_eq_true rfl) rfl ?_
  refine ev_aload_n 1 dX4_hasRow_0 rfl rfl ?_
  refine ev_getP 4 mm_cl4 (j := 1) (Nat.le_of_ble_eq_true rfl) dX4_hasRow_1 lk863 (fun _ _ _ => rfl) tf (a := a) (h1) rfl ?_
  refine ev_ifnonnull_r 14 dX4_hasRow_4 (by decide) ?_
  refine ev_iconstN 15 1 dX4_hasRow_14 rfl ?_
  refine ev_goto 19 dX4_hasRow_15 (by decide) ?_
  exact ev_zret dX4_hasRow_19 rfl (by first | rfl | assumption) (rfl)
theorem ct_hasRow_2 {a : Nat} (tf : mm_T B f = 104) (h1 : P f 1 = none) (h2 : P f 2 = some a) (ta : mm_T B a = 202) : Ct g mX4_hasRow [.ref f] B I J P (some (.int (nI 1)), B, I, J, P) := by
  refine ct_of (lv := [some (.ref f)]) (by decide +kernel) (Nat.le_of_ble_eq_true rfl) rfl ?_
  refine ev_aload_n 1 dX4_hasRow_0 rfl rfl ?_
  refine ev_getN 4 mm_cl4 (j := 1) (Nat.le_of_ble_eq_true rfl) dX4_hasRow_1 lk863 (fun _ _ _ => rfl) tf (h1) rfl ?_
  refine ev_ifnonnull_n 7 dX4_hasRow_4 rfl ?_
  refine ev_aload_n 8 dX4_hasRow_7 rfl rfl ?_
  refine ev_getP 11 mm_cl4 (j := 2) (Nat.le_of_ble_eq_true rfl) dX4_hasRow_8 lk865 (fun _ _ _ => rfl) tf (a := a) (h2) rfl ?_
  refine ev_ifnull_r 14 dX4_hasRow_11 rfl ?_
  refine ev_iconstN 15 1 dX4_hasRow_14 rfl ?_
  refine ev_goto 19 dX4_hasRow_15 (by decide) ?_
  exact ev_zret dX4_hasRow_19 rfl (by first | rfl | assumption) (rfl)
theorem ct_size {s : Nat} (tf : mm_T B f = 104) (h : FV B P f s) : Ct g mX4_size [.ref f] B I J P (some (.int (nI s)), B, I, J, P) := by
  rcases h with ⟨h1, h2, rfl⟩ | ⟨a, h1, ta, rfl⟩ | ⟨a, h1, h2, ta, rfl⟩
  · refine ct_of (lv := [some (.ref f)]) (by decide +kernel) (Nat.le_of_ble_eq_true rfl) rfl ?_
    refine ev_aload_n 1 dX4_size_0 rfl rfl ?_
    refine ev_getN 4 mm_cl4 (j := 1) (Nat.le_of_ble_eq_true rfl) dX4_size_1 lk863 (fun _ _ _ => rfl) tf (h1) rfl ?_
    refine ev_ifnull_n 13 dX4_size_4 (by decide) ?_
    refine ev_aload_n 14 dX4_size_13 rfl rfl ?_
    refine ev_getN 17 mm_cl4 (j := 2) (Nat.le_of_ble_eq_true rfl) dX4_size_14 lk865 (fun _ _ _ => rfl) tf (h2) rfl ?_
    refine ev_ifnull_n 28 dX4_size_17 (by decide) ?_
    refine ev_iconstN 29 0 dX4_size_28 rfl ?_
    exact ev_iret dX4_size_29 rfl (rfl)
  · refine ct_of (lv := [some (.ref f)]) (by decide +kernel) (Nat.le_of_ble_eq_true rfl) rfl ?_
    refine ev_aload_n 1 dX4_size_0 rfl rfl ?_
    refine ev_getP 4 mm_cl4 (j := 1) (Nat.le_of_ble_eq_true rfl) dX4_size_1 lk863 (fun _ _ _ => rfl) tf (a := a) (h1) rfl ?_
    refine ev_ifnull_r 7 dX4_size_4 rfl ?_
    refine ev_aload_n 8 dX4_size_7 rfl rfl ?_
    refine ev_getP 11 mm_cl4 (j := 1) (Nat.le_of_ble_eq_true rfl) dX4_size_8 lk863 (fun _ _ _ => rfl) tf (a := a) (h1) rfl ?_
    refine ev_alen 12 1 dX4_size_11 ta rfl ?_
    exact ev_iret dX4_size_12 rfl (rfl)
  · refine ct_of (lv := [some (.ref f)]) (by decide +kernel) (Nat.le_of_ble_eq_true rfl) rfl ?_
    refine ev_aload_n 1 dX4_size_0 rfl rfl ?_
    refine ev_getN 4 mm_cl4 (j := 1) (Nat.le_of_ble_eq_true rfl) dX4_size_1 lk863 (fun _ _ _ => rfl) tf (h1) rfl ?_
    refine ev_ifnull_n 13 dX4_size_4 (by decide) ?_
    refine ev_aload_n 14 dX4_size_13 rfl rfl ?_
    refine ev_getP 17 mm_cl4 (j := 2) (Nat.le_of_ble_eq_true rfl) dX4_size_14 lk865 (fun _ _ _ => rfl) tf (a := a) (h2) rfl ?_
    refine ev_ifnull_r 20 dX4_size_17 rfl ?_
    refine ev_aload_n 21 dX4_size_20 rfl rfl ?_
    refine ev_getP 24 mm_cl4 (j := 2) (Nat.le_of_ble_eq_true rfl) dX4_size_21 lk865 (fun _ _ _ => rfl) tf (a := a) (h2) rfl ?_
    refine ev_alen 25 2 dX4_size_24 ta rfl ?_
    refine ev_goto 29 dX4_size_25 (by decide) ?_
    exact ev_iret dX4_size_29 rfl (rfl)
theorem ct_has_t {s i : Nat} (tf : mm_T B f = 104) (h : FV B P f s) (hs : s < 2 ^ 31) (hi : i < s) : Ct g mX4_has [.ref f, .int (nI i)] B I J P (some (.int (nI 1)), B, I, J, P) := by
  refine ct_of (lv := [some (.ref f), some (.int (nI (i)))]) (by decide +kernel) (Nat.le_of_ble_eq_true rfl) rfl ?_
  refine ev_iload_n 1 dX4_has_0 rfl rfl ?_
  refine ev_if_ltN 4 16 dX4_has_1 (by decide) (by omega) rfl (fun hx => absurd hx ((not_false))) (fun hbr => ?_)
  refine ev_iload_n 5 dX4_has_4 rfl rfl ?_
  refine ev_aload_n 6 dX4_has_5 rfl rfl ?_
  refine ev_invV 9 (Mc := mX4_size) ⟨lk931, lk89, hdX4_size, (Nat.le_of_ble_eq_true rfl), (Nat.le_of_ble_eq_true rfl)⟩ lk940 lk929 lk930 mm_cl4 rfl dX4_has_6 (ct_size tf h) rfl tf (Nat.le_of_ble_eq_true rfl) rfl rfl ?_
  refine ev_icmp_geN 12 16 dX4_has_9 (by decide) (by omega) (by omega) rfl (fun hx => absurd hx ((by omega))) (fun hbr => ?_)
  refine ev_iconstN 13 1 dX4_has_12 rfl ?_
  refine ev_goto 17 dX4_has_13 (by decide) ?_
  exact ev_zret dX4_has_17 rfl (by first | rfl | assumption) (rfl)
theorem ct_has_f {s : Nat} {i : Int32} (tf : mm_T B f = 104) (h : FV B P f s) (hi : ¬ (0 ≤ i ∧ i < nI s)) : Ct g mX4_has [.ref f, .int i] B I J P (some (.int (nI 0)), B, I, J, P) := by
  refine ct_of (lv := [some (.ref f), some (.int (i))]) (by decide +kernel) (Nat.le_of_ble_eq_true rfl) rfl ?_
  refine ev_iload_n 1 dX4_has_0 rfl rfl ?_
  refine ev_if_lt 4 16 dX4_has_1 (by decide) rfl (fun h1 => ?_) (fun h1 => ?_)
  · refine ev_iconstN 17 0 dX4_has_16 rfl ?_
    exact ev_zret dX4_has_17 rfl (by first | rfl | assumption) (rfl)
  · refine ev_iload_n 5 dX4_has_4 rfl rfl ?_
    refine ev_aload_n 6 dX4_has_5 rfl rfl ?_
    refine ev_invV 9 (Mc := mX4_size) ⟨lk931, lk89, hdX4_size, (Nat.le_of_ble_eq_true rfl), (Nat.le_of_ble_eq_true rfl)⟩ lk940 lk929 lk930 mm_cl4 rfl dX4_has_6 (ct_size tf h) rfl tf (Nat.le_of_ble_eq_true rfl) rfl rfl ?_
    refine ev_icmp_ge 12 16 dX4_has_9 (by decide) rfl (fun hbr => ?_) (fun hx => absurd ((Int32.not_lt.mp (fun h2 => hi ⟨Int32.not_lt.mp h1, h2⟩))) hx)
    refine ev_iconstN 17 0 dX4_has_16 rfl ?_
    exact ev_zret dX4_has_17 rfl (by first | rfl | assumption) (rfl)
theorem ct_read_1 {a s i : Nat} {v : Int32} (tf : mm_T B f = 104) (h1 : P f 1 = some a) (ta : mm_T B a = 201) (hN : mm_N B a = s) (hs : s < 2 ^ 31) (hi : i < s) (hv : I a i = v) (r1 : -32768 ≤ v.toInt) (r2 : v.toInt ≤ 32767) : Ct g mX4_read [.ref f, .int (nI i)] B I J P (some (.int (v &&& nI 255)), B, I, J, P) := by
  refine ct_of (lv := [some (.ref f), some (.int (nI (i)))]) (by decide +kernel) (Nat.le_of_ble_eq_true rfl) rfl ?_
  refine ev_aload_n 1 dX4_read_0 rfl rfl ?_
  refine ev_iload_n 2 dX4_read_1 rfl rfl ?_
  refine ev_invV 5 (Mc := mX4_has) ⟨lk939, lk89, hdX4_has, (Nat.le_of_ble_eq_true rfl), (Nat.le_of_ble_eq_true rfl)⟩ lk945 lk937 lk938 mm_cl4 rfl dX4_read_2 (ct_has_t tf (Or.inr (Or.inl ⟨a, h1, ta, hN⟩)) hs hi) rfl tf (Nat.le_of_ble_eq_true rfl) rfl rfl ?_
  refine ev_if_neN 8 10 dX4_read_5 (by decide) (by omega) rfl (fun hbr => ?_) (fun hx => absurd hx ((by omega)))
  refine ev_aload_n 11 dX4_read_10 rfl rfl ?_
  refine ev_getP 14 mm_cl4 (j := 1) (Nat.le_of_ble_eq_true rfl) dX4_read_11 lk863 (fun _ _ _ => rfl) tf (a := a) (h1) rfl ?_
  refine ev_ifnull_r 17 dX4_read_14 rfl ?_
  refine ev_aload_n 18 dX4_read_17 rfl rfl ?_
  refine ev_getP 21 mm_cl4 (j := 1) (Nat.le_of_ble_eq_true rfl) dX4_read_18 lk863 (fun _ _ _ => rfl) tf (a := a) (h1) rfl ?_
  refine ev_iload_n 22 dX4_read_21 rfl rfl ?_
  refine ev_bald 23 _ dX4_read_22 ta rfl (by omega) rfl ?_
  refine ev_eqI (y := (v)) (hv) ?_
  refine ev_i2s 24 dX4_read_23 rfl ?_
  refine ev_eqI (y := (v)) ((s16_id r1 r2)) ?_
  refine ev_goto 33 dX4_read_24 (by decide) ?_
  refine ev_sipushN 36 255 dX4_read_33 (by decide +kernel) rfl ?_
  refine ev_iand 37 dX4_read_36 rfl ?_
  exact ev_iret dX4_read_37 rfl (rfl)
theorem ct_read_2 {a s i : Nat} {v : Int32} (tf : mm_T B f = 104) (h1 : P f 1 = none) (h2 : P f 2 = some a) (ta : mm_T B a = 202) (hN : mm_N B a = s) (hs : s < 2 ^ 31) (hi : i < s) (hv : I a i = v) : Ct g mX4_read [.ref f, .int (nI i)] B I J P (some (.int (v &&& nI 255)), B, I, J, P) := by
  refine ct_of (lv := [some (.ref f), some (.int (nI (i)))]) (by decide +kernel) (Nat.le_of_ble_eq_true rfl) rfl ?_
  refine ev_aload_n 1 dX4_read_0 rfl rfl ?_
  refine ev_iload_n 2 dX4_read_1 rfl rfl ?_
  refine ev_invV 5 (Mc := mX4_has) ⟨lk939, lk89, hdX4_has, (Nat.le_of_ble_eq_true rfl), (Nat.le_of_ble_eq_true rfl)⟩ lk945 lk937 lk938 mm_cl4 rfl dX4_read_2 (ct_has_t tf (Or.inr (Or.inr ⟨a, h1, h2, ta, hN⟩)) hs hi) rfl tf (Nat.le_of_ble_eq_true rfl) rfl rfl ?_
  refine ev_if_neN 8 10 dX4_read_5 (by decide) (by omega) rfl (fun hbr => ?_) (fun hx => absurd hx ((by omega)))
  refine ev_aload_n 11 dX4_read_10 rfl rfl ?_
  refine ev_getN 14 mm_cl4 (j := 1) (Nat.le_of_ble_eq_true rfl) dX4_read_11 lk863 (fun _ _ _ => rfl) tf (h1) rfl ?_
  refine ev_ifnull_n 27 dX4_read_14 (by decide) ?_
  refine ev_aload_n 28 dX4_read_27 rfl rfl ?_
  refine ev_getP 31 mm_cl4 (j := 2) (Nat.le_of_ble_eq_true rfl) dX4_read_28 lk865 (fun _ _ _ => rfl) tf (a := a) (h2) rfl ?_
  refine ev_iload_n 32 dX4_read_31 rfl rfl ?_
  refine ev_sald 33 _ dX4_read_32 ta rfl (by omega) rfl ?_
  refine ev_eqI (y := (v)) (hv) ?_
  refine ev_sipushN 36 255 dX4_read_33 (by decide +kernel) rfl ?_
  refine ev_iand 37 dX4_read_36 rfl ?_
  exact ev_iret dX4_read_37 rfl (rfl)
theorem cl_length_f {c i : Int32} (hV : lyV B P x) (hf : Ct g mX11_frameAt [.ref x, .int c, .int i] B (vz I x) J P (some .null, B, vz I x, J, P)) : Ct g mX11_length [.ref x, .int c, .int i] B I J P (some (.int (-1)), B, vst I x (-1), J, P) := by
  refine ct_of (lv := [some (.ref x), some (.int (c)), some (.int (i)), none]) (by decide +kernel) (Nat.le_of_ble_eq_true rfl) rfl ?_
  refine ev_aload_n 1 dX11_length_0 rfl rfl ?_
  refine ev_iconstN 2 0 dX11_length_1 rfl ?_
  refine ev_putI 5 mm_cl11 (j := 9) (Nat.le_of_ble_eq_true rfl) dX11_length_2 lk270 rfl (fun _ _ _ => rfl) rfl rfl (hV.1 0 _ rfl) rfl ?_
  refine ev_aload_n 6 dX11_length_5 rfl rfl ?_
  refine ev_iload_n 7 dX11_length_6 rfl rfl ?_
  refine ev_iload_n 8 dX11_length_7 rfl rfl ?_
  refine ev_invV 11 (Mc := mX11_frameAt) ⟨lk923, lk75, hdX11_frameAt, (Nat.le_of_ble_eq_true rfl), (Nat.le_of_ble_eq_true rfl)⟩ lk920 lk922 lk23 mm_cl11 rfl dX11_length_8 (hf) rfl (hV.1 0 _ rfl) (Nat.le_of_ble_eq_true rfl) rfl rfl ?_
  refine ev_astore_nN 12 (lv' := [_, _, some (.int _), _]) dX11_length_11 (Nat.le_of_ble_eq_true rfl) rfl rfl ?_
  refine ev_aload_nN 13 dX11_length_12 rfl rfl ?_
  refine ev_ifnonnull_n 16 dX11_length_13 rfl ?_
  refine ev_aload_n 17 dX11_length_16 rfl rfl ?_
  refine ev_iconst 18 (v := -1) dX11_length_17 (by decide +kernel) rfl ?_
  refine ev_invV 21 (Mc := mX11_refuse) ⟨lk303, lk75, hdX11_refuse, (Nat.le_of_ble_eq_true rfl), (Nat.le_of_ble_eq_true rfl)⟩ lk300 lk302 lk0 mm_cl11 rfl dX11_length_18 (ct_refuse hV) rfl (hV.1 0 _ rfl) (Nat.le_of_ble_eq_true rfl) rfl rfl ?_
  exact ev_iret dX11_length_21 rfl (rfl)
theorem cl_length_0 {c i : Int32} (hV : lyV B P x) (tf : mm_T B f = 104) (h1 : P f 1 = none) (h2 : P f 2 = none) (hf : Ct g mX11_frameAt [.ref x, .int c, .int i] B (vz I x) J P (some (.ref f), B, vz I x, J, P)) : Ct g mX11_length [.ref x, .int c, .int i] B I J P (some (.int (-4)), B, vst I x (-4), J, P) := by
  refine ct_of (lv := [some (.ref x), some (.int (c)), some (.int (i)), none]) (by decide +kernel) (Nat.le_of_ble_eq_true rfl) rfl ?_
  refine ev_aload_n 1 dX11_length_0 rfl rfl ?_
  refine ev_iconstN 2 0 dX11_length_1 rfl ?_
  refine ev_putI 5 mm_cl11 (j := 9) (Nat.le_of_ble_eq_true rfl) dX11_length_2 lk270 rfl (fun _ _ _ => rfl) rfl rfl (hV.1 0 _ rfl) rfl ?_
  refine ev_aload_n 6 dX11_length_5 rfl rfl ?_
  refine ev_iload_n 7 dX11_length_6 rfl rfl ?_
  refine ev_iload_n 8 dX11_length_7 rfl rfl ?_
  refine ev_invV 11 (Mc := mX11_frameAt) ⟨lk923, lk75, hdX11_frameAt, (Nat.le_of_ble_eq_true rfl), (Nat.le_of_ble_eq_true rfl)⟩ lk920 lk922 lk23 mm_cl11 rfl dX11_length_8 (hf) rfl (hV.1 0 _ rfl) (Nat.le_of_ble_eq_true rfl) rfl rfl ?_
  refine ev_astore_n 12 (lv' := [_, _, some (.int _), _]) dX11_length_11 (Nat.le_of_ble_eq_true rfl) rfl rfl ?_
  refine ev_aload_n 13 dX11_length_12 rfl rfl ?_
  refine ev_ifnonnull_r 22 dX11_length_13 (by decide) ?_
  refine ev_aload_n 23 dX11_length_22 rfl rfl ?_
  refine ev_invV 26 (Mc := mX4_hasRow) ⟨lk927, lk89, hdX4_hasRow, (Nat.le_of_ble_eq_true rfl), (Nat.le_of_ble_eq_true rfl)⟩ lk924 lk925 lk926 mm_cl4 rfl dX11_length_23 (ct_hasRow_0 tf h1 h2) rfl tf (Nat.le_of_ble_eq_true rfl) rfl rfl ?_
  refine ev_if_eqN 29 36 dX11_length_26 (by decide) (by omega) rfl (fun hbr => ?_) (fun hx => absurd ((by omega)) hx)
  refine ev_aload_n 37 dX11_length_36 rfl rfl ?_
  refine ev_bipush 39 (v := -4) dX11_length_37 (by decide +kernel) rfl ?_
  refine ev_invV 42 (Mc := mX11_refuse) ⟨lk303, lk75, hdX11_refuse, (Nat.le_of_ble_eq_true rfl), (Nat.le_of_ble_eq_true rfl)⟩ lk300 lk302 lk0 mm_cl11 rfl dX11_length_39 (ct_refuse hV) rfl (hV.1 0 _ rfl) (Nat.le_of_ble_eq_true rfl) rfl rfl ?_
  exact ev_iret dX11_length_42 rfl (rfl)
theorem cl_length_t {c i : Int32} {s : Nat} (hV : lyV B P x) (tf : mm_T B f = 104) (hh : ∀ I : mm_TI, Ct g mX4_hasRow [.ref f] B I J P (some (.int (nI 1)), B, I, J, P)) (h : FV B P f s) (hf : Ct g mX11_frameAt [.ref x, .int c, .int i] B (vz I x) J P (some (.ref f), B, vz I x, J, P)) : Ct g mX11_length [.ref x, .int c, .int i] B I J P (some (.int (nI s)), B, vst I x (nI 0), J, P) := by
  refine ct_of (lv := [some (.ref x), some (.int (c)), some (.int (i)), none]) (by decide +kernel) (Nat.le_of_ble_eq_true rfl) rfl ?_
  refine ev_aload_n 1 dX11_length_0 rfl rfl ?_
  refine ev_iconstN 2 0 dX11_length_1 rfl ?_
  refine ev_putI 5 mm_cl11 (j := 9) (Nat.le_of_ble_eq_true rfl) dX11_length_2 lk270 rfl (fun _ _ _ => rfl) rfl rfl (hV.1 0 _ rfl) rfl ?_
  refine ev_aload_n 6 dX11_length_5 rfl rfl ?_
  refine ev_iload_n 7 dX11_length_6 rfl rfl ?_
  refine ev_iload_n 8 dX11_length_7 rfl rfl ?_
  refine ev_invV 11 (Mc := mX11_frameAt) ⟨lk923, lk75, hdX11_frameAt, (Nat.le_of_ble_eq_true rfl), (Nat.le_of_ble_eq_true rfl)⟩ lk920 lk922 lk23 mm_cl11 rfl dX11_length_8 (hf) rfl (hV.1 0 _ rfl) (Nat.le_of_ble_eq_true rfl) rfl rfl ?_
  refine ev_astore_n 12 (lv' := [_, _, some (.int _), _]) dX11_length_11 (Nat.le_of_ble_eq_true rfl) rfl rfl ?_
  refine ev_aload_n 13 dX11_length_12 rfl rfl ?_
  refine ev_ifnonnull_r 22 dX11_length_13 (by decide) ?_
  refine ev_aload_n 23 dX11_length_22 rfl rfl ?_
  refine ev_invV 26 (Mc := mX4_hasRow) ⟨lk927, lk89, hdX4_hasRow, (Nat.le_of_ble_eq_true rfl), (Nat.le_of_ble_eq_true rfl)⟩ lk924 lk925 lk926 mm_cl4 rfl dX11_length_23 (hh _) rfl tf (Nat.le_of_ble_eq_true rfl) rfl rfl ?_
  refine ev_if_eqN 29 36 dX11_length_26 (by decide) (by omega) rfl (fun hx => absurd hx ((by omega))) (fun hbr => ?_)
  refine ev_aload_n 30 dX11_length_29 rfl rfl ?_
  refine ev_invV 33 (Mc := mX4_size) ⟨lk931, lk89, hdX4_size, (Nat.le_of_ble_eq_true rfl), (Nat.le_of_ble_eq_true rfl)⟩ lk928 lk929 lk930 mm_cl4 rfl dX11_length_30 (ct_size tf h) rfl tf (Nat.le_of_ble_eq_true rfl) rfl rfl ?_
  refine ev_goto 42 dX11_length_33 (by decide) ?_
  exact ev_iret dX11_length_42 rfl (rfl)
theorem ml_length_f {c i : Int32} (hM : lyM B P m) (hf : Ct g mX12_isFrame [.ref m, .int c, .int i] B I J P (some (.int (nI 0)), B, I, J, P)) : Ct g mX12_length [.ref m, .int c, .int i] B I J P (some (.int (-1)), B, mo_st I m (-1), J, P) := by
  refine ct_of (lv := [some (.ref m), some (.int (c)), some (.int (i)), none]) (by decide +kernel) (Nat.le_of_ble_eq_true rfl) rfl ?_
  refine ev_aload_n 1 dX12_length_0 rfl rfl ?_
  refine ev_iload_n 2 dX12_length_1 rfl rfl ?_
  refine ev_iload_n 3 dX12_length_2 rfl rfl ?_
  refine ev_invV 6 (Mc := mX12_isFrame) ⟨lk1728, lk80, hdX12_isFrame, (Nat.le_of_ble_eq_true rfl), (Nat.le_of_ble_eq_true rfl)⟩ lk1725 lk1727 lk62 mm_cl12 rfl dX12_length_3 (hf) rfl (hM.1 0 _ rfl) (Nat.le_of_ble_eq_true rfl) rfl rfl ?_
  refine ev_if_neN 9 15 dX12_length_6 (by decide) (by omega) rfl (fun hx => absurd ((by omega)) hx) (fun hbr => ?_)
  refine ev_aload_n 10 dX12_length_9 rfl rfl ?_
  refine ev_iconst 11 (v := -1) dX12_length_10 (by decide +kernel) rfl ?_
  refine ev_invV 14 (Mc := mX12_refused) ⟨lk1540, lk80, hdX12_refused, (Nat.le_of_ble_eq_true rfl), (Nat.le_of_ble_eq_true rfl)⟩ lk1537 lk1539 lk38 mm_cl12 rfl dX12_length_11 (ct_X12_refused hM) rfl (hM.1 0 _ rfl) (Nat.le_of_ble_eq_true rfl) rfl rfl ?_
  exact ev_iret dX12_length_14 rfl (rfl)
theorem ml_length_0 {i : Nat} (hk : k < 8) (hi : i < 250) (hM : lyM B P m) (hf : Ct g mX12_isFrame [.ref m, .int (nI k), .int (nI i)] B I J P (some (.int (nI 1)), B, I, J, P)) (hr : I (m + 30) (250 * k + i) = nI 0) : Ct g mX12_length [.ref m, .int (nI k), .int (nI i)] B I J P (some (.int (-4)), B, mo_st I m (-4), J, P) := by
  refine ct_of (lv := [some (.ref m), some (.int (nI (k))), some (.int (nI (i))), none]) (by decide +kernel) (Nat.le_of_ble_eq_true rfl) rfl ?_
  refine ev_aload_n 1 dX12_length_0 rfl rfl ?_
  refine ev_iload_n 2 dX12_length_1 rfl rfl ?_
  refine ev_iload_n 3 dX12_length_2 rfl rfl ?_
  refine ev_invV 6 (Mc := mX12_isFrame) ⟨lk1728, lk80, hdX12_isFrame, (Nat.le_of_ble_eq_true rfl), (Nat.le_of_ble_eq_true rfl)⟩ lk1725 lk1727 lk62 mm_cl12 rfl dX12_length_3 (hf) rfl (hM.1 0 _ rfl) (Nat.le_of_ble_eq_true rfl) rfl rfl ?_
  refine ev_if_neN 9 15 dX12_length_6 (by decide) (by omega) rfl (fun hbr => ?_) (fun hx => absurd hx ((by omega)))
  refine ev_aload_n 16 dX12_length_15 rfl rfl ?_
  refine ev_getP 19 mm_cl12 (j := 35) (Nat.le_of_ble_eq_true rfl) dX12_length_16 lk1320 (fun _ _ _ => rfl) (hM.1 0 _ rfl) (a := (m + 30)) (hM.2.2 29 _ _ _ rfl) rfl ?_
  refine ev_sipushN 22 250 dX12_length_19 (by decide +kernel) rfl ?_
  refine ev_iload_n 23 dX12_length_22 rfl rfl ?_
  refine ev_imulN 24 dX12_length_23 rfl ?_
  refine ev_iload_n 25 dX12_length_24 rfl rfl ?_
  refine ev_iaddN 26 dX12_length_25 rfl ?_
  refine ev_iald 27 _ dX12_length_26 (hM.1 30 _ rfl) rfl (by have hNN := hM.2.1 30 _ rfl; omega) rfl ?_
  refine ev_iconstN 28 1 dX12_length_27 rfl ?_
  refine ev_isub 29 dX12_length_28 rfl ?_
  refine ev_eqI (y := ((nI 0 - nI 1))) ((by rw [hr])) ?_
  refine ev_istore_n 30 (lv' := [_, _, some (.int _), _]) dX12_length_29 (Nat.le_of_ble_eq_true rfl) rfl rfl ?_
  refine ev_iload_n 31 dX12_length_30 rfl rfl ?_
  refine ev_if_ge 34 43 dX12_length_31 (by decide) rfl (fun hx => absurd hx ((by decide))) (fun hbr => ?_)
  refine ev_aload_n 35 dX12_length_34 rfl rfl ?_
  refine ev_bipush 37 (v := -4) dX12_length_35 (by decide +kernel) rfl ?_
  refine ev_invV 40 (Mc := mX12_refused) ⟨lk1540, lk80, hdX12_refused, (Nat.le_of_ble_eq_true rfl), (Nat.le_of_ble_eq_true rfl)⟩ lk1537 lk1539 lk38 mm_cl12 rfl dX12_length_37 (ct_X12_refused hM) rfl (hM.1 0 _ rfl) (Nat.le_of_ble_eq_true rfl) rfl rfl ?_
  refine ev_goto 53 dX12_length_40 (by decide) ?_
  exact ev_iret dX12_length_53 rfl (rfl)
theorem ml_length_t {i r : Nat} {v : Int32} (hk : k < 8) (hi : i < 250) (hR : r < 4300) (hM : lyM B P m) (hf : Ct g mX12_isFrame [.ref m, .int (nI k), .int (nI i)] B I J P (some (.int (nI 1)), B, I, J, P)) (hr : I (m + 30) (250 * k + i) = nI (r + 1)) (hv : I (m + 31) r = v) : Ct g mX12_length [.ref m, .int (nI k), .int (nI i)] B I J P (some (.int v), B, mo_st I m (nI 0), J, P) := by
  refine ct_of (lv := [some (.ref m), some (.int (nI (k))), some (.int (nI (i))), none]) (by decide +kernel) (Nat.le_of_ble_eq_true rfl) rfl ?_
  refine ev_aload_n 1 dX12_length_0 rfl rfl ?_
  refine ev_iload_n 2 dX12_length_1 rfl rfl ?_
  refine ev_iload_n 3 dX12_length_2 rfl rfl ?_
  refine ev_invV 6 (Mc := mX12_isFrame) ⟨lk1728, lk80, hdX12_isFrame, (Nat.le_of_ble_eq_true rfl), (Nat.le_of_ble_eq_true rfl)⟩ lk1725 lk1727 lk62 mm_cl12 rfl dX12_length_3 (hf) rfl (hM.1 0 _ rfl) (Nat.le_of_ble_eq_true rfl) rfl rfl ?_
  refine ev_if_neN 9 15 dX12_length_6 (by decide) (by omega) rfl (fun hbr => ?_) (fun hx => absurd hx ((by omega)))
  refine ev_aload_n 16 dX12_length_15 rfl rfl ?_
  refine ev_getP 19 mm_cl12 (j := 35) (Nat.le_of_ble_eq_true rfl) dX12_length_16 lk1320 (fun _ _ _ => rfl) (hM.1 0 _ rfl) (a := (m + 30)) (hM.2.2 29 _ _ _ rfl) rfl ?_
  refine ev_sipushN 22 250 dX12_length_19 (by decide +kernel) rfl ?_
  refine ev_iload_n 23 dX12_length_22 rfl rfl ?_
  refine ev_imulN 24 dX12_length_23 rfl ?_
  refine ev_iload_n 25 dX12_length_24 rfl rfl ?_
  refine ev_iaddN 26 dX12_length_25 rfl ?_
  refine ev_iald 27 _ dX12_length_26 (hM.1 30 _ rfl) rfl (by have hNN := hM.2.1 30 _ rfl; omega) rfl ?_
  refine ev_iconstN 28 1 dX12_length_27 rfl ?_
  refine ev_isub 29 dX12_length_28 rfl ?_
  refine ev_eqI (y := nI (r)) ((by rw [hr]; exact nI_s1 r)) ?_
  refine ev_istore_n 30 (lv' := [_, _, some (.int _), _]) dX12_length_29 (Nat.le_of_ble_eq_true rfl) rfl rfl ?_
  refine ev_iload_n 31 dX12_length_30 rfl rfl ?_
  refine ev_if_geN 34 43 dX12_length_31 (by decide) (by omega) rfl (fun hbr => ?_) (fun hx => absurd (trivial) hx)
  refine ev_aload_n 44 dX12_length_43 rfl rfl ?_
  refine ev_aload_n 45 dX12_length_44 rfl rfl ?_
  refine ev_getP 48 mm_cl12 (j := 37) (Nat.le_of_ble_eq_true rfl) dX12_length_45 lk1322 (fun _ _ _ => rfl) (hM.1 0 _ rfl) (a := (m + 31)) (hM.2.2 30 _ _ _ rfl) rfl ?_
  refine ev_iload_n 49 dX12_length_48 rfl rfl ?_
  refine ev_iald 50 _ dX12_length_49 (hM.1 31 _ rfl) rfl (by have hNN := hM.2.1 31 _ rfl; omega) rfl ?_
  refine ev_eqI (y := (v)) (hv) ?_
  refine ev_invV 53 (Mc := mX12_done) ⟨lk1544, lk80, hdX12_done, (Nat.le_of_ble_eq_true rfl), (Nat.le_of_ble_eq_true rfl)⟩ lk1541 lk1543 lk39 mm_cl12 rfl dX12_length_50 (ct_X12_done hM) rfl (hM.1 0 _ rfl) (Nat.le_of_ble_eq_true rfl) rfl rfl ?_
  exact ev_iret dX12_length_53 rfl (rfl)
theorem cl_byteOf_f {c i j : Int32} (hV : lyV B P x) (hf : Ct g mX11_frameAt [.ref x, .int c, .int i] B (vz I x) J P (some .null, B, vz I x, J, P)) : Ct g mX11_byteOf [.ref x, .int c, .int i, .int j] B I J P (some (.int (-1)), B, vst I x (-1), J, P) := by
  refine ct_of (lv := [some (.ref x), some (.int (c)), some (.int (i)), some (.int (j)), none]) (by decide +kernel) (Nat.le_of_ble_eq_true rfl) rfl ?_
  refine ev_aload_n 1 dX11_byteOf_0 rfl rfl ?_
  refine ev_iconstN 2 0 dX11_byteOf_1 rfl ?_
  refine ev_putI 5 mm_cl11 (j := 9) (Nat.le_of_ble_eq_true rfl) dX11_byteOf_2 lk270 rfl (fun _ _ _ => rfl) rfl rfl (hV.1 0 _ rfl) rfl ?_
  refine ev_aload_n 6 dX11_byteOf_5 rfl rfl ?_
  refine ev_iload_n 7 dX11_byteOf_6 rfl rfl ?_
  refine ev_iload_n 8 dX11_byteOf_7 rfl rfl ?_
  refine ev_invV 11 (Mc := mX11_frameAt) ⟨lk923, lk75, hdX11_frameAt, (Nat.le_of_ble_eq_true rfl), (Nat.le_of_ble_eq_true rfl)⟩ lk920 lk922 lk23 mm_cl11 rfl dX11_byteOf_8 (hf) rfl (hV.1 0 _ rfl) (Nat.le_of_ble_eq_true rfl) rfl rfl ?_
  refine ev_astoreN 13 (lv' := [_, _, _, some (.int _), _]) dX11_byteOf_11 (Nat.le_of_ble_eq_true rfl) rfl rfl ?_
  refine ev_aloadN 15 dX11_byteOf_13 rfl rfl ?_
  refine ev_ifnonnull_n 18 dX11_byteOf_15 rfl ?_
  refine ev_aload_n 19 dX11_byteOf_18 rfl rfl ?_
  refine ev_iconst 20 (v := -1) dX11_byteOf_19 (by decide +kernel) rfl ?_
  refine ev_invV 23 (Mc := mX11_refuse) ⟨lk303, lk75, hdX11_refuse, (Nat.le_of_ble_eq_true rfl), (Nat.le_of_ble_eq_true rfl)⟩ lk300 lk302 lk0 mm_cl11 rfl dX11_byteOf_20 (ct_refuse hV) rfl (hV.1 0 _ rfl) (Nat.le_of_ble_eq_true rfl) rfl rfl ?_
  exact ev_iret dX11_byteOf_23 rfl (rfl)
theorem cl_byteOf_b {c i j : Int32} {s : Nat} (hV : lyV B P x) (tf : mm_T B f = 104) (h : FV B P f s) (hj : ¬ (0 ≤ j ∧ j < nI s)) (hf : Ct g mX11_frameAt [.ref x, .int c, .int i] B (vz I x) J P (some (.ref f), B, vz I x, J, P)) : Ct g mX11_byteOf [.ref x, .int c, .int i, .int j] B I J P (some (.int (-4)), B, vst I x (-4), J, P) := by
  refine ct_of (lv := [some (.ref x), some (.int (c)), some (.int (i)), some (.int (j)), none]) (by decide +kernel) (Nat.le_of_ble_eq_true rfl) rfl ?_
  refine ev_aload_n 1 dX11_byteOf_0 rfl rfl ?_
  refine ev_iconstN 2 0 dX11_byteOf_1 rfl ?_
  refine ev_putI 5 mm_cl11 (j := 9) (Nat.le_of_ble_eq_true rfl) dX11_byteOf_2 lk270 rfl (fun _ _ _ => rfl) rfl rfl (hV.1 0 _ rfl) rfl ?_
  refine ev_aload_n 6 dX11_byteOf_5 rfl rfl ?_
  refine ev_iload_n 7 dX11_byteOf_6 rfl rfl ?_
  refine ev_iload_n 8 dX11_byteOf_7 rfl rfl ?_
  refine ev_invV 11 (Mc := mX11_frameAt) ⟨lk923, lk75, hdX11_frameAt, (Nat.le_of_ble_eq_true rfl), (Nat.le_of_ble_eq_true rfl)⟩ lk920 lk922 lk23 mm_cl11 rfl dX11_byteOf_8 (hf) rfl (hV.1 0 _ rfl) (Nat.le_of_ble_eq_true rfl) rfl rfl ?_
  refine ev_astore 13 (lv' := [_, _, _, some (.int _), _]) dX11_byteOf_11 (Nat.le_of_ble_eq_true rfl) rfl rfl ?_
  refine ev_aload 15 dX11_byteOf_13 rfl rfl ?_
  refine ev_ifnonnull_r 24 dX11_byteOf_15 (by decide) ?_
  refine ev_aload 26 dX11_byteOf_24 rfl rfl ?_
  refine ev_iload_n 27 dX11_byteOf_26 rfl rfl ?_
  refine ev_invV 30 (Mc := mX4_has) ⟨lk939, lk89, hdX4_has, (Nat.le_of_ble_eq_true rfl), (Nat.le_of_ble_eq_true rfl)⟩ lk936 lk937 lk938 mm_cl4 rfl dX11_byteOf_27 (ct_has_f tf h hj) rfl tf (Nat.le_of_ble_eq_true rfl) rfl rfl ?_
  refine ev_if_eqN 33 42 dX11_byteOf_30 (by decide) (by omega) rfl (fun hbr => ?_) (fun hx => absurd ((by omega)) hx)
  refine ev_aload_n 43 dX11_byteOf_42 rfl rfl ?_
  refine ev_bipush 45 (v := -4) dX11_byteOf_43 (by decide +kernel) rfl ?_
  refine ev_invV 48 (Mc := mX11_refuse) ⟨lk303, lk75, hdX11_refuse, (Nat.le_of_ble_eq_true rfl), (Nat.le_of_ble_eq_true rfl)⟩ lk300 lk302 lk0 mm_cl11 rfl dX11_byteOf_45 (ct_refuse hV) rfl (hV.1 0 _ rfl) (Nat.le_of_ble_eq_true rfl) rfl rfl ?_
  exact ev_iret dX11_byteOf_48 rfl (rfl)
theorem cl_byteOf_t {c i : Int32} {s j : Nat} {v : Int32} (hV : lyV B P x) (tf : mm_T B f = 104) (h : FV B P f s) (hs : s < 2 ^ 31) (hj : j < s) (hr : Ct g mX4_read [.ref f, .int (nI j)] B (vz I x) J P (some (.int v), B, vz I x, J, P)) (hf : Ct g mX11_frameAt [.ref x, .int c, .int i] B (vz I x) J P (some (.ref f), B, vz I x, J, P)) : Ct g mX11_byteOf [.ref x, .int c, .int i, .int (nI j)] B I J P (some (.int v), B, vst I x (nI 0), J, P) := by
  refine ct_of (lv := [some (.ref x), some (.int (c)), some (.int (i)), some (.int (nI (j))), none]) (by decide +kernel) (Nat.le_of_ble_eq_true rfl) rfl ?_
  refine ev_aload_n 1 dX11_byteOf_0 rfl rfl ?_
  refine ev_iconstN 2 0 dX11_byteOf_1 rfl ?_
  refine ev_putI 5 mm_cl11 (j := 9) (Nat.le_of_ble_eq_true rfl) dX11_byteOf_2 lk270 rfl (fun _ _ _ => rfl) rfl rfl (hV.1 0 _ rfl) rfl ?_
  refine ev_aload_n 6 dX11_byteOf_5 rfl rfl ?_
  refine ev_iload_n 7 dX11_byteOf_6 rfl rfl ?_
  refine ev_iload_n 8 dX11_byteOf_7 rfl rfl ?_
  refine ev_invV 11 (Mc := mX11_frameAt) ⟨lk923, lk75, hdX11_frameAt, (Nat.le_of_ble_eq_true rfl), (Nat.le_of_ble_eq_true rfl)⟩ lk920 lk922 lk23 mm_cl11 rfl dX11_byteOf_8 (hf) rfl (hV.1 0 _ rfl) (Nat.le_of_ble_eq_true rfl) rfl rfl ?_
  refine ev_astore 13 (lv' := [_, _, _, some (.int _), _]) dX11_byteOf_11 (Nat.le_of_ble_eq_true rfl) rfl rfl ?_
  refine ev_aload 15 dX11_byteOf_13 rfl rfl ?_
  refine ev_ifnonnull_r 24 dX11_byteOf_15 (by decide) ?_
  refine ev_aload 26 dX11_byteOf_24 rfl rfl ?_
  refine ev_iload_n 27 dX11_byteOf_26 rfl rfl ?_
  refine ev_invV 30 (Mc := mX4_has) ⟨lk939, lk89, hdX4_has, (Nat.le_of_ble_eq_true rfl), (Nat.le_of_ble_eq_true rfl)⟩ lk936 lk937 lk938 mm_cl4 rfl dX11_byteOf_27 (ct_has_t tf h hs hj) rfl tf (Nat.le_of_ble_eq_true rfl) rfl rfl ?_
  refine ev_if_eqN 33 42 dX11_byteOf_30 (by decide) (by omega) rfl (fun hx => absurd hx ((by omega))) (fun hbr => ?_)
  refine ev_aload 35 dX11_byteOf_33 rfl rfl ?_
  refine ev_iload_n 36 dX11_byteOf_35 rfl rfl ?_
  refine ev_invV 39 (Mc := mX4_read) ⟨lk944, lk89, hdX4_read, (Nat.le_of_ble_eq_true rfl), (Nat.le_of_ble_eq_true rfl)⟩ lk941 lk942 lk943 mm_cl4 rfl dX11_byteOf_36 (hr) rfl tf (Nat.le_of_ble_eq_true rfl) rfl rfl ?_
  refine ev_goto 48 dX11_byteOf_39 (by decide) ?_
  exact ev_iret dX11_byteOf_48 rfl (rfl)
theorem ml_byteOf_f {c i j : Int32} (hM : lyM B P m) (hf : Ct g mX12_isFrame [.ref m, .int c, .int i] B I J P (some (.int (nI 0)), B, I, J, P)) : Ct g mX12_byteOf [.ref m, .int c, .int i, .int j] B I J P (some (.int (-1)), B, mo_st I m (-1), J, P) := by
  refine ct_of (lv := [some (.ref m), some (.int (c)), some (.int (i)), some (.int (j)), none]) (by decide +kernel) (Nat.le_of_ble_eq_true rfl) rfl ?_
  refine ev_aload_n 1 dX12_byteOf_0 rfl rfl ?_
  refine ev_iload_n 2 dX12_byteOf_1 rfl rfl ?_
  refine ev_iload_n 3 dX12_byteOf_2 rfl rfl ?_
  refine ev_invV 6 (Mc := mX12_isFrame) ⟨lk1728, lk80, hdX12_isFrame, (Nat.le_of_ble_eq_true rfl), (Nat.le_of_ble_eq_true rfl)⟩ lk1725 lk1727 lk62 mm_cl12 rfl dX12_byteOf_3 (hf) rfl (hM.1 0 _ rfl) (Nat.le_of_ble_eq_true rfl) rfl rfl ?_
  refine ev_if_neN 9 15 dX12_byteOf_6 (by decide) (by omega) rfl (fun hx => absurd ((by omega)) hx) (fun hbr => ?_)
  refine ev_aload_n 10 dX12_byteOf_9 rfl rfl ?_
  refine ev_iconst 11 (v := -1) dX12_byteOf_10 (by decide +kernel) rfl ?_
  refine ev_invV 14 (Mc := mX12_refused) ⟨lk1540, lk80, hdX12_refused, (Nat.le_of_ble_eq_true rfl), (Nat.le_of_ble_eq_true rfl)⟩ lk1537 lk1539 lk38 mm_cl12 rfl dX12_byteOf_11 (ct_X12_refused hM) rfl (hM.1 0 _ rfl) (Nat.le_of_ble_eq_true rfl) rfl rfl ?_
  exact ev_iret dX12_byteOf_14 rfl (rfl)
theorem ml_byteOf_0 {i : Nat} {j : Int32} (hk : k < 8) (hi : i < 250) (hM : lyM B P m) (hf : Ct g mX12_isFrame [.ref m, .int (nI k), .int (nI i)] B I J P (some (.int (nI 1)), B, I, J, P)) (hr : I (m + 30) (250 * k + i) = nI 0) : Ct g mX12_byteOf [.ref m, .int (nI k), .int (nI i), .int j] B I J P (some (.int (-4)), B, mo_st I m (-4), J, P) := by
  refine ct_of (lv := [some (.ref m), some (.int (nI (k))), some (.int (nI (i))), some (.int (j)), none]) (by decide +kernel) (Nat.le_of_ble_eq_true rfl) rfl ?_
  refine ev_aload_n 1 dX12_byteOf_0 rfl rfl ?_
  refine ev_iload_n 2 dX12_byteOf_1 rfl rfl ?_
  refine ev_iload_n 3 dX12_byteOf_2 rfl rfl ?_
  refine ev_invV 6 (Mc := mX12_isFrame) ⟨lk1728, lk80, hdX12_isFrame, (Nat.le_of_ble_eq_true rfl), (Nat.le_of_ble_eq_true rfl)⟩ lk1725 lk1727 lk62 mm_cl12 rfl dX12_byteOf_3 (hf) rfl (hM.1 0 _ rfl) (Nat.le_of_ble_eq_true rfl) rfl rfl ?_
  refine ev_if_neN 9 15 dX12_byteOf_6 (by decide) (by omega) rfl (fun hbr => ?_) (fun hx => absurd hx ((by omega)))
  refine ev_aload_n 16 dX12_byteOf_15 rfl rfl ?_
  refine ev_getP 19 mm_cl12 (j := 35) (Nat.le_of_ble_eq_true rfl) dX12_byteOf_16 lk1320 (fun _ _ _ => rfl) (hM.1 0 _ rfl) (a := (m + 30)) (hM.2.2 29 _ _ _ rfl) rfl ?_
  refine ev_sipushN 22 250 dX12_byteOf_19 (by decide +kernel) rfl ?_
  refine ev_iload_n 23 dX12_byteOf_22 rfl rfl ?_
  refine ev_imulN 24 dX12_byteOf_23 rfl ?_
  refine ev_iload_n 25 dX12_byteOf_24 rfl rfl ?_
  refine ev_iaddN 26 dX12_byteOf_25 rfl ?_
  refine ev_iald 27 _ dX12_byteOf_26 (hM.1 30 _ rfl) rfl (by have hNN := hM.2.1 30 _ rfl; omega) rfl ?_
  refine ev_iconstN 28 1 dX12_byteOf_27 rfl ?_
  refine ev_isub 29 dX12_byteOf_28 rfl ?_
  refine ev_eqI (y := ((nI 0 - nI 1))) ((by rw [hr])) ?_
  refine ev_istore 31 (lv' := [_, _, _, some (.int _), _]) dX12_byteOf_29 (Nat.le_of_ble_eq_true rfl) rfl rfl ?_
  refine ev_iload 33 dX12_byteOf_31 rfl rfl ?_
  refine ev_if_lt 36 53 dX12_byteOf_33 (by decide) rfl (fun hbr => ?_) (fun hx => absurd ((by decide)) hx)
  refine ev_aload_n 54 dX12_byteOf_53 rfl rfl ?_
  refine ev_bipush 56 (v := -4) dX12_byteOf_54 (by decide +kernel) rfl ?_
  refine ev_invV 59 (Mc := mX12_refused) ⟨lk1540, lk80, hdX12_refused, (Nat.le_of_ble_eq_true rfl), (Nat.le_of_ble_eq_true rfl)⟩ lk1537 lk1539 lk38 mm_cl12 rfl dX12_byteOf_56 (ct_X12_refused hM) rfl (hM.1 0 _ rfl) (Nat.le_of_ble_eq_true rfl) rfl rfl ?_
  refine ev_goto 82 dX12_byteOf_59 (by decide) ?_
  exact ev_iret dX12_byteOf_82 rfl (rfl)
theorem ml_byteOf_b {i r s : Nat} {j : Int32} (hk : k < 8) (hi : i < 250) (hR : r < 4300) (hs : s ≤ 64) (hM : lyM B P m) (hf : Ct g mX12_isFrame [.ref m, .int (nI k), .int (nI i)] B I J P (some (.int (nI 1)), B, I, J, P)) (hr : I (m + 30) (250 * k + i) = nI (r + 1)) (hv : I (m + 31) r = nI s) (hj : ¬ (0 ≤ j ∧ j < nI s)) : Ct g mX12_byteOf [.ref m, .int (nI k), .int (nI i), .int j] B I J P (some (.int (-4)), B, mo_st I m (-4), J, P) := by
  refine ct_of (lv := [some (.ref m), some (.int (nI (k))), some (.int (nI (i))), some (.int (j)), none]) (by decide +kernel) (Nat.le_of_ble_eq_true rfl) rfl ?_
  refine ev_aload_n 1 dX12_byteOf_0 rfl rfl ?_
  refine ev_iload_n 2 dX12_byteOf_1 rfl rfl ?_
  refine ev_iload_n 3 dX12_byteOf_2 rfl rfl ?_
  refine ev_invV 6 (Mc := mX12_isFrame) ⟨lk1728, lk80, hdX12_isFrame, (Nat.le_of_ble_eq_true rfl), (Nat.le_of_ble_eq_true rfl)⟩ lk1725 lk1727 lk62 mm_cl12 rfl dX12_byteOf_3 (hf) rfl (hM.1 0 _ rfl) (Nat.le_of_ble_eq_true rfl) rfl rfl ?_
  refine ev_if_neN 9 15 dX12_byteOf_6 (by decide) (by omega) rfl (fun hbr => ?_) (fun hx => absurd hx ((by omega)))
  refine ev_aload_n 16 dX12_byteOf_15 rfl rfl ?_
  refine ev_getP 19 mm_cl12 (j := 35) (Nat.le_of_ble_eq_true rfl) dX12_byteOf_16 lk1320 (fun _ _ _ => rfl) (hM.1 0 _ rfl) (a := (m + 30)) (hM.2.2 29 _ _ _ rfl) rfl ?_
  refine ev_sipushN 22 250 dX12_byteOf_19 (by decide +kernel) rfl ?_
  refine ev_iload_n 23 dX12_byteOf_22 rfl rfl ?_
  refine ev_imulN 24 dX12_byteOf_23 rfl ?_
  refine ev_iload_n 25 dX12_byteOf_24 rfl rfl ?_
  refine ev_iaddN 26 dX12_byteOf_25 rfl ?_
  refine ev_iald 27 _ dX12_byteOf_26 (hM.1 30 _ rfl) rfl (by have hNN := hM.2.1 30 _ rfl; omega) rfl ?_
  refine ev_iconstN 28 1 dX12_byteOf_27 rfl ?_
  refine ev_isub 29 dX12_byteOf_28 rfl ?_
  refine ev_eqI (y := nI (r)) ((by rw [hr]; exact nI_s1 r)) ?_
  refine ev_istore 31 (lv' := [_, _, _, some (.int _), _]) dX12_byteOf_29 (Nat.le_of_ble_eq_true rfl) rfl rfl ?_
  refine ev_iload 33 dX12_byteOf_31 rfl rfl ?_
  refine ev_if_ltN 36 53 dX12_byteOf_33 (by decide) (by omega) rfl (fun hx => absurd hx (not_false)) (fun hbr => ?_)
  refine ev_iload_n 37 dX12_byteOf_36 rfl rfl ?_
  refine ev_iconstN 38 0 dX12_byteOf_37 rfl ?_
  refine ev_aload_n 39 dX12_byteOf_38 rfl rfl ?_
  refine ev_getP 42 mm_cl12 (j := 37) (Nat.le_of_ble_eq_true rfl) dX12_byteOf_39 lk1322 (fun _ _ _ => rfl) (hM.1 0 _ rfl) (a := (m + 31)) (hM.2.2 30 _ _ _ rfl) rfl ?_
  refine ev_iload 44 dX12_byteOf_42 rfl rfl ?_
  refine ev_iald 45 _ dX12_byteOf_44 (hM.1 31 _ rfl) rfl (by have hNN := hM.2.1 31 _ rfl; omega) rfl ?_
  refine ev_eqI (y := ((nI s))) (hv) ?_
  refine ev_iconstN 46 1 dX12_byteOf_45 rfl ?_
  refine ev_isub 47 dX12_byteOf_46 rfl ?_
  refine ev_invS 50 (Mc := mX12_in) ⟨lk1536, lk80, hdX12_in, (Nat.le_of_ble_eq_true rfl), (Nat.le_of_ble_eq_true rfl)⟩ lk1534 lk1535 dX12_byteOf_47 (ct_X12_in_f (nI_inr (by omega) hj)) rfl (Nat.le_of_ble_eq_true rfl) rfl rfl ?_
  refine ev_if_neN 53 62 dX12_byteOf_50 (by decide) (by omega) rfl (fun hx => absurd ((by omega)) hx) (fun hbr => ?_)
  refine ev_aload_n 54 dX12_byteOf_53 rfl rfl ?_
  refine ev_bipush 56 (v := -4) dX12_byteOf_54 (by decide +kernel) rfl ?_
  refine ev_invV 59 (Mc := mX12_refused) ⟨lk1540, lk80, hdX12_refused, (Nat.le_of_ble_eq_true rfl), (Nat.le_of_ble_eq_true rfl)⟩ lk1537 lk1539 lk38 mm_cl12 rfl dX12_byteOf_56 (ct_X12_refused hM) rfl (hM.1 0 _ rfl) (Nat.le_of_ble_eq_true rfl) rfl rfl ?_
  refine ev_goto 82 dX12_byteOf_59 (by decide) ?_
  exact ev_iret dX12_byteOf_82 rfl (rfl)
theorem ml_byteOf_t {i r s j : Nat} {v : Int32} (hk : k < 8) (hi : i < 250) (hR : r < 4300) (hs : s ≤ 64) (hM : lyM B P m) (hf : Ct g mX12_isFrame [.ref m, .int (nI k), .int (nI i)] B I J P (some (.int (nI 1)), B, I, J, P)) (hr : I (m + 30) (250 * k + i) = nI (r + 1)) (hv : I (m + 31) r = nI s) (hj : j < s) (hw : I (m + 33) (64 * r + j) &&& nI 255 = v) : Ct g mX12_byteOf [.ref m, .int (nI k), .int (nI i), .int (nI j)] B I J P (some (.int v), B, mo_st I m (nI 0), J, P) := by
  refine ct_of (lv := [some (.ref m), some (.int (nI (k))), some (.int (nI (i))), some (.int (nI (j))), none]) (by decide +kernel) (Nat.le_of_ble_eq_true rfl) rfl ?_
  refine ev_aload_n 1 dX12_byteOf_0 rfl rfl ?_
  refine ev_iload_n 2 dX12_byteOf_1 rfl rfl ?_
  refine ev_iload_n 3 dX12_byteOf_2 rfl rfl ?_
  refine ev_invV 6 (Mc := mX12_isFrame) ⟨lk1728, lk80, hdX12_isFrame, (Nat.le_of_ble_eq_true rfl), (Nat.le_of_ble_eq_true rfl)⟩ lk1725 lk1727 lk62 mm_cl12 rfl dX12_byteOf_3 (hf) rfl (hM.1 0 _ rfl) (Nat.le_of_ble_eq_true rfl) rfl rfl ?_
  refine ev_if_neN 9 15 dX12_byteOf_6 (by decide) (by omega) rfl (fun hbr => ?_) (fun hx => absurd hx ((by omega)))
  refine ev_aload_n 16 dX12_byteOf_15 rfl rfl ?_
  refine ev_getP 19 mm_cl12 (j := 35) (Nat.le_of_ble_eq_true rfl) dX12_byteOf_16 lk1320 (fun _ _ _ => rfl) (hM.1 0 _ rfl) (a := (m + 30)) (hM.2.2 29 _ _ _ rfl) rfl ?_
  refine ev_sipushN 22 250 dX12_byteOf_19 (by decide +kernel) rfl ?_
  refine ev_iload_n 23 dX12_byteOf_22 rfl rfl ?_
  refine ev_imulN 24 dX12_byteOf_23 rfl ?_
  refine ev_iload_n 25 dX12_byteOf_24 rfl rfl ?_
  refine ev_iaddN 26 dX12_byteOf_25 rfl ?_
  refine ev_iald 27 _ dX12_byteOf_26 (hM.1 30 _ rfl) rfl (by have hNN := hM.2.1 30 _ rfl; omega) rfl ?_
  refine ev_iconstN 28 1 dX12_byteOf_27 rfl ?_
  refine ev_isub 29 dX12_byteOf_28 rfl ?_
  refine ev_eqI (y := nI (r)) ((by rw [hr]; exact nI_s1 r)) ?_
  refine ev_istore 31 (lv' := [_, _, _, some (.int _), _]) dX12_byteOf_29 (Nat.le_of_ble_eq_true rfl) rfl rfl ?_
  refine ev_iload 33 dX12_byteOf_31 rfl rfl ?_
  refine ev_if_ltN 36 53 dX12_byteOf_33 (by decide) (by omega) rfl (fun hx => absurd hx (not_false)) (fun hbr => ?_)
  refine ev_iload_n 37 dX12_byteOf_36 rfl rfl ?_
  refine ev_iconstN 38 0 dX12_byteOf_37 rfl ?_
  refine ev_aload_n 39 dX12_byteOf_38 rfl rfl ?_
  refine ev_getP 42 mm_cl12 (j := 37) (Nat.le_of_ble_eq_true rfl) dX12_byteOf_39 lk1322 (fun _ _ _ => rfl) (hM.1 0 _ rfl) (a := (m + 31)) (hM.2.2 30 _ _ _ rfl) rfl ?_
  refine ev_iload 44 dX12_byteOf_42 rfl rfl ?_
  refine ev_iald 45 _ dX12_byteOf_44 (hM.1 31 _ rfl) rfl (by have hNN := hM.2.1 31 _ rfl; omega) rfl ?_
  refine ev_eqI (y := ((nI s))) (hv) ?_
  refine ev_iconstN 46 1 dX12_byteOf_45 rfl ?_
  refine ev_isub 47 dX12_byteOf_46 rfl ?_
  refine ev_invS 50 (Mc := mX12_in) ⟨lk1536, lk80, hdX12_in, (Nat.le_of_ble_eq_true rfl), (Nat.le_of_ble_eq_true rfl)⟩ lk1534 lk1535 dX12_byteOf_47 (ct_X12_in_t (nI_inr' (by omega) hj)) rfl (Nat.le_of_ble_eq_true rfl) rfl rfl ?_
  refine ev_if_neN 53 62 dX12_byteOf_50 (by decide) (by omega) rfl (fun hbr => ?_) (fun hx => absurd hx ((by omega)))
  refine ev_aload_n 63 dX12_byteOf_62 rfl rfl ?_
  refine ev_aload_n 64 dX12_byteOf_63 rfl rfl ?_
  refine ev_getP 67 mm_cl12 (j := 39) (Nat.le_of_ble_eq_true rfl) dX12_byteOf_64 lk1324 (fun _ _ _ => rfl) (hM.1 0 _ rfl) (a := (m + 33)) (hM.2.2 32 _ _ _ rfl) rfl ?_
  refine ev_bipushN 69 64 dX12_byteOf_67 (by decide +kernel) rfl ?_
  refine ev_iload 71 dX12_byteOf_69 rfl rfl ?_
  refine ev_imulN 72 dX12_byteOf_71 rfl ?_
  refine ev_iload_n 73 dX12_byteOf_72 rfl rfl ?_
  refine ev_iaddN 74 dX12_byteOf_73 rfl ?_
  refine ev_iald 75 _ dX12_byteOf_74 (hM.1 33 _ rfl) rfl (by have hNN := hM.2.1 33 _ rfl; omega) rfl ?_
  refine ev_sipushN 78 255 dX12_byteOf_75 (by decide +kernel) rfl ?_
  refine ev_iand 79 dX12_byteOf_78 rfl ?_
  refine ev_eqI (y := (v)) (hw) ?_
  refine ev_invV 82 (Mc := mX12_done) ⟨lk1544, lk80, hdX12_done, (Nat.le_of_ble_eq_true rfl), (Nat.le_of_ble_eq_true rfl)⟩ lk1541 lk1543 lk39 mm_cl12 rfl dX12_byteOf_79 (ct_X12_done hM) rfl (hM.1 0 _ rfl) (Nat.le_of_ble_eq_true rfl) rfl rfl ?_
  exact ev_iret dX12_byteOf_82 rfl (rfl)
theorem cl_label_f {c i : Int32} (hV : lyV B P x) (hf : Ct g mX11_frameAt [.ref x, .int c, .int i] B (vz I x) J P (some .null, B, vz I x, J, P)) : Ct g mX11_label [.ref x, .int c, .int i] B I J P (some (.int (-1)), B, vst I x (-1), J, P) := by
  refine ct_of (lv := [some (.ref x), some (.int (c)), some (.int (i)), none]) (by decide +kernel) (Nat.le_of_ble_eq_true rfl) rfl ?_
  refine ev_aload_n 1 dX11_label_0 rfl rfl ?_
  refine ev_iconstN 2 0 dX11_label_1 rfl ?_
  refine ev_putI 5 mm_cl11 (j := 9) (Nat.le_of_ble_eq_true rfl) dX11_label_2 lk270 rfl (fun _ _ _ => rfl) rfl rfl (hV.1 0 _ rfl) rfl ?_
  refine ev_aload_n 6 dX11_label_5 rfl rfl ?_
  refine ev_iload_n 7 dX11_label_6 rfl rfl ?_
  refine ev_iload_n 8 dX11_label_7 rfl rfl ?_
  refine ev_invV 11 (Mc := mX11_frameAt) ⟨lk923, lk75, hdX11_frameAt, (Nat.le_of_ble_eq_true rfl), (Nat.le_of_ble_eq_true rfl)⟩ lk920 lk922 lk23 mm_cl11 rfl dX11_label_8 (hf) rfl (hV.1 0 _ rfl) (Nat.le_of_ble_eq_true rfl) rfl rfl ?_
  refine ev_astore_nN 12 (lv' := [_, _, some (.int _), _]) dX11_label_11 (Nat.le_of_ble_eq_true rfl) rfl rfl ?_
  refine ev_aload_nN 13 dX11_label_12 rfl rfl ?_
  refine ev_ifnonnull_n 16 dX11_label_13 rfl ?_
  refine ev_aload_n 17 dX11_label_16 rfl rfl ?_
  refine ev_iconst 18 (v := -1) dX11_label_17 (by decide +kernel) rfl ?_
  refine ev_invV 21 (Mc := mX11_refuse) ⟨lk303, lk75, hdX11_refuse, (Nat.le_of_ble_eq_true rfl), (Nat.le_of_ble_eq_true rfl)⟩ lk300 lk302 lk0 mm_cl11 rfl dX11_label_18 (ct_refuse hV) rfl (hV.1 0 _ rfl) (Nat.le_of_ble_eq_true rfl) rfl rfl ?_
  refine ev_goto 28 dX11_label_21 (by decide) ?_
  exact ev_iret dX11_label_28 rfl (rfl)
theorem cl_label_t {c i : Int32} {v : Int32} (hV : lyV B P x) (tf : mm_T B f = 104) (hxf : x + 22 ≤ f) (hv : I f 0 = v) (hf : Ct g mX11_frameAt [.ref x, .int c, .int i] B (vz I x) J P (some (.ref f), B, vz I x, J, P)) : Ct g mX11_label [.ref x, .int c, .int i] B I J P (some (.int v), B, vst I x (nI 0), J, P) := by
  refine ct_of (lv := [some (.ref x), some (.int (c)), some (.int (i)), none]) (by decide +kernel) (Nat.le_of_ble_eq_true rfl) rfl ?_
  refine ev_aload_n 1 dX11_label_0 rfl rfl ?_
  refine ev_iconstN 2 0 dX11_label_1 rfl ?_
  refine ev_putI 5 mm_cl11 (j := 9) (Nat.le_of_ble_eq_true rfl) dX11_label_2 lk270 rfl (fun _ _ _ => rfl) rfl rfl (hV.1 0 _ rfl) rfl ?_
  refine ev_aload_n 6 dX11_label_5 rfl rfl ?_
  refine ev_iload_n 7 dX11_label_6 rfl rfl ?_
  refine ev_iload_n 8 dX11_label_7 rfl rfl ?_
  refine ev_invV 11 (Mc := mX11_frameAt) ⟨lk923, lk75, hdX11_frameAt, (Nat.le_of_ble_eq_true rfl), (Nat.le_of_ble_eq_true rfl)⟩ lk920 lk922 lk23 mm_cl11 rfl dX11_label_8 (hf) rfl (hV.1 0 _ rfl) (Nat.le_of_ble_eq_true rfl) rfl rfl ?_
  refine ev_astore_n 12 (lv' := [_, _, some (.int _), _]) dX11_label_11 (Nat.le_of_ble_eq_true rfl) rfl rfl ?_
  refine ev_aload_n 13 dX11_label_12 rfl rfl ?_
  refine ev_ifnonnull_r 24 dX11_label_13 (by decide) ?_
  refine ev_aload_n 25 dX11_label_24 rfl rfl ?_
  refine ev_getI 28 mm_cl4 (j := 0) (Nat.le_of_ble_eq_true rfl) dX11_label_25 lk862 (fun _ _ _ => rfl) tf rfl ?_
  refine ev_eqI (y := (v)) ((vzk hv (by omega))) ?_
  exact ev_iret dX11_label_28 rfl (rfl)
theorem ml_label_f {c i : Int32} (hM : lyM B P m) (hf : Ct g mX12_isFrame [.ref m, .int c, .int i] B I J P (some (.int (nI 0)), B, I, J, P)) : Ct g mX12_label [.ref m, .int c, .int i] B I J P (some (.int (-1)), B, mo_st I m (-1), J, P) := by
  refine ct_of (lv := [some (.ref m), some (.int (c)), some (.int (i))]) (by decide +kernel) (Nat.le_of_ble_eq_true rfl) rfl ?_
  refine ev_aload_n 1 dX12_label_0 rfl rfl ?_
  refine ev_iload_n 2 dX12_label_1 rfl rfl ?_
  refine ev_iload_n 3 dX12_label_2 rfl rfl ?_
  refine ev_invV 6 (Mc := mX12_isFrame) ⟨lk1728, lk80, hdX12_isFrame, (Nat.le_of_ble_eq_true rfl), (Nat.le_of_ble_eq_true rfl)⟩ lk1725 lk1727 lk62 mm_cl12 rfl dX12_label_3 (hf) rfl (hM.1 0 _ rfl) (Nat.le_of_ble_eq_true rfl) rfl rfl ?_
  refine ev_if_eqN 9 28 dX12_label_6 (by decide) (by omega) rfl (fun hbr => ?_) (fun hx => absurd ((by omega)) hx)
  refine ev_aload_n 29 dX12_label_28 rfl rfl ?_
  refine ev_iconst 30 (v := -1) dX12_label_29 (by decide +kernel) rfl ?_
  refine ev_invV 33 (Mc := mX12_refused) ⟨lk1540, lk80, hdX12_refused, (Nat.le_of_ble_eq_true rfl), (Nat.le_of_ble_eq_true rfl)⟩ lk1537 lk1539 lk38 mm_cl12 rfl dX12_label_30 (ct_X12_refused hM) rfl (hM.1 0 _ rfl) (Nat.le_of_ble_eq_true rfl) rfl rfl ?_
  exact ev_iret dX12_label_33 rfl (rfl)
theorem ml_label_t {i : Nat} {v : Int32} (hk : k < 8) (hi : i < 250) (hM : lyM B P m) (hf : Ct g mX12_isFrame [.ref m, .int (nI k), .int (nI i)] B I J P (some (.int (nI 1)), B, I, J, P)) (hv : I (m + 29) (250 * k + i) = v) : Ct g mX12_label [.ref m, .int (nI k), .int (nI i)] B I J P (some (.int v), B, mo_st I m (nI 0), J, P) := by
  refine ct_of (lv := [some (.ref m), some (.int (nI (k))), some (.int (nI (i)))]) (by decide +kernel) (Nat.le_of_ble_eq_true rfl) rfl ?_
  refine ev_aload_n 1 dX12_label_0 rfl rfl ?_
  refine ev_iload_n 2 dX12_label_1 rfl rfl ?_
  refine ev_iload_n 3 dX12_label_2 rfl rfl ?_
  refine ev_invV 6 (Mc := mX12_isFrame) ⟨lk1728, lk80, hdX12_isFrame, (Nat.le_of_ble_eq_true rfl), (Nat.le_of_ble_eq_true rfl)⟩ lk1725 lk1727 lk62 mm_cl12 rfl dX12_label_3 (hf) rfl (hM.1 0 _ rfl) (Nat.le_of_ble_eq_true rfl) rfl rfl ?_
  refine ev_if_eqN 9 28 dX12_label_6 (by decide) (by omega) rfl (fun hx => absurd hx ((by omega))) (fun hbr => ?_)
  refine ev_aload_n 10 dX12_label_9 rfl rfl ?_
  refine ev_aload_n 11 dX12_label_10 rfl rfl ?_
  refine ev_getP 14 mm_cl12 (j := 34) (Nat.le_of_ble_eq_true rfl) dX12_label_11 lk1319 (fun _ _ _ => rfl) (hM.1 0 _ rfl) (a := (m + 29)) (hM.2.2 28 _ _ _ rfl) rfl ?_
  refine ev_sipushN 17 250 dX12_label_14 (by decide +kernel) rfl ?_
  refine ev_iload_n 18 dX12_label_17 rfl rfl ?_
  refine ev_imulN 19 dX12_label_18 rfl ?_
  refine ev_iload_n 20 dX12_label_19 rfl rfl ?_
  refine ev_iaddN 21 dX12_label_20 rfl ?_
  refine ev_iald 22 _ dX12_label_21 (hM.1 29 _ rfl) rfl (by have hNN := hM.2.1 29 _ rfl; omega) rfl ?_
  refine ev_eqI (y := (v)) (hv) ?_
  refine ev_invV 25 (Mc := mX12_done) ⟨lk1544, lk80, hdX12_done, (Nat.le_of_ble_eq_true rfl), (Nat.le_of_ble_eq_true rfl)⟩ lk1541 lk1543 lk39 mm_cl12 rfl dX12_label_22 (ct_X12_done hM) rfl (hM.1 0 _ rfl) (Nat.le_of_ble_eq_true rfl) rfl rfl ?_
  refine ev_goto 33 dX12_label_25 (by decide) ?_
  exact ev_iret dX12_label_33 rfl (rfl)
end FR0
section FR1
variable {g : mm_G} {c i j : Int32}
/-- frame j of coder k, if there is one: both sides -/
theorem fr_cases {B : mm_B} {I : mm_TI} {J : mm_TJ} {P : mm_TP} {x m n R K : Nat} {o : Nat → Nat} {fl φ : Nat → Nat → Nat} {ρ : Nat → Nat} (h : RC g B I J P x m n R K o fl φ ρ) (c i : Int32) :
    (∃ k j L, k < n ∧ j < L ∧ L ≤ 250 ∧ c = nI k ∧ i = nI j ∧ I (o k + 2) 1 = nI L ∧ I (m + 28) k = nI L ∧ P (o k + 3) j = some (φ k j) ∧ o k + 33 ≤ φ k j ∧ VFr B I P m R ρ (φ k j) (250 * k + j) ∧ Ct g mX11_frameAt [.ref x, .int c, .int i] B (vz I x) J P (some (.ref (φ k j)), B, vz I x, J, P) ∧ ∀ I1 : mm_TI, (∀ q, q ≠ x → I1 q = I q) → Ct g mX12_isFrame [.ref m, .int c, .int i] B I1 J P (some (.int (nI 1)), B, I1, J, P)) ∨
    (Ct g mX11_frameAt [.ref x, .int c, .int i] B (vz I x) J P (some .null, B, vz I x, J, P) ∧ ∀ I1 : mm_TI, (∀ q, q ≠ x → I1 q = I q) → Ct g mX12_isFrame [.ref m, .int c, .int i] B I1 J P (some (.int (nI 0)), B, I1, J, P)) := by
  obtain ⟨hV, hM, -⟩ := RG_ly h
  obtain ⟨h8, hx4, hm0⟩ := RG_n h
  have xm := (RC_xm h).1
  rcases cd_cases h8 c with ⟨k, hk, rfl⟩ | hc
  · obtain ⟨L, l1, l2, l3, l4, l5⟩ := RC_l h hk
    rcases nn_cases (b := L) (by omega) i with ⟨j, hj, rfl⟩ | hc
    · obtain ⟨a1, a2, a3⟩ := l4 j hj
      exact Or.inl ⟨k, j, L, hk, hj, l1, rfl, rfl, l2, l3, a1, a2, a3, ct_frameAt_t (CA_of h hk) l2 l1 hj a1 a3.1, fun I1 h1 => ct_isFrame_t (MA_of h hk (h1 _ (by omega))) (by rw [h1 _ (by omega)]; exact l3) l1 hj⟩
    · exact Or.inr ⟨ct_frameAt_b (CA_of h hk) l2 hc, fun I1 h1 => ct_isFrame_b (MA_of h hk (h1 _ (by omega))) (by rw [h1 _ (by omega)]; exact l3) hc⟩
  · exact Or.inr ⟨ct_frameAt_f hV hx4 hc, fun I1 h1 => ct_isFrame_f hM (by rw [h1 _ (by omega)]; exact hm0) hc⟩
/-- what it holds -/
theorem fr_row {B : mm_B} {I : mm_TI} {J : mm_TJ} {P : mm_TP} {x m n R K f q : Nat} {o : Nat → Nat} {fl φ : Nat → Nat → Nat} {ρ : Nat → Nat} (h : RC g B I J P x m n R K o fl φ ρ) (hf : VFr B I P m R ρ f q) :
    (I (m + 30) q = nI 0 ∧ P f 1 = none ∧ P f 2 = none) ∨ ∃ r s, r < R ∧ I (m + 30) q = nI (r + 1) ∧ s ≤ 64 ∧ mm_N B (ρ r) = s ∧ I (m + 31) r = nI s ∧ (∀ k, k < s → I (ρ r) k = I (m + 33) (64 * r + k)) ∧ m + 64 ≤ ρ r ∧ ρ r < mm_nx B ∧
      ((I (m + 32) r = nI 0 ∧ P f 1 = some (ρ r) ∧ P f 2 = none ∧ mm_T B (ρ r) = 201 ∧ ∀ k, k < s → b8 (I (ρ r) k) = I (ρ r) k) ∨ (I (m + 32) r = nI 1 ∧ P f 1 = none ∧ P f 2 = some (ρ r) ∧ mm_T B (ρ r) = 202 ∧ ∀ k, k < s → -256 ≤ (I (ρ r) k).toInt ∧ (I (ρ r) k).toInt ≤ 255)) := by
  obtain ⟨-, -, -, hf⟩ := hf
  rcases hf with hf | ⟨r, r1, r2, r3⟩
  · exact Or.inl hf
  · obtain ⟨a1, a2, s, s1, s2, s3, s4, s5⟩ := (RG_r h).2.1 r r1
    refine Or.inr ⟨r, s, r1, r2, s1, s2, s3, s4, a1, a2, ?_⟩
    have ne : (nI 0 : Int32) ≠ nI 1 := by decide
    rcases r3 with ⟨t1, t2, t3⟩ | ⟨t1, t2, t3⟩
    · rcases s5 with ⟨u1, u2, u3⟩ | ⟨u1, u2, u3⟩
      · exact Or.inl ⟨t1, t2, t3, u2, u3⟩
      · exact absurd (t1.symm.trans u1) ne
    · rcases s5 with ⟨u1, u2, u3⟩ | ⟨u1, u2, u3⟩
      · exact absurd (u1.symm.trans t1) ne
      · exact Or.inr ⟨t1, t2, t3, u2, u3⟩
theorem b8_16 {v : Int32} (h : b8 v = v) : -32768 ≤ v.toInt ∧ v.toInt ≤ 32767 := by
  have := b8_r v; rw [h] at this; omega
theorem jo_label : JO g mX11_label mX12_label [.int c, .int i] := by
  refine jo_rd fun K x m B I J P n R o fl φ ρ hK h => ?_
  obtain ⟨hV, hM, -⟩ := RG_ly h
  obtain ⟨h8, hx4, hm0⟩ := RG_n h
  have xm := (RC_xm h).1
  rcases fr_cases h c i with ⟨k, j, L, hk, hj, l1, rfl, rfl, l2, l3, p1, p2, v, ct, ctm⟩ | ⟨ct, ctm⟩
  · have := (RC_v h hk).1.2.1
    exact ⟨_, _, cl_label_t hV v.1 (by omega) v.2.2.1 ct, fun I1 h1 => ml_label_t (by omega) (by omega) hM (ctm I1 h1) (by rw [h1 _ (by omega)])⟩
  · exact ⟨_, _, cl_label_f hV ct, fun I1 h1 => ml_label_f hM (ctm I1 h1)⟩
theorem jo_length : JO g mX11_length mX12_length [.int c, .int i] := by
  intro K x m B I J P hK ⟨n, R, o, fl, φ, ρ, hR, h⟩
  suffices H : ∃ (r : Int32) (a : Int32), Ct g mX11_length [.ref x, .int c, .int i] B I J P (some (.int r), B, vst I x a, J, P) ∧ ∀ I1 : mm_TI, (∀ q, q ≠ x → I1 q = I q) → Ct g mX12_length [.ref m, .int c, .int i] B I1 J P (some (.int r), B, mo_st I1 m a, J, P) by
    obtain ⟨r, a, h1, h2⟩ := H
    have xm := (RC_xm h).1
    refine ⟨r, B, vst I x a, J, P, mo_st (vst I x a) m a, J, P, h1, h2 _ (fun q hq => vst_n hq), ⟨n, R, o, fl, φ, ρ, by omega, RC_mono (RC_2 h) (by omega)⟩, Ext_rf B, by omega, by omega, fun q hq => ?_⟩
    rw [show mo_st (vst I x a) m a q = vst I x a q from va_up_n _ _ (by omega), vst_n (by omega)]
  obtain ⟨hV, hM, -⟩ := RG_ly h
  obtain ⟨h8, hx4, hm0⟩ := RG_n h
  have xm := (RC_xm h).1
  rcases fr_cases h c i with ⟨k, j, L, hk, hj, l1, rfl, rfl, l2, l3, p1, p2, v, ct, ctm⟩ | ⟨ct, ctm⟩
  · rcases fr_row h v with ⟨e1, e2, e3⟩ | ⟨r, s, r1, r2, r3, r4, r5, r6, r7, r8, ⟨t1, t2, t3, t4, t5⟩ | ⟨t1, t2, t3, t4, t5⟩⟩
    · exact ⟨_, _, cl_length_0 hV v.1 e2 e3 ct, fun I1 h1 => ml_length_0 (by omega) (by omega) hM (ctm I1 h1) (by rw [h1 _ (by omega)]; exact e1)⟩
    · exact ⟨_, _, cl_length_t hV v.1 (fun I => ct_hasRow_1 v.1 t2 t4) (Or.inr (Or.inl ⟨_, t2, t4, r4⟩)) ct, fun I1 h1 => ml_length_t (r := r) (by omega) (by omega) (by omega) hM (ctm I1 h1) (by rw [h1 _ (by omega)]; exact r2) (by rw [h1 _ (by omega)]; exact r5)⟩
    · exact ⟨_, _, cl_length_t hV v.1 (fun I => ct_hasRow_2 v.1 t2 t3 t4) (Or.inr (Or.inr ⟨_, t2, t3, t4, r4⟩)) ct, fun I1 h1 => ml_length_t (r := r) (by omega) (by omega) (by omega) hM (ctm I1 h1) (by rw [h1 _ (by omega)]; exact r2) (by rw [h1 _ (by omega)]; exact r5)⟩
  · exact ⟨_, _, cl_length_f hV ct, fun I1 h1 => ml_length_f hM (ctm I1 h1)⟩
theorem jo_byteOf : JO g mX11_byteOf mX12_byteOf [.int c, .int i, .int j] := by
  intro K x m B I J P hK ⟨n, R, o, fl, φ, ρ, hR, h⟩
  suffices H : ∃ (r : Int32) (a : Int32), Ct g mX11_byteOf [.ref x, .int c, .int i, .int j] B I J P (some (.int r), B, vst I x a, J, P) ∧ ∀ I1 : mm_TI, (∀ q, q ≠ x → I1 q = I q) → Ct g mX12_byteOf [.ref m, .int c, .int i, .int j] B I1 J P (some (.int r), B, mo_st I1 m a, J, P) by
    obtain ⟨r, a, h1, h2⟩ := H
    have xm := (RC_xm h).1
    refine ⟨r, B, vst I x a, J, P, mo_st (vst I x a) m a, J, P, h1, h2 _ (fun q hq => vst_n hq), ⟨n, R, o, fl, φ, ρ, by omega, RC_mono (RC_2 h) (by omega)⟩, Ext_rf B, by omega, by omega, fun q hq => ?_⟩
    rw [show mo_st (vst I x a) m a q = vst I x a q from va_up_n _ _ (by omega), vst_n (by omega)]
  obtain ⟨hV, hM, -⟩ := RG_ly h
  obtain ⟨h8, hx4, hm0⟩ := RG_n h
  have xm := (RC_xm h).1
  rcases fr_cases h c i with ⟨k, j', L, hk, hj, l1, rfl, rfl, l2, l3, p1, p2, v, ct, ctm⟩ | ⟨ct, ctm⟩
  · rcases fr_row h v with ⟨e1, e2, e3⟩ | ⟨r, s, r1, r2, r3, r4, r5, r6, r7, r8, hh⟩
    · exact ⟨_, _, cl_byteOf_b (s := 0) hV v.1 (Or.inl ⟨e2, e3, rfl⟩) (fun ⟨a, b⟩ => absurd b (Int32.not_lt.mpr a)) ct, fun I1 h1 => ml_byteOf_0 (by omega) (by omega) hM (ctm I1 h1) (by rw [h1 _ (by omega)]; exact e1)⟩
    · have fv : FV B P (φ k j') s := by
        rcases hh with ⟨t1, t2, t3, t4, t5⟩ | ⟨t1, t2, t3, t4, t5⟩
        · exact Or.inr (Or.inl ⟨_, t2, t4, r4⟩)
        · exact Or.inr (Or.inr ⟨_, t2, t3, t4, r4⟩)
      rcases nn_cases (b := s) (by omega) j with ⟨j, hj2, rfl⟩ | hc
      · refine ⟨I (ρ r) j &&& nI 255, _, cl_byteOf_t hV v.1 fv (by omega) hj2 ?_ ct, fun I1 h1 => ml_byteOf_t (r := r) (by omega) (by omega) (by omega) r3 hM (ctm I1 h1) (by rw [h1 _ (by omega)]; exact r2) (by rw [h1 _ (by omega)]; exact r5) hj2 (by rw [h1 _ (by omega), r6 j hj2])⟩
        rcases hh with ⟨t1, t2, t3, t4, t5⟩ | ⟨t1, t2, t3, t4, t5⟩
        · exact ct_read_1 v.1 t2 t4 r4 (by omega) hj2 (vzk rfl (by omega)) (b8_16 (t5 j hj2)).1 (b8_16 (t5 j hj2)).2
        · exact ct_read_2 v.1 t2 t3 t4 r4 (by omega) hj2 (vzk rfl (by omega))
      · exact ⟨_, _, cl_byteOf_b hV v.1 fv hc ct, fun I1 h1 => ml_byteOf_b (r := r) (by omega) (by omega) (by omega) r3 hM (ctm I1 h1) (by rw [h1 _ (by omega)]; exact r2) (by rw [h1 _ (by omega)]; exact r5) hc⟩
  · exact ⟨_, _, cl_byteOf_f hV ct, fun I1 h1 => ml_byteOf_f hM (ctm I1 h1)⟩
end FR1
