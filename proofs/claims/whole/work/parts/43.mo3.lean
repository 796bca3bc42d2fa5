section MO3
variable {g : mm_G} {B : mm_B} {I : mm_TI} {J : mm_TJ} {P : mm_TP} {m : Nat}
theorem ct_X12_drawn {n : Nat} (h : n < 2 ^ 31) : Ct g mX12_drawn [.int (nI n)] B I J P (some (.int (nI (sp_dn n))), B, I, J, P) := by
  refine ct_of (lv := [some (.int (nI n))]) (by decide +kernel) (Nat.le_of_ble_eq_true rfl) rfl ?_
  refine ev_iload_n 1 dX12_drawn_0 rfl rfl ?_
  refine ev_i2l 2 dX12_drawn_1 rfl ?_
  refine ev_ldc2 5 dX12_drawn_2 lk1586 rfl ?_
  refine ev_lmul 6 dX12_drawn_5 rfl ?_
  refine ev_ldc2 9 dX12_drawn_6 lk1587 rfl ?_
  refine ev_ladd 10 dX12_drawn_9 rfl ?_
  refine ev_ldc2 13 dX12_drawn_10 lk1588 rfl ?_
  refine ev_land 14 dX12_drawn_13 rfl ?_
  refine ev_l2i 15 dX12_drawn_14 rfl ?_
  rw [nI_l h, sp_dnL h, lN_i]
  exact ev_iret dX12_drawn_15 rfl (rfl)
theorem ct_X12_told8 {n : Nat} (h : n < 2 ^ 31) : Ct g mX12_told8 [.int (nI n)] B I J P (some (.int (sp_dt n)), B, I, J, P) := by
  refine ct_of (lv := [some (.int (nI n))]) (by decide +kernel) (Nat.le_of_ble_eq_true rfl) rfl ?_
  refine ev_iload_n 1 dX12_told8_0 rfl rfl ?_
  refine ev_bipushN 3 16 dX12_told8_1 (by decide +kernel) rfl ?_
  refine ev_ishr 4 dX12_told8_3 rfl ?_
  refine ev_sipushN 7 255 dX12_told8_4 (by decide +kernel) rfl ?_
  refine ev_iand 8 dX12_told8_7 rfl ?_
  refine ev_sipushN 11 128 dX12_told8_8 (by decide +kernel) rfl ?_
  refine ev_isub 12 dX12_told8_11 rfl ?_
  rw [sp_dtI h]
  exact ev_iret dX12_told8_12 rfl (rfl)
theorem ct_X12_gain {j : Nat} (h : j < 52) : Ct g mX12_gain [.int (nI j)] B I J P (some (.int (nI (sp_gn j))), B, I, J, P) := by
  refine ct_of (lv := [some (.int (nI j))]) (by decide +kernel) (Nat.le_of_ble_eq_true rfl) rfl ?_
  refine ev_iconstN 1 4 dX12_gain_0 rfl ?_
  refine ev_iload_n 2 dX12_gain_1 rfl rfl ?_
  refine ev_iconstN 3 4 dX12_gain_2 rfl ?_
  refine ev_iremN 4 dX12_gain_3 (by omega) (by omega) (by omega) rfl ?_
  refine ev_iaddN 5 dX12_gain_4 rfl ?_
  refine ev_iload_n 6 dX12_gain_5 rfl rfl ?_
  refine ev_iconstN 7 4 dX12_gain_6 rfl ?_
  refine ev_idivN 8 dX12_gain_7 (by omega) (by omega) (by omega) rfl ?_
  refine ev_ishl 9 dX12_gain_8 rfl ?_
  rw [sp_gnI j h]
  exact ev_iret dX12_gain_9 rfl (rfl)
theorem ct_X12_pulse {k : Nat} (h : k < 2 ^ 31) : Ct g mX12_pulse [.int (nI k)] B I J P (some (.int (sp_ph k)), B, I, J, P) := by
  refine ct_of (lv := [some (.int (nI k))]) (by decide +kernel) (Nat.le_of_ble_eq_true rfl) rfl ?_
  refine ev_iload_n 1 dX12_pulse_0 rfl rfl ?_
  refine ev_if_neN 4 9 dX12_pulse_1 (by decide) (by omega) rfl (fun h0 => ?_) (fun h0 => ?_)
  · refine ev_iload_n 10 dX12_pulse_9 rfl rfl ?_
    refine ev_iconstN 11 1 dX12_pulse_10 rfl ?_
    refine ev_icmp_neN 14 19 dX12_pulse_11 (by decide) (by omega) (by omega) rfl (fun h1 => ?_) (fun h1 => ?_)
    · refine ev_iload_n 20 dX12_pulse_19 rfl rfl ?_
      refine ev_iconstN 21 2 dX12_pulse_20 rfl ?_
      refine ev_icmp_neN 24 29 dX12_pulse_21 (by decide) (by omega) (by omega) rfl (fun h2 => ?_) (fun h2 => ?_)
      · refine ev_iconstN 30 0 dX12_pulse_29 rfl ?_
        rw [show sp_ph k = nI 0 by unfold sp_ph; rw [if_neg h0, if_neg h1, if_neg h2]]
        exact ev_iret dX12_pulse_30 rfl (rfl)
      · refine ev_bipush 26 (v := -8) dX12_pulse_24 (by decide +kernel) rfl ?_
        refine ev_goto 30 dX12_pulse_26 (by decide) ?_
        subst h2
        exact ev_iret dX12_pulse_30 rfl (rfl)
    · refine ev_bipushN 16 16 dX12_pulse_14 (by decide +kernel) rfl ?_
      refine ev_goto 30 dX12_pulse_16 (by decide) ?_
      subst h1
      exact ev_iret dX12_pulse_30 rfl (rfl)
  · refine ev_bipushN 6 32 dX12_pulse_4 (by decide +kernel) rfl ?_
    refine ev_goto 30 dX12_pulse_6 (by decide) ?_
    subst h0
    exact ev_iret dX12_pulse_30 rfl (rfl)
end MO3
section VH3
variable {g : mm_G} {B : mm_B} {I : mm_TI} {J : mm_TJ} {P : mm_TP}
theorem ct_X11_drawnFrom {n : Nat} (h : n < 2 ^ 31) : Ct g mX11_drawnFrom [.long (lN n)] B I J P (some (.long (lN (sp_dn n))), B, I, J, P) := by
  refine ct_of (lv := [some (.long (lN n)), none]) (by decide +kernel) (Nat.le_of_ble_eq_true rfl) rfl ?_
  refine ev_lload_n 1 dX11_drawnFrom_0 rfl rfl ?_
  refine ev_ldc2 4 dX11_drawnFrom_1 lk620 rfl ?_
  refine ev_lmul 5 dX11_drawnFrom_4 rfl ?_
  refine ev_ldc2 8 dX11_drawnFrom_5 lk621 rfl ?_
  refine ev_ladd 9 dX11_drawnFrom_8 rfl ?_
  refine ev_ldc2 12 dX11_drawnFrom_9 lk622 rfl ?_
  refine ev_land 13 dX11_drawnFrom_12 rfl ?_
  rw [sp_dnL h]
  exact ev_lret dX11_drawnFrom_13 rfl (rfl)
theorem ct_X11_drawOf {n : Nat} (h : n < 2 ^ 31) : Ct g mX11_drawOf [.long (lN n)] B I J P (some (.int (sp_dt n)), B, I, J, P) := by
  refine ct_of (lv := [some (.long (lN n)), none]) (by decide +kernel) (Nat.le_of_ble_eq_true rfl) rfl ?_
  refine ev_lload_n 1 dX11_drawOf_0 rfl rfl ?_
  refine ev_bipushN 3 16 dX11_drawOf_1 (by decide +kernel) rfl ?_
  refine ev_lshr 4 dX11_drawOf_3 rfl ?_
  refine ev_ldc2 7 dX11_drawOf_4 lk626 rfl ?_
  refine ev_land 8 dX11_drawOf_7 rfl ?_
  refine ev_l2i 9 dX11_drawOf_8 rfl ?_
  refine ev_sipushN 12 128 dX11_drawOf_9 (by decide +kernel) rfl ?_
  refine ev_isub 13 dX11_drawOf_12 rfl ?_
  rw [sp_dtL h]
  exact ev_iret dX11_drawOf_13 rfl (rfl)
theorem ct_X11_frameOf {r : Nat} (h : r < 2) : Ct g mX11_frameOf [.int (nI r)] B I J P (some (.int (nI (160 * (r + 1)))), B, I, J, P) := by
  refine ct_of (lv := [some (.int (nI r))]) (by decide +kernel) (Nat.le_of_ble_eq_true rfl) rfl ?_
  refine ev_iload_n 1 dX11_frameOf_0 rfl rfl ?_
  refine ev_if_neN 4 10 dX11_frameOf_1 (by decide) (by omega) rfl (fun h0 => ?_) (fun h0 => ?_)
  · refine ev_sipushN 13 320 dX11_frameOf_10 (by decide +kernel) rfl ?_
    obtain rfl : r = 1 := by omega
    exact ev_iret dX11_frameOf_13 rfl (rfl)
  · refine ev_sipushN 7 160 dX11_frameOf_4 (by decide +kernel) rfl ?_
    refine ev_goto 13 dX11_frameOf_7 (by decide) ?_
    subst h0
    exact ev_iret dX11_frameOf_13 rfl (rfl)
theorem ct_X11_partOf {r : Nat} (h : r < 2) : Ct g mX11_partOf [.int (nI r)] B I J P (some (.int (nI (40 * (r + 1)))), B, I, J, P) := by
  refine ct_of (lv := [some (.int (nI r))]) (by decide +kernel) (Nat.le_of_ble_eq_true rfl) rfl ?_
  refine ev_iload_n 1 dX11_partOf_0 rfl rfl ?_
  refine ev_invS 4 (Mc := mX11_frameOf) ⟨lk639, lk75, hdX11_frameOf, (Nat.le_of_ble_eq_true rfl), (Nat.le_of_ble_eq_true rfl)⟩ lk637 lk638 dX11_partOf_1 (ct_X11_frameOf h) rfl (Nat.le_of_ble_eq_true rfl) rfl rfl ?_
  refine ev_iconstN 5 4 dX11_partOf_4 rfl ?_
  refine ev_idivN 6 dX11_partOf_5 (by omega) (by omega) (by omega) rfl ?_
  rw [show 160 * (r + 1) / 4 = 40 * (r + 1) by omega]
  exact ev_iret dX11_partOf_6 rfl (rfl)
end VH3
