/-! DECODE: a frame is repaired -/
section DY0
variable {g : mm_G} {B : mm_B} {I I1 : mm_TI} {J J1 : mm_TJ} {P : mm_TP} {m x o f ah : Nat}
theorem lx_X1_b2z {w nx t : Nat} {rr : Int32} {Z : mm_Z} (hV : lyV B P x) (hC : lyC B P x o) (hxo : x + 22 ≤ o) (r12 : I (o + 17) 12 = nI w) (hw : 1 ≤ w ∧ w ≤ 7) (r9 : I (o + 17) 9 = nI nx) (hnx : nx < 65536) (ht : I (x + 1) 2 = nI t) (h32 : t < 32)
    (hfi : Ct g mX5_first [.ref (o + 2), .int (nI ((nx + 1) % 65536))] B (va_up (va_up I (x + 3) (va_up (I (x + 3)) t (nI (30 + w)))) (x + 1) (va_up (I (x + 1)) 2 (nI (t + 1)))) J P (some .null, B, va_up (va_up I (x + 3) (va_up (I (x + 3)) t (nI (30 + w)))) (x + 1) (va_up (I (x + 1)) 2 (nI (t + 1))), J, P))
    (hd : Ct g mX1_repairFrom [.ref (o + 17), .null] B (va_up (va_up I (x + 3) (va_up (I (x + 3)) t (nI (30 + w)))) (x + 1) (va_up (I (x + 1)) 2 (nI (t + 1)))) J P (none, B, I1, J1, P)) (r14 : I1 (o + 17) 14 = rr)
    (K : Ev g mX1_decodeNext 139 [some (.ref (o + 17)), none, none, some (.int (nI 1)), none] [] B (va_up I1 (o + 17) (va_up (I1 (o + 17)) 14 (rr + nI 1))) J1 P Z) (fv : Value) (hfv : fv = .null ∨ ∃ f, fv = .ref f ∧ mm_T B f = 104) : Ev g mX1_decodeNext 54 [some (.ref (o + 17)), some (.ref (o + 2)), some fv, none, none] [] B I J P Z := by
  rcases hfv with rfl | ⟨f, e, tf⟩
  · have mk := ct_X10_mark (g := g) (B := B) (I := I) (J := J) (P := P) (x := x) (a := nI (30 + w)) (t := t) hV ht h32
    generalize hIm : va_up (va_up I (x + 3) (va_up (I (x + 3)) t (nI (30 + w)))) (x + 1) (va_up (I (x + 1)) 2 (nI (t + 1))) = Im at *
    have am : Im (o + 17) = I (o + 17) := by rw [← hIm, va_up_n _ _ (by omega), va_up_n _ _ (by omega)]
    refine ev_aload_n 55 dX1_decodeNext_54 rfl rfl ?_
    refine ev_getI 58 mm_cl1 (j := 12) (Nat.le_of_ble_eq_true rfl) dX1_decodeNext_55 lk491 (fun _ _ _ => rfl) (hC.1 17 _ rfl) rfl ?_
    refine ev_eqI (y := nI (w)) (r12) ?_
    refine ev_if_neN 61 68 dX1_decodeNext_58 (by decide) (by omega) rfl (fun hbr => ?_) (fun hx => absurd hx ((by omega)))
    refine ev_iconstN 69 1 dX1_decodeNext_68 rfl ?_
    refine ev_goto 73 dX1_decodeNext_69 (by decide) ?_
    refine ev_istore_n 74 (lv' := [_, _, some .null, _, _]) dX1_decodeNext_73 (Nat.le_of_ble_eq_true rfl) rfl rfl ?_
    refine ev_aload_n 75 dX1_decodeNext_74 rfl rfl ?_
    refine ev_getI 78 mm_cl1 (j := 12) (Nat.le_of_ble_eq_true rfl) dX1_decodeNext_75 lk491 (fun _ _ _ => rfl) (hC.1 17 _ rfl) rfl ?_
    refine ev_eqI (y := nI (w)) (r12) ?_
    refine ev_if_neN 81 98 dX1_decodeNext_78 (by decide) (by omega) rfl (fun hbr => ?_) (fun hx => absurd hx ((by omega)))
    refine ev_aload_n 99 dX1_decodeNext_98 rfl rfl ?_
    refine ev_getP 102 mm_cl1 (j := 0) (Nat.le_of_ble_eq_true rfl) dX1_decodeNext_99 lk472 (fun _ _ _ => rfl) (hC.1 17 _ rfl) (a := (x + 1)) (hC.2.2.2 5 _ _ _ rfl) rfl ?_
    refine ev_bipushN 104 30 dX1_decodeNext_102 (by decide +kernel) rfl ?_
    refine ev_aload_n 105 dX1_decodeNext_104 rfl rfl ?_
    refine ev_getI 108 mm_cl1 (j := 12) (Nat.le_of_ble_eq_true rfl) dX1_decodeNext_105 lk491 (fun _ _ _ => rfl) (hC.1 17 _ rfl) rfl ?_
    refine ev_eqI (y := nI (w)) (r12) ?_
    refine ev_iaddN 109 dX1_decodeNext_108 rfl ?_
    refine ev_invVv 112 (Mc := mX10_mark) ⟨lk665, lk76, hdX10_mark, (Nat.le_of_ble_eq_true rfl), (Nat.le_of_ble_eq_true rfl)⟩ lk1060 lk663 lk664 mm_cl10 rfl dX1_decodeNext_109 (mk) rfl (hV.1 1 _ rfl) (Nat.le_of_ble_eq_true rfl) rfl rfl ?_
    refine ev_aload_n 113 dX1_decodeNext_112 rfl rfl ?_
    refine ev_aload_n 114 dX1_decodeNext_113 rfl rfl ?_
    refine ev_aload_n 115 dX1_decodeNext_114 rfl rfl ?_
    refine ev_getI 118 mm_cl1 (j := 9) (Nat.le_of_ble_eq_true rfl) dX1_decodeNext_115 lk485 (fun _ _ _ => rfl) (hC.1 17 _ rfl) rfl ?_
    refine ev_eqI (y := nI (nx)) ((by rw [am]; exact r9)) ?_
    refine ev_iconstN 119 1 dX1_decodeNext_118 rfl ?_
    refine ev_iaddN 120 dX1_decodeNext_119 rfl ?_
    refine ev_ldc 122 dX1_decodeNext_120 lk1097 rfl ?_
    refine ev_eqI (y := nI 65536) (by decide +kernel) ?_
    refine ev_iremN 123 dX1_decodeNext_122 (by omega) (by omega) (by omega) rfl ?_
    refine ev_invV 126 (Mc := mX5_first) ⟨lk1101, lk82, hdX5_first, (Nat.le_of_ble_eq_true rfl), (Nat.le_of_ble_eq_true rfl)⟩ lk1098 lk1099 lk1100 mm_cl5 rfl dX1_decodeNext_123 (hfi) rfl (hC.1 2 _ rfl) (Nat.le_of_ble_eq_true rfl) rfl rfl ?_
    refine ev_invVv 129 (Mc := mX1_repairFrom) ⟨lk1105, lk85, hdX1_repairFrom, (Nat.le_of_ble_eq_true rfl), (Nat.le_of_ble_eq_true rfl)⟩ lk1102 lk1104 lk27 mm_cl1 rfl dX1_decodeNext_126 (hd) rfl (hC.1 17 _ rfl) (Nat.le_of_ble_eq_true rfl) rfl rfl ?_
    refine ev_aload_n 130 dX1_decodeNext_129 rfl rfl ?_
    refine ev_dup 131 dX1_decodeNext_130 rfl rfl ?_
    refine ev_getI 134 mm_cl1 (j := 14) (Nat.le_of_ble_eq_true rfl) dX1_decodeNext_131 lk495 (fun _ _ _ => rfl) (hC.1 17 _ rfl) rfl ?_
    refine ev_eqI (y := (rr)) (r14) ?_
    refine ev_iconstN 135 1 dX1_decodeNext_134 rfl ?_
    refine ev_iadd 136 dX1_decodeNext_135 rfl ?_
    refine ev_putI 139 mm_cl1 (j := 14) (Nat.le_of_ble_eq_true rfl) dX1_decodeNext_136 lk495 rfl (fun _ _ _ => rfl) rfl rfl (hC.1 17 _ rfl) rfl ?_
    refine ev_le (mle_s (mle_n (mle_n (mle_s (mle_n (mle_0)))))) ?_
    exact K
  · exact lx_X1_b2n hV hC hxo r12 hw r9 hnx ht h32 hfi hd r14 K fv (Or.inr e) tf
theorem lx_X1_b2y {w nx t : Nat} {rr : Int32} {Z : mm_Z} (hV : lyV B P x) (hC : lyC B P x o) (hxo : x + 22 ≤ o) (r12 : I (o + 17) 12 = nI w) (hw : 1 ≤ w ∧ w ≤ 7) (r9 : I (o + 17) 9 = nI nx) (hnx : nx < 65536) (ht : I (x + 1) 2 = nI t) (h32 : t < 32) (ta : mm_T B ah = 104)
    (hfi : Ct g mX5_first [.ref (o + 2), .int (nI ((nx + 1) % 65536))] B (va_up (va_up I (x + 3) (va_up (I (x + 3)) t (nI (30 + w)))) (x + 1) (va_up (I (x + 1)) 2 (nI (t + 1)))) J P (some (.ref ah), B, va_up (va_up I (x + 3) (va_up (I (x + 3)) t (nI (30 + w)))) (x + 1) (va_up (I (x + 1)) 2 (nI (t + 1))), J, P))
    (hd : Ct g mX1_repairFrom [.ref (o + 17), .ref ah] B (va_up (va_up I (x + 3) (va_up (I (x + 3)) t (nI (30 + w)))) (x + 1) (va_up (I (x + 1)) 2 (nI (t + 1)))) J P (none, B, I1, J1, P)) (r14 : I1 (o + 17) 14 = rr)
    (K : Ev g mX1_decodeNext 139 [some (.ref (o + 17)), none, none, some (.int (nI 1)), none] [] B (va_up I1 (o + 17) (va_up (I1 (o + 17)) 14 (rr + nI 1))) J1 P Z) (fv : Value) (hfv : fv = .null ∨ ∃ f, fv = .ref f ∧ mm_T B f = 104) : Ev g mX1_decodeNext 54 [some (.ref (o + 17)), some (.ref (o + 2)), some fv, none, none] [] B I J P Z := by
  rcases hfv with e | ⟨f, e, tf⟩
  · exact lx_X1_b2f hV hC hxo r12 hw r9 hnx ht h32 ta hfi hd r14 K fv (Or.inl e) ta
  · exact lx_X1_b2f hV hC hxo r12 hw r9 hnx ht h32 ta hfi hd r14 K fv (Or.inr e) tf
end DY0
section DY1
variable {g : mm_G} {B : mm_B} {I Ib : mm_TI} {J : mm_TJ} {P Pb : mm_TP} {x m n R K k L nx nu n2 w tb rt r0 : Nat} {o : Nat → Nat} {fl φ : Nat → Nat → Nat} {ρ s2 : Nat → Nat} {lt : Int32} {fv : Value}
theorem dec_RN (h : RC g B I J P x m n R K o fl φ ρ) (hk : k < n) (hK : K < 600) (hR : R ≤ K) (l1 : L ≤ 250) (l2 : I (o k + 2) 1 = nI L) (l3 : I (m + 28) k = nI L) (nx1 : nx < 65536) (nx2 : I (o k + 17) 9 = nI nx) (nx3 : I (m + 36) k = nI nx) (nu1 : nu < 65536) (nu2 : I (o k + 4) 16 = nI nu) (hgo : ¬ (L = 0 ∧ nx = nu)) (sok : sl_ok L (n2, s2))
    (rt1 : rt ≤ 1) (rt2 : I (o k + 17) 7 = nI rt) (rt3 : I (m + 34) k = nI rt) (hr0 : r0 ≤ K) (r0c : I (o k + 17) 14 = nI r0) (r0m : I (m + 37) k = nI r0) (q8 : I (o k + 17) 8 = I (m + 35) k) (q17 : I (o k + 17) 17 = I (m + 40) k) (q18 : I (o k + 17) 18 = I (m + 41) k) (w1 : 1 ≤ w) (w7 : w ≤ 7) (htb : tb = 0 ∨ tb = 2) (hfv : fv = .null ∨ ∃ f, fv = .ref f ∧ mm_T B f = 104)
    (db : DBc x (o k) n2 w tb (φ k) s2 lt I Ib P Pb)
    (hno : ∀ j, j < n2 → I (m + 29) (250 * k + s2 j) ≠ nI ((nx + 1) % 65536))
    (KC : ∀ Z : mm_Z, Ev g mX1_decodeNext 54 [some (.ref (o k + 17)), some (.ref (o k + 2)), some fv, none, none] [] B Ib J Pb Z → Ct g mX1_decodeNext [.ref (o k + 17), .ref (o k + 2)] B (vz I x) J P Z)
    (KM : ∀ (I1 : mm_TI) (J1 : mm_TJ) (P1 : mm_TP), lyM B P1 m → (∀ j, j < 64 → I1 (m + j) = I (m + j)) → ∃ (v : Int32) (Mb : mm_TI), DBm m k n2 w tb s2 lt I Mb ∧ (∀ q, q < m ∨ m + 64 ≤ q → Mb q = I1 q) ∧ ∀ Z : mm_Z, Ev g mX12_decode 176 [some (.ref m), some (.int (nI k)), some (.int (nI nx)), some (.int (nI w)), some (.int v), none, none, none] [] B Mb J1 P1 Z → Ct g mX12_decode [.ref m, .int (nI k)] B I1 J1 P1 Z) : JR g mX11_decode mX12_decode [.int (nI k)] K x m B I J P := by
  obtain ⟨hV, hM, hG, hc, hgx⟩ := RG_ly h
  obtain ⟨xm, mn⟩ := RC_xm h
  have n8 := (RG_n h).1
  have hv := RC_v h hk
  have mo := hv.1.2.1
  have no := hv.1.2.2.1
  have hC := hv.1.1
  obtain ⟨vm1, vm2, vm3, vm4, L0, vm5, vm6, vm7, vm8⟩ := hv.2.2.2.2.2.2.1
  have v30 : I (o k + 30) = sg (I (m + 15)) (160 * (2 * k + 1)) 160 := vm1
  obtain ⟨L', c1, c2, c3, c4, c5⟩ := RC_l h hk
  obtain rfl : L = L' := (nI_eq (by omega) (by omega)).mp (l3.symm.trans c3)
  have sok' := sok
  obtain ⟨so1, so2, so3⟩ := sok'
  simp only at so1 so2 so3
  obtain ⟨bx, bx1, bx2, bx3, bo2, b17, bp, bpq, bq⟩ := db
  have hV1 : lyV B Pb x := lyV_ext hV (Ext_rf B) (fun q q1 q2 => bpq q (by omega))
  have hC1 : lyC B Pb x (o k) := lyC_p3 hC bpq
  have b17j : ∀ j, j ≠ 12 → j ≠ 16 → Ib (o k + 17) j = I (o k + 17) j := fun j j1 j2 => by rw [b17, va_up_n _ _ j1, va_up_n _ _ j2]
  obtain ⟨Ie, hIe⟩ : ∃ Ie, va_up (va_up Ib (x + 3) (va_up (Ib (x + 3)) tb (nI (30 + w)))) (x + 1) (va_up (Ib (x + 1)) 2 (nI (tb + 1))) = Ie := ⟨_, rfl⟩
  have ie : ∀ q, q ≠ x + 1 → q ≠ x + 3 → Ie q = Ib q := fun q q1 q2 => by rw [← hIe, va_up_n _ _ q1, va_up_n _ _ q2]
  have ie1 : Ie (x + 1) = va_up (I (x + 1)) 2 (nI (tb + 1)) := by rw [← hIe, va_up_s, bx1, bx_uu]
  have ie3 : Ie (x + 3) = va_up (mkB tb (I (x + 3))) tb (nI (30 + w)) := by rw [← hIe, va_up_n _ _ (by omega), va_up_s, bx3]
  have ie17 : Ie (o k + 17) = Ib (o k + 17) := ie _ (by omega) (by omega)
  have ieq : ∀ q, q ≠ x → q ≠ x + 1 → q ≠ x + 2 → q ≠ x + 3 → q ≠ o k + 2 → q ≠ o k + 17 → Ie q = I q := fun q q1 q2 q3 q4 q5 q6 => by rw [ie q q2 q4, bq q q1 q2 q3 q4 q5 q6]
  have hφe : ∀ j, j < n2 → Pb (o k + 3) j = some (φ k (s2 j)) ∧ mm_T B (φ k (s2 j)) = 104 := fun j hj => ⟨bp j hj, (c4 _ (so2 j hj)).2.2.1⟩
  have hle : ∀ j, j < n2 → Ie (φ k (s2 j)) 0 = I (m + 29) (250 * k + s2 j) := fun j hj => by
    have := (c4 _ (so2 j hj)).2.1
    rw [ieq _ (by omega) (by omega) (by omega) (by omega) (by omega) (by omega)]; exact (c4 _ (so2 j hj)).2.2.2.2.1
  have ie2 : Ie (o k + 2) 1 = nI n2 := by rw [ie _ (by omega) (by omega)]; exact bo2
  have i30 : Ie (o k + 30) = I (o k + 30) := ieq _ (by omega) (by omega) (by omega) (by omega) (by omega) (by omega)
  have hHz : ∀ j, 160 ≤ j → Ie (o k + 30) j = 0 := by rw [i30, v30]; exact sg_z
  have hce : st_c g Ie := st_c_lo hc hgx (fun q hq => ieq q (by omega) (by omega) (by omega) (by omega) (by omega) (by omega))
  have r14e : Ie (o k + 17) 14 = nI r0 := by rw [ie17, b17j 14 (by omega) (by omega)]; exact r0c
  have r7e : Ie (o k + 17) 7 = nI rt := by rw [ie17, b17j 7 (by omega) (by omega)]; exact rt2
  have lage : Ie (o k + 29) 3 = nI L0 := by rw [ieq _ (by omega) (by omega) (by omega) (by omega) (by omega) (by omega)]; exact vm7
  have te : Ie (x + 1) 2 = nI (tb + 1) := by rw [ie1, va_up_s]
  have fi := ct_X5_first0 (g := g) (B := B) (I := Ie) (J := J) (P := Pb) (x := x) (o := o k) (n := n2) (v := nI ((nx + 1) % 65536)) (φ := fun j => φ k (s2 j)) (lab := fun j => I (m + 29) (250 * k + s2 j)) hC1 (by omega) ie2 hφe hle hno
  obtain ⟨I', J', hd, rp⟩ := cx_X1_repN (g := g) (B := B) (I := Ie) (J := J) (P := Pb) (x := x) (o := o k) (r := r0) (rt := rt) (L := L0) (t := tb + 1) hV1 hC1 hG hce (by omega) (by omega) r14e rt1 r7e vm5 vm6 lage hHz te (by omega)
  have rp' := rp
  obtain ⟨-, -, -, -, p17, -⟩ := rp'
  have r14' : I' (o k + 17) 14 = nI r0 := by rw [p17, va_up_n _ _ (by omega), va_up_s, va_up_n _ _ (by omega)]; exact r14e
  refine rep_fin (n2 := n2) (w := w) (t := tb + 1) (rt := rt) (LL := L0) (rn := if 0 < r0 then 1 else 0) (wy := 2) (lt := lt) (q18 := I (o k + 17) 18) (st := sp_fa r0) h hk hK hR l1 l2 l3 nx1 nx2 nx3 nu1 nu2 hgo sok rt1 rt2 rt3 (by omega) vm5 vm6 (by omega) hr0 r0c r0m w1 w7 (by split <;> omega) q8 q17 ⟨?_, ?_, ?_, ?_, bp, bpq, ⟨?_, ?_, ?_, ?_, ?_⟩, ?_⟩ rp (fun Z e => KC Z (lx_X1_b2z hV1 hC1 (by omega) (by rw [b17, va_up_s]) ⟨w1, w7⟩ (by rw [b17j 9 (by omega) (by omega)]; exact nx2) nx1 (by rw [bx1, va_up_s]) (by omega) (by rw [hIe]; exact fi) (by rw [hIe]; exact hd) r14' e fv hfv)) (fun I1 J1 P1 hM1 e1 => ?_)
  · rw [va_up_n _ _ (by omega), ie _ (by omega) (by omega), bx]
  · rw [va_up_n _ _ (by omega), ie1]
  · rw [va_up_n _ _ (by omega)]; exact ie2
  · rw [va_up_n _ _ (by omega)]; exact lage
  · rw [va_up_s, va_up_n _ _ (by omega), ie17, b17, va_up_s]
  · rw [va_up_s, va_up_s]
  · rw [va_up_s, va_up_n _ _ (by omega), ie17, b17, va_up_n _ _ (by omega), va_up_s]
  · rw [va_up_s, va_up_n _ _ (by omega), ie17, b17j 18 (by omega) (by omega)]
  · intro j hj
    rw [va_up_s, va_up_n _ _ (by omega), ie17, b17j j (by omega) (by omega)]
  · intro q q1 q2 q3 q4
    rw [va_up_n _ _ q3, ieq q (by omega) (by omega) (by omega) (by omega) (by omega) (by omega)]
  · obtain ⟨v, Mb, ⟨m5, mi, m1, m2, m28, m29, m29', m30, m30', m39, mu⟩, mq, KE⟩ := KM I1 J1 P1 hM1 e1
    obtain ⟨Me, hMe⟩ : ∃ Me, va_up (va_up (va_up Mb (m + 42) (va_up (Mb (m + 42)) k (nI w))) (m + 2) (va_up (Mb (m + 2)) tb (nI (30 + w)))) m (va_up (Mb m) 5 (nI (tb + 1))) = Me := ⟨_, rfl⟩
    have me : ∀ q, q ≠ m → q ≠ m + 2 → q ≠ m + 42 → Me q = Mb q := fun q q1 q2 q3 => by rw [← hMe, va_up_n _ _ q1, va_up_n _ _ q2, va_up_n _ _ q3]
    have me0 : Me m = va_up (Mb m) 5 (nI (tb + 1)) := by rw [← hMe, va_up_s]
    have me2 : Me (m + 2) = va_up (mkB tb (I (m + 2))) tb (nI (30 + w)) := by rw [← hMe, va_up_n _ _ (by omega), va_up_s, m2]
    have me42 : Me (m + 42) = va_up (I (m + 42)) k (nI w) := by rw [← hMe, va_up_n _ _ (by omega), va_up_n _ _ (by omega), va_up_s, mu 42 (by omega) (by omega) (by omega) (by omega) (by omega) (by omega)]
    have meu : ∀ j, 3 ≤ j → j < 64 → j ≠ 28 → j ≠ 29 → j ≠ 30 → j ≠ 39 → j ≠ 42 → Me (m + j) = I (m + j) := fun j j0 j1 j2 j3 j4 j5 j6 => by rw [me _ (by omega) (by omega) (by omega), mu j j0 j1 j2 j3 j4 j5]
    have me28 : Me (m + 28) k = nI n2 := by rw [me _ (by omega) (by omega) (by omega), m28, va_up_s]
    have mle : ∀ j, j < n2 → Me (m + 29) (250 * k + j) = I (m + 29) (250 * k + s2 j) := fun j hj => by rw [me _ (by omega) (by omega) (by omega)]; exact m29 j hj
    have jf : ∀ i, i < 8 → Ie (x + 2) i = Me (m + 1) i := fun i hi => by
      rw [ie _ (by omega) (by omega), bx2, me _ (by omega) (by omega) (by omega), m1]
      unfold fnd
      rw [if_neg (by omega), if_neg (by omega)]
      by_cases c : i = w
      · rw [c, va_up_s, va_up_s, (RG_j h).2 w (by omega)]
      · rw [va_up_n _ _ c, va_up_n _ _ c]; exact (RG_j h).2 i hi
    have jt : ∀ i, i < tb + 1 → Ie (x + 3) i = Me (m + 2) i := fun i hi => by
      rw [ie3, me2]
      by_cases c : i = tb
      · rw [c, va_up_s, va_up_s]
      · rw [va_up_n _ _ c, va_up_n _ _ c]
        unfold mkB mk2
        rcases htb with e | e
        · omega
        · rw [if_neg (by omega), if_neg (by omega)]
          rcases (show i = 0 ∨ i = 1 by omega) with rfl | rfl <;> simp (disch := omega) only [va_up_s, va_up_n]
    obtain ⟨M1, Jm, rd, rpm⟩ := cx_X12_repN (g := g) (B := B) (I := Me) (J := J1) (P := P1) (m := m) (c := k) (lb := nx) (rt := rt) (r := r0) (L := L0) (t := tb + 1) hM1 (by omega) rt1 (by rw [meu 34 (by omega) (by omega) (by omega) (by omega) (by omega) (by omega) (by omega)]; exact rt3) (by omega) (by rw [meu 37 (by omega) (by omega) (by omega) (by omega) (by omega) (by omega) (by omega)]; exact r0m) (ct_X12_firstWith (lab := fun j => I (m + 29) (250 * k + s2 j)) hM1 (by omega) (by omega) me28 mle (Or.inl ⟨rfl, hno⟩)) vm5 vm6 (by rw [meu 18 (by omega) (by omega) (by omega) (by omega) (by omega) (by omega) (by omega)]; exact vm8) (by rw [me0, va_up_s]) (by omega)
    have rpm' := rpm
    obtain ⟨-, -, -, -, -, -, -, rq⟩ := rpm'
    refine ⟨v, Me, M1, Jm, ⟨?_, ?_, ⟨?_, ?_, ?_, ?_, ?_⟩, ⟨?_, ?_⟩, me42, ?_, ⟨?_, ?_⟩, ?_, ?_⟩, ?_, ?_, rpm, fun Z e => KE Z (lx_X12_b2 hM1 (by omega) ⟨w1, w7⟩ (show r0 < 2 ^ 31 by omega) (by rw [mu 37 (by omega) (by omega) (by omega) (by omega) (by omega) (by omega)]; exact r0m) rfl m5 (by omega) (by rw [hMe]; exact rd) (by rw [rq _ (by omega) (by omega) (by omega) (by omega) (by omega) (by omega), meu 37 (by omega) (by omega) (by omega) (by omega) (by omega) (by omega) (by omega)]; exact r0m) (by rw [rq _ (by omega) (by omega) (by omega) (by omega) (by omega) (by omega), meu 40 (by omega) (by omega) (by omega) (by omega) (by omega) (by omega) (by omega)]) e)⟩
    · rw [me0, va_up_s]
    · intro i i1 i2; rw [me0, va_up_n _ _ i1, mi i i1 i2]
    · rw [me _ (by omega) (by omega) (by omega), m28]
    · exact mle
    · intro i hi; rw [me _ (by omega) (by omega) (by omega)]; exact m29' i hi
    · intro i hi; rw [me _ (by omega) (by omega) (by omega)]; exact m30 i hi
    · intro i hi; rw [me _ (by omega) (by omega) (by omega)]; exact m30' i hi
    · rw [meu 18 (by omega) (by omega) (by omega) (by omega) (by omega) (by omega) (by omega)]; exact vm8
    · intro j hj; rw [meu 18 (by omega) (by omega) (by omega) (by omega) (by omega) (by omega) (by omega)]
    · rw [me _ (by omega) (by omega) (by omega), m39]
    · rw [meu 41 (by omega) (by omega) (by omega) (by omega) (by omega) (by omega) (by omega)]; exact q18.symm
    · intro j hj; rw [meu 41 (by omega) (by omega) (by omega) (by omega) (by omega) (by omega) (by omega)]
    · intro j j0 j1 j2 j3 j4 j5 j6 j7 j8
      exact meu j (by omega) (by omega) (by omega) (by omega) (by omega) (by omega) (by omega)
    · intro q hq; rw [me _ (by omega) (by omega) (by omega), mq q hq]
    · intro i hi; rw [va_up_n _ _ (by omega)]; exact jf i hi
    · intro i hi; rw [va_up_n _ _ (by omega)]; exact jt i hi
theorem dec_RU {i w' r nn : Nat} {F : Nat → Int32} (h : RC g B I J P x m n R K o fl φ ρ) (hk : k < n) (hK : K < 600) (hR : R ≤ K) (l1 : L ≤ 250) (l2 : I (o k + 2) 1 = nI L) (l3 : I (m + 28) k = nI L) (nx1 : nx < 65536) (nx2 : I (o k + 17) 9 = nI nx) (nx3 : I (m + 36) k = nI nx) (nu1 : nu < 65536) (nu2 : I (o k + 4) 16 = nI nu) (hgo : ¬ (L = 0 ∧ nx = nu)) (sok : sl_ok L (n2, s2))
    (rt1 : rt ≤ 1) (rt2 : I (o k + 17) 7 = nI rt) (rt3 : I (m + 34) k = nI rt) (hr0 : r0 ≤ K) (r0c : I (o k + 17) 14 = nI r0) (r0m : I (m + 37) k = nI r0) (q8 : I (o k + 17) 8 = I (m + 35) k) (q17 : I (o k + 17) 17 = I (m + 40) k) (q18 : I (o k + 17) 18 = I (m + 41) k) (w1 : 1 ≤ w) (w7 : w ≤ 7) (htb : tb = 0 ∨ tb = 2) (hfv : fv = .null ∨ ∃ f, fv = .ref f ∧ mm_T B f = 104)
    (db : DBc x (o k) n2 w tb (φ k) s2 lt I Ib P Pb)
    (hi : i < n2) (hi1 : I (m + 29) (250 * k + s2 i) = nI ((nx + 1) % 65536)) (hi2 : ∀ j, j < i → I (m + 29) (250 * k + s2 j) ≠ nI ((nx + 1) % 65536))
    (w6 : w' ≤ 6) (op : w' = 0 → OPr B I P m R ρ (φ k (s2 i)) r nn F) (hopC : ∀ (I0 : mm_TI) (J0 : mm_TJ) (P0 : mm_TP), P0 (φ k (s2 i)) = P (φ k (s2 i)) → (∀ r, r < R → I0 (ρ r) = I (ρ r)) → Ct g mX4_openingFinding [.ref (φ k (s2 i))] B I0 J0 P0 (some (.int (nI w')), B, I0, J0, P0))
    (hopM : ∀ (I1 : mm_TI) (J1 : mm_TJ) (P1 : mm_TP) (t : Nat), lyM B P1 m → (∀ i, i = 31 ∨ i = 32 ∨ i = 33 → I1 (m + i) = I (m + i)) → I1 m 5 = nI t → t + 1 < 64 →
      ∃ M' : Nat → Int32, (∀ i, i ≠ 5 → i < 78 ∨ 80 < i → M' i = I1 m i) ∧ (w' = 0 → M' 78 = nI r ∧ M' 79 = F 2 ∧ M' 80 = F 5) ∧ Ct g mX12_open [.ref m, .int (I (m + 30) (250 * k + s2 i) - nI 1)] B I1 J1 P1 (some (.int (nI w')), B, OPm m t w' M' I1, J1, P1)) (hus : w' = 0 → ub (F 5) < 2)
    (KC : ∀ Z : mm_Z, Ev g mX1_decodeNext 54 [some (.ref (o k + 17)), some (.ref (o k + 2)), some fv, none, none] [] B Ib J Pb Z → Ct g mX1_decodeNext [.ref (o k + 17), .ref (o k + 2)] B (vz I x) J P Z)
    (KM : ∀ (I1 : mm_TI) (J1 : mm_TJ) (P1 : mm_TP), lyM B P1 m → (∀ j, j < 64 → I1 (m + j) = I (m + j)) → ∃ (v : Int32) (Mb : mm_TI), DBm m k n2 w tb s2 lt I Mb ∧ (∀ q, q < m ∨ m + 64 ≤ q → Mb q = I1 q) ∧ ∀ Z : mm_Z, Ev g mX12_decode 176 [some (.ref m), some (.int (nI k)), some (.int (nI nx)), some (.int (nI w)), some (.int v), none, none, none] [] B Mb J1 P1 Z → Ct g mX12_decode [.ref m, .int (nI k)] B I1 J1 P1 Z) : JR g mX11_decode mX12_decode [.int (nI k)] K x m B I J P := by
  obtain ⟨hV, hM, hG, hc, hgx⟩ := RG_ly h
  obtain ⟨xm, mn⟩ := RC_xm h
  have n8 := (RG_n h).1
  have hv := RC_v h hk
  have mo := hv.1.2.1
  have no := hv.1.2.2.1
  have hC := hv.1.1
  obtain ⟨vm1, vm2, vm3, vm4, L0, vm5, vm6, vm7, vm8⟩ := hv.2.2.2.2.2.2.1
  have v30 : I (o k + 30) = sg (I (m + 15)) (160 * (2 * k + 1)) 160 := vm1
  obtain ⟨L', c1, c2, c3, c4, c5⟩ := RC_l h hk
  obtain rfl : L = L' := (nI_eq (by omega) (by omega)).mp (l3.symm.trans c3)
  have sok' := sok
  obtain ⟨so1, so2, so3⟩ := sok'
  simp only at so1 so2 so3
  obtain ⟨bx, bx1, bx2, bx3, bo2, b17, bp, bpq, bq⟩ := db
  have hV1 : lyV B Pb x := lyV_ext hV (Ext_rf B) (fun q q1 q2 => bpq q (by omega))
  have hC1 : lyC B Pb x (o k) := lyC_p3 hC bpq
  have b17j : ∀ j, j ≠ 12 → j ≠ 16 → Ib (o k + 17) j = I (o k + 17) j := fun j j1 j2 => by rw [b17, va_up_n _ _ j1, va_up_n _ _ j2]
  obtain ⟨Ie, hIe⟩ : ∃ Ie, va_up (va_up Ib (x + 3) (va_up (Ib (x + 3)) tb (nI (30 + w)))) (x + 1) (va_up (Ib (x + 1)) 2 (nI (tb + 1))) = Ie := ⟨_, rfl⟩
  have ie : ∀ q, q ≠ x + 1 → q ≠ x + 3 → Ie q = Ib q := fun q q1 q2 => by rw [← hIe, va_up_n _ _ q1, va_up_n _ _ q2]
  have ie1 : Ie (x + 1) = va_up (I (x + 1)) 2 (nI (tb + 1)) := by rw [← hIe, va_up_s, bx1, bx_uu]
  have ie3 : Ie (x + 3) = va_up (mkB tb (I (x + 3))) tb (nI (30 + w)) := by rw [← hIe, va_up_n _ _ (by omega), va_up_s, bx3]
  have ie17 : Ie (o k + 17) = Ib (o k + 17) := ie _ (by omega) (by omega)
  have ieq : ∀ q, q ≠ x → q ≠ x + 1 → q ≠ x + 2 → q ≠ x + 3 → q ≠ o k + 2 → q ≠ o k + 17 → Ie q = I q := fun q q1 q2 q3 q4 q5 q6 => by rw [ie q q2 q4, bq q q1 q2 q3 q4 q5 q6]
  have hφe : ∀ j, j < n2 → Pb (o k + 3) j = some (φ k (s2 j)) ∧ mm_T B (φ k (s2 j)) = 104 := fun j hj => ⟨bp j hj, (c4 _ (so2 j hj)).2.2.1⟩
  have hle : ∀ j, j < n2 → Ie (φ k (s2 j)) 0 = I (m + 29) (250 * k + s2 j) := fun j hj => by
    have := (c4 _ (so2 j hj)).2.1
    rw [ieq _ (by omega) (by omega) (by omega) (by omega) (by omega) (by omega)]; exact (c4 _ (so2 j hj)).2.2.2.2.1
  have ie2 : Ie (o k + 2) 1 = nI n2 := by rw [ie _ (by omega) (by omega)]; exact bo2
  have i30 : Ie (o k + 30) = I (o k + 30) := ieq _ (by omega) (by omega) (by omega) (by omega) (by omega) (by omega)
  have hHz : ∀ j, 160 ≤ j → Ie (o k + 30) j = 0 := by rw [i30, v30]; exact sg_z
  have hce : st_c g Ie := st_c_lo hc hgx (fun q hq => ieq q (by omega) (by omega) (by omega) (by omega) (by omega) (by omega))
  have r14e : Ie (o k + 17) 14 = nI r0 := by rw [ie17, b17j 14 (by omega) (by omega)]; exact r0c
  have r7e : Ie (o k + 17) 7 = nI rt := by rw [ie17, b17j 7 (by omega) (by omega)]; exact rt2
  have lage : Ie (o k + 29) 3 = nI L0 := by rw [ieq _ (by omega) (by omega) (by omega) (by omega) (by omega) (by omega)]; exact vm7
  have te : Ie (x + 1) 2 = nI (tb + 1) := by rw [ie1, va_up_s]
  obtain ⟨f1, f2, f3⟩ := c4 _ (so2 i hi)
  have tf := f3.1
  have tg : ∀ j, j < 33 → mm_T B (o k + j) ≠ 201 ∧ mm_T B (o k + j) ≠ 202 := fun j hj => by have := VC_tg hv hj; exact ⟨this.2.1, this.2.2.1⟩
  have rne : ∀ r, r < R → m + 64 ≤ ρ r ∧ ∀ j, j < 33 → ρ r ≠ o k + j := fun r hr => by
    have t := RC_row h hr
    exact ⟨t.1, fun j hj e => by have u := tg j hj; rw [← e] at u; omega⟩
  have fi := ct_X5_first1 (g := g) (B := B) (I := Ie) (J := J) (P := Pb) (x := x) (o := o k) (n := n2) (i := i) (v := nI ((nx + 1) % 65536)) (φ := fun j => φ k (s2 j)) (lab := fun j => I (m + 29) (250 * k + s2 j)) hC1 (by omega) ie2 hφe hle hi hi1 hi2
  obtain ⟨I', J', hd, rp⟩ := cx_X1_repU (g := g) (B := B) (I := Ie) (J := J) (P := Pb) (x := x) (o := o k) (f := φ k (s2 i)) (q := ρ r) (r := r0) (rt := rt) (L := L0) (t := tb + 1) (w := w') (n := nn) (bt := fun j => ub (F j)) hV1 hC1 hG hce (by omega) (by omega) r14e rt1 r7e vm5 vm6 lage hHz te (by omega) tf w6 (fun I0 e => hopC I0 J Pb (bpq _ (by omega)) (fun r hr => by
      obtain ⟨a, b⟩ := rne r hr
      have b2 := b 2 (by omega)
      have b17 := b 17 (by omega)
      rw [e _ (by omega) (by omega) b17, ieq _ (by omega) (by omega) (by omega) (by omega) b2 b17])) (fun e => by
      obtain ⟨rR, rP, rT, rN, rn64, rF, rFm, rb8, rop⟩ := op e
      obtain ⟨n6, -⟩ := sp_op_0 rn64 rb8 rop
      obtain ⟨a, b⟩ := rne r rR
      have b2 := b 2 (by omega)
      have b17 := b 17 (by omega)
      exact ⟨rT, rN, rn64, n6, by rw [bpq _ (by omega)]; exact rP, fun j hj => by rw [ieq _ (by omega) (by omega) (by omega) (by omega) b2 b17, rF j hj], hus e, by omega, b17⟩)
  have rp' := rp
  obtain ⟨-, -, -, -, p17, -⟩ := rp'
  obtain ⟨Iq, hIq⟩ : ∃ Iq, OPc x (tb + 1) w' (va_up Ie (o k + 17) (va_up (Ie (o k + 17)) 13 (nI 2))) = Iq := ⟨_, rfl⟩
  rw [hIq] at rp p17
  have iq17 : Iq (o k + 17) = va_up (Ie (o k + 17)) 13 (nI 2) := by rw [← hIq, OPc_o (by omega) (by omega) (by omega), va_up_s]
  have iq : ∀ q, q ≠ x + 1 → q ≠ x + 2 → q ≠ x + 3 → q ≠ o k + 17 → Iq q = Ie q := fun q q1 q2 q3 q4 => by rw [← hIq, OPc_o q1 q2 q3, va_up_n _ _ q4]
  have r14' : I' (o k + 17) 14 = nI r0 := by rw [p17, va_up_n _ _ (by omega), iq17, va_up_n _ _ (by omega)]; exact r14e
  refine rep_fin (n2 := n2) (w := w) (t := tb + 1 + 2) (rt := rt) (LL := L0) (rn := if 0 < r0 then 1 else 0) (wy := 2) (lt := lt) (q18 := I (o k + 17) 18) (st := sp_fa r0) h hk hK hR l1 l2 l3 nx1 nx2 nx3 nu1 nu2 hgo sok rt1 rt2 rt3 (by omega) vm5 vm6 (by omega) hr0 r0c r0m w1 w7 (by split <;> omega) q8 q17 ⟨?_, ?_, ?_, ?_, bp, bpq, ⟨?_, ?_, ?_, ?_, ?_⟩, ?_⟩ rp (fun Z e => KC Z (lx_X1_b2y hV1 hC1 (by omega) (by rw [b17, va_up_s]) ⟨w1, w7⟩ (by rw [b17j 9 (by omega) (by omega)]; exact nx2) nx1 (by rw [bx1, va_up_s]) (by omega) tf (by rw [hIe]; exact fi) (by rw [hIe]; exact hd) r14' e fv hfv)) (fun I1 J1 P1 hM1 e1 => ?_)
  · rw [iq _ (by omega) (by omega) (by omega) (by omega), ie _ (by omega) (by omega), bx]
  · rw [← hIq, OPc_1, va_up_n _ _ (by omega), ie1, bx_uu]
  · rw [iq _ (by omega) (by omega) (by omega) (by omega)]; exact ie2
  · rw [iq _ (by omega) (by omega) (by omega) (by omega)]; exact lage
  · rw [iq17, va_up_n _ _ (by omega), ie17, b17, va_up_s]
  · rw [iq17, va_up_s]
  · rw [iq17, va_up_n _ _ (by omega), ie17, b17, va_up_n _ _ (by omega), va_up_s]
  · rw [iq17, va_up_n _ _ (by omega), ie17, b17j 18 (by omega) (by omega)]
  · intro j hj
    rw [iq17, va_up_n _ _ (by omega), ie17, b17j j (by omega) (by omega)]
  · intro q q1 q2 q3 q4
    rw [iq q (by omega) (by omega) (by omega) (by omega), ieq q (by omega) (by omega) (by omega) (by omega) (by omega) (by omega)]
  · obtain ⟨v, Mb, ⟨m5, mi, m1, m2, m28, m29, m29', m30, m30', m39, mu⟩, mq, KE⟩ := KM I1 J1 P1 hM1 e1
    obtain ⟨Me, hMe⟩ : ∃ Me, va_up (va_up (va_up Mb (m + 42) (va_up (Mb (m + 42)) k (nI w))) (m + 2) (va_up (Mb (m + 2)) tb (nI (30 + w)))) m (va_up (Mb m) 5 (nI (tb + 1))) = Me := ⟨_, rfl⟩
    have me : ∀ q, q ≠ m → q ≠ m + 2 → q ≠ m + 42 → Me q = Mb q := fun q q1 q2 q3 => by rw [← hMe, va_up_n _ _ q1, va_up_n _ _ q2, va_up_n _ _ q3]
    have me0 : Me m = va_up (Mb m) 5 (nI (tb + 1)) := by rw [← hMe, va_up_s]
    have me2 : Me (m + 2) = va_up (mkB tb (I (m + 2))) tb (nI (30 + w)) := by rw [← hMe, va_up_n _ _ (by omega), va_up_s, m2]
    have me42 : Me (m + 42) = va_up (I (m + 42)) k (nI w) := by rw [← hMe, va_up_n _ _ (by omega), va_up_n _ _ (by omega), va_up_s, mu 42 (by omega) (by omega) (by omega) (by omega) (by omega) (by omega)]
    have meu : ∀ j, 3 ≤ j → j < 64 → j ≠ 28 → j ≠ 29 → j ≠ 30 → j ≠ 39 → j ≠ 42 → Me (m + j) = I (m + j) := fun j j0 j1 j2 j3 j4 j5 j6 => by rw [me _ (by omega) (by omega) (by omega), mu j j0 j1 j2 j3 j4 j5]
    have me28 : Me (m + 28) k = nI n2 := by rw [me _ (by omega) (by omega) (by omega), m28, va_up_s]
    have mle : ∀ j, j < n2 → Me (m + 29) (250 * k + j) = I (m + 29) (250 * k + s2 j) := fun j hj => by rw [me _ (by omega) (by omega) (by omega)]; exact m29 j hj
    have jf : ∀ i, i < 8 → Ie (x + 2) i = Me (m + 1) i := fun i hi => by
      rw [ie _ (by omega) (by omega), bx2, me _ (by omega) (by omega) (by omega), m1]
      unfold fnd
      rw [if_neg (by omega), if_neg (by omega)]
      by_cases c : i = w
      · rw [c, va_up_s, va_up_s, (RG_j h).2 w (by omega)]
      · rw [va_up_n _ _ c, va_up_n _ _ c]; exact (RG_j h).2 i hi
    have jt : ∀ i, i < tb + 1 → Ie (x + 3) i = Me (m + 2) i := fun i hi => by
      rw [ie3, me2]
      by_cases c : i = tb
      · rw [c, va_up_s, va_up_s]
      · rw [va_up_n _ _ c, va_up_n _ _ c]
        unfold mkB mk2
        rcases htb with e | e
        · omega
        · rw [if_neg (by omega), if_neg (by omega)]
          rcases (show i = 0 ∨ i = 1 by omega) with rfl | rfl <;> simp (disch := omega) only [va_up_s, va_up_n]
    obtain ⟨M', o1, o2, o3⟩ := hopM Me J1 P1 (tb + 1) hM1 (fun j hj => meu j (by omega) (by omega) (by omega) (by omega) (by omega) (by omega) (by omega)) (by rw [me0, va_up_s]) (by omega)
    obtain ⟨Mo, hMo⟩ : ∃ Mo, OPm m (tb + 1) w' M' Me = Mo := ⟨_, rfl⟩
    rw [hMo] at o3
    have mo1 : ∀ q, q ≠ m → q ≠ m + 1 → q ≠ m + 2 → Mo q = Me q := fun q q1 q2 q3 => by rw [← hMo]; unfold OPm; rw [va_up_n _ _ q2, va_up_n _ _ q1, va_up_n _ _ q3]
    have mom : Mo m = va_up M' 5 (nI (tb + 1 + 2)) := by rw [← hMo]; unfold OPm; rw [va_up_n _ _ (by omega), va_up_s]
    have mof : Mo (m + 1) = fnd w' (Me (m + 1)) := by rw [← hMo]; unfold OPm; rw [va_up_s]
    have mo2 : Mo (m + 2) = mk2 (tb + 1) (Me (m + 2)) := by rw [← hMo]; unfold OPm; rw [va_up_n _ _ (by omega), va_up_n _ _ (by omega), va_up_s]
    have e30 : Me (m + 30) (250 * k + i) = I (m + 30) (250 * k + s2 i) := by rw [me _ (by omega) (by omega) (by omega)]; exact m30 i hi
    have fw := ct_X12_firstWith (g := g) (B := B) (I := Me) (J := J1) (P := P1) (lab := fun j => I (m + 29) (250 * k + s2 j)) hM1 (show k < 8 by omega) (show n2 ≤ 250 by omega) me28 mle (Or.inr ⟨i, hi, rfl, hi1, hi2⟩)
    have jf2 : ∀ i, i < 8 → fnd w' (Ie (x + 2)) i = Mo (m + 1) i := fun i hi => by
      rw [mof]
      unfold fnd
      by_cases c0 : w' = 0
      · rw [if_pos c0, if_pos c0]; exact jf i hi
      · rw [if_neg c0, if_neg c0]
        by_cases c : i = w'
        · rw [c, va_up_s, va_up_s, jf _ (by omega)]
        · rw [va_up_n _ _ c, va_up_n _ _ c]; exact jf i hi
    have jt2 : ∀ i, i < tb + 1 + 2 → mk2 (tb + 1) (Ie (x + 3)) i = Mo (m + 2) i := fun i hi => by
      rw [mo2]
      unfold mk2
      by_cases c1 : i = tb + 1 + 1
      · rw [c1, va_up_s, va_up_s]
      · rw [va_up_n _ _ c1, va_up_n _ _ c1]
        by_cases c : i = tb + 1
        · rw [c, va_up_s, va_up_s]
        · rw [va_up_n _ _ c, va_up_n _ _ c]; exact jt i (by omega)
    obtain ⟨M1, Jm, rd, rpm⟩ := cx_X12_repU (g := g) (B := B) (I := Me) (J := J1) (P := P1) (m := m) (c := k) (lb := nx) (rt := rt) (r := r0) (L := L0) (t := tb + 1 + 2) (i := i) (w := w') (mo := F 5) (I1 := Mo) hM1 (by omega) rt1 (by rw [meu 34 (by omega) (by omega) (by omega) (by omega) (by omega) (by omega) (by omega)]; exact rt3) (by omega) (by rw [meu 37 (by omega) (by omega) (by omega) (by omega) (by omega) (by omega) (by omega)]; exact r0m) (by omega) fw w6 (by rw [e30]; exact o3) (fun e => by
      obtain ⟨rR, rP, rT, rN, rn64, rF, rFm, rb8, rop⟩ := op e
      obtain ⟨n6, bd, mo', hF2, hF5, hbn, hbd⟩ := sp_op_0 rn64 rb8 rop
      have u := hus e
      rw [hF5, ub_nI (by omega)] at u
      refine ⟨by rw [mom, va_up_n _ _ (by omega), (o2 e).2.2], ?_⟩
      rw [hF5]; exact nI_lt (by omega) (by omega)) vm5 vm6 (by rw [mo1 _ (by omega) (by omega) (by omega), meu 18 (by omega) (by omega) (by omega) (by omega) (by omega) (by omega) (by omega)]; exact vm8) (by rw [mom, va_up_s]) (by omega)
    have rpm' := rpm
    obtain ⟨-, -, -, -, -, -, -, rq⟩ := rpm'
    refine ⟨v, Mo, M1, Jm, ⟨?_, ?_, ⟨?_, ?_, ?_, ?_, ?_⟩, ⟨?_, ?_⟩, ?_, ?_, ⟨?_, ?_⟩, ?_, ?_⟩, ?_, ?_, rpm, fun Z e => KE Z (lx_X12_b2 hM1 (by omega) ⟨w1, w7⟩ (show r0 < 2 ^ 31 by omega) (by rw [mu 37 (by omega) (by omega) (by omega) (by omega) (by omega) (by omega)]; exact r0m) rfl m5 (by omega) (by rw [hMe]; exact rd) (by rw [rq _ (by omega) (by omega) (by omega) (by omega) (by omega) (by omega), mo1 _ (by omega) (by omega) (by omega), meu 37 (by omega) (by omega) (by omega) (by omega) (by omega) (by omega) (by omega)]; exact r0m) (by rw [rq _ (by omega) (by omega) (by omega) (by omega) (by omega) (by omega), mo1 _ (by omega) (by omega) (by omega), meu 40 (by omega) (by omega) (by omega) (by omega) (by omega) (by omega) (by omega)]) e)⟩
    · rw [mom, va_up_s]
    · intro i i1 i2; rw [mom, va_up_n _ _ i1, o1 i i1 (by omega), me0, va_up_n _ _ i1, mi i i1 i2]
    · rw [mo1 _ (by omega) (by omega) (by omega), me _ (by omega) (by omega) (by omega), m28]
    · intro i hi; rw [mo1 _ (by omega) (by omega) (by omega)]; exact mle i hi
    · intro i hi; rw [mo1 _ (by omega) (by omega) (by omega), me _ (by omega) (by omega) (by omega)]; exact m29' i hi
    · intro i hi; rw [mo1 _ (by omega) (by omega) (by omega), me _ (by omega) (by omega) (by omega)]; exact m30 i hi
    · intro i hi; rw [mo1 _ (by omega) (by omega) (by omega), me _ (by omega) (by omega) (by omega)]; exact m30' i hi
    · rw [mo1 _ (by omega) (by omega) (by omega), meu 18 (by omega) (by omega) (by omega) (by omega) (by omega) (by omega) (by omega)]; exact vm8
    · intro j hj; rw [mo1 _ (by omega) (by omega) (by omega), meu 18 (by omega) (by omega) (by omega) (by omega) (by omega) (by omega) (by omega)]
    · rw [mo1 _ (by omega) (by omega) (by omega)]; exact me42
    · rw [mo1 _ (by omega) (by omega) (by omega), me _ (by omega) (by omega) (by omega), m39]
    · rw [mo1 _ (by omega) (by omega) (by omega), meu 41 (by omega) (by omega) (by omega) (by omega) (by omega) (by omega) (by omega)]; exact q18.symm
    · intro j hj; rw [mo1 _ (by omega) (by omega) (by omega), meu 41 (by omega) (by omega) (by omega) (by omega) (by omega) (by omega) (by omega)]
    · intro j j0 j1 j2 j3 j4 j5 j6 j7 j8
      rw [mo1 _ (by omega) (by omega) (by omega)]; exact meu j (by omega) (by omega) (by omega) (by omega) (by omega) (by omega) (by omega)
    · intro q hq; rw [mo1 _ (by omega) (by omega) (by omega), me _ (by omega) (by omega) (by omega), mq q hq]
    · intro i hi
      rw [← jf2 i hi, ← hIq]; unfold OPc fnd; rw [va_up_n _ _ (by omega), va_up_n _ _ (by omega), va_up_s, va_up_n _ _ (by omega)]
    · intro i hi
      rw [← jt2 i hi, ← hIq]; unfold OPc mk2; rw [va_up_n _ _ (by omega), va_up_s, va_up_n Ie _ (show x + 3 ≠ o k + 17 by omega)]
theorem dec_RM {i r nn : Nat} {F : Nat → Int32} (h : RC g B I J P x m n R K o fl φ ρ) (hk : k < n) (hK : K < 600) (hR : R ≤ K) (l1 : L ≤ 250) (l2 : I (o k + 2) 1 = nI L) (l3 : I (m + 28) k = nI L) (nx1 : nx < 65536) (nx2 : I (o k + 17) 9 = nI nx) (nx3 : I (m + 36) k = nI nx) (nu1 : nu < 65536) (nu2 : I (o k + 4) 16 = nI nu) (hgo : ¬ (L = 0 ∧ nx = nu)) (sok : sl_ok L (n2, s2))
    (rt1 : rt ≤ 1) (rt2 : I (o k + 17) 7 = nI rt) (rt3 : I (m + 34) k = nI rt) (hr0 : r0 ≤ K) (r0c : I (o k + 17) 14 = nI r0) (r0m : I (m + 37) k = nI r0) (q8 : I (o k + 17) 8 = I (m + 35) k) (q17 : I (o k + 17) 17 = I (m + 40) k) (q18 : I (o k + 17) 18 = I (m + 41) k) (w1 : 1 ≤ w) (w7 : w ≤ 7) (htb : tb = 0 ∨ tb = 2) (hfv : fv = .null ∨ ∃ f, fv = .ref f ∧ mm_T B f = 104)
    (db : DBc x (o k) n2 w tb (φ k) s2 lt I Ib P Pb)
    (hi : i < n2) (hi1 : I (m + 29) (250 * k + s2 i) = nI ((nx + 1) % 65536)) (hi2 : ∀ j, j < i → I (m + 29) (250 * k + s2 j) ≠ nI ((nx + 1) % 65536))
    (op : (0 : Nat) = 0 → OPr B I P m R ρ (φ k (s2 i)) r nn F) (hopC : ∀ (I0 : mm_TI) (J0 : mm_TJ) (P0 : mm_TP), P0 (φ k (s2 i)) = P (φ k (s2 i)) → (∀ r, r < R → I0 (ρ r) = I (ρ r)) → Ct g mX4_openingFinding [.ref (φ k (s2 i))] B I0 J0 P0 (some (.int (nI 0)), B, I0, J0, P0))
    (hopM : ∀ (I1 : mm_TI) (J1 : mm_TJ) (P1 : mm_TP) (t : Nat), lyM B P1 m → (∀ i, i = 31 ∨ i = 32 ∨ i = 33 → I1 (m + i) = I (m + i)) → I1 m 5 = nI t → t + 1 < 64 →
      ∃ M' : Nat → Int32, (∀ i, i ≠ 5 → i < 78 ∨ 80 < i → M' i = I1 m i) ∧ ((0 : Nat) = 0 → M' 78 = nI r ∧ M' 79 = F 2 ∧ M' 80 = F 5) ∧ Ct g mX12_open [.ref m, .int (I (m + 30) (250 * k + s2 i) - nI 1)] B I1 J1 P1 (some (.int (nI 0)), B, OPm m t 0 M' I1, J1, P1)) (hus : 2 ≤ ub (F 5))
    (KC : ∀ Z : mm_Z, Ev g mX1_decodeNext 54 [some (.ref (o k + 17)), some (.ref (o k + 2)), some fv, none, none] [] B Ib J Pb Z → Ct g mX1_decodeNext [.ref (o k + 17), .ref (o k + 2)] B (vz I x) J P Z)
    (KM : ∀ (I1 : mm_TI) (J1 : mm_TJ) (P1 : mm_TP), lyM B P1 m → (∀ j, j < 64 → I1 (m + j) = I (m + j)) → ∃ (v : Int32) (Mb : mm_TI), DBm m k n2 w tb s2 lt I Mb ∧ (∀ q, q < m ∨ m + 64 ≤ q → Mb q = I1 q) ∧ ∀ Z : mm_Z, Ev g mX12_decode 176 [some (.ref m), some (.int (nI k)), some (.int (nI nx)), some (.int (nI w)), some (.int v), none, none, none] [] B Mb J1 P1 Z → Ct g mX12_decode [.ref m, .int (nI k)] B I1 J1 P1 Z) : JR g mX11_decode mX12_decode [.int (nI k)] K x m B I J P := by
  obtain ⟨hV, hM, hG, hc, hgx⟩ := RG_ly h
  obtain ⟨xm, mn⟩ := RC_xm h
  have n8 := (RG_n h).1
  have hv := RC_v h hk
  have mo := hv.1.2.1
  have no := hv.1.2.2.1
  have hC := hv.1.1
  obtain ⟨vm1, vm2, vm3, vm4, L0, vm5, vm6, vm7, vm8⟩ := hv.2.2.2.2.2.2.1
  have v30 : I (o k + 30) = sg (I (m + 15)) (160 * (2 * k + 1)) 160 := vm1
  obtain ⟨L', c1, c2, c3, c4, c5⟩ := RC_l h hk
  obtain rfl : L = L' := (nI_eq (by omega) (by omega)).mp (l3.symm.trans c3)
  have sok' := sok
  obtain ⟨so1, so2, so3⟩ := sok'
  simp only at so1 so2 so3
  obtain ⟨bx, bx1, bx2, bx3, bo2, b17, bp, bpq, bq⟩ := db
  have hV1 : lyV B Pb x := lyV_ext hV (Ext_rf B) (fun q q1 q2 => bpq q (by omega))
  have hC1 : lyC B Pb x (o k) := lyC_p3 hC bpq
  have b17j : ∀ j, j ≠ 12 → j ≠ 16 → Ib (o k + 17) j = I (o k + 17) j := fun j j1 j2 => by rw [b17, va_up_n _ _ j1, va_up_n _ _ j2]
  obtain ⟨Ie, hIe⟩ : ∃ Ie, va_up (va_up Ib (x + 3) (va_up (Ib (x + 3)) tb (nI (30 + w)))) (x + 1) (va_up (Ib (x + 1)) 2 (nI (tb + 1))) = Ie := ⟨_, rfl⟩
  have ie : ∀ q, q ≠ x + 1 → q ≠ x + 3 → Ie q = Ib q := fun q q1 q2 => by rw [← hIe, va_up_n _ _ q1, va_up_n _ _ q2]
  have ie1 : Ie (x + 1) = va_up (I (x + 1)) 2 (nI (tb + 1)) := by rw [← hIe, va_up_s, bx1, bx_uu]
  have ie3 : Ie (x + 3) = va_up (mkB tb (I (x + 3))) tb (nI (30 + w)) := by rw [← hIe, va_up_n _ _ (by omega), va_up_s, bx3]
  have ie17 : Ie (o k + 17) = Ib (o k + 17) := ie _ (by omega) (by omega)
  have ieq : ∀ q, q ≠ x → q ≠ x + 1 → q ≠ x + 2 → q ≠ x + 3 → q ≠ o k + 2 → q ≠ o k + 17 → Ie q = I q := fun q q1 q2 q3 q4 q5 q6 => by rw [ie q q2 q4, bq q q1 q2 q3 q4 q5 q6]
  have hφe : ∀ j, j < n2 → Pb (o k + 3) j = some (φ k (s2 j)) ∧ mm_T B (φ k (s2 j)) = 104 := fun j hj => ⟨bp j hj, (c4 _ (so2 j hj)).2.2.1⟩
  have hle : ∀ j, j < n2 → Ie (φ k (s2 j)) 0 = I (m + 29) (250 * k + s2 j) := fun j hj => by
    have := (c4 _ (so2 j hj)).2.1
    rw [ieq _ (by omega) (by omega) (by omega) (by omega) (by omega) (by omega)]; exact (c4 _ (so2 j hj)).2.2.2.2.1
  have ie2 : Ie (o k + 2) 1 = nI n2 := by rw [ie _ (by omega) (by omega)]; exact bo2
  have i30 : Ie (o k + 30) = I (o k + 30) := ieq _ (by omega) (by omega) (by omega) (by omega) (by omega) (by omega)
  have hHz : ∀ j, 160 ≤ j → Ie (o k + 30) j = 0 := by rw [i30, v30]; exact sg_z
  have hce : st_c g Ie := st_c_lo hc hgx (fun q hq => ieq q (by omega) (by omega) (by omega) (by omega) (by omega) (by omega))
  have r14e : Ie (o k + 17) 14 = nI r0 := by rw [ie17, b17j 14 (by omega) (by omega)]; exact r0c
  have r7e : Ie (o k + 17) 7 = nI rt := by rw [ie17, b17j 7 (by omega) (by omega)]; exact rt2
  have lage : Ie (o k + 29) 3 = nI L0 := by rw [ieq _ (by omega) (by omega) (by omega) (by omega) (by omega) (by omega)]; exact vm7
  have te : Ie (x + 1) 2 = nI (tb + 1) := by rw [ie1, va_up_s]
  obtain ⟨f1, f2, f3⟩ := c4 _ (so2 i hi)
  have tf := f3.1
  have tg : ∀ j, j < 33 → mm_T B (o k + j) ≠ 201 ∧ mm_T B (o k + j) ≠ 202 := fun j hj => by have := VC_tg hv hj; exact ⟨this.2.1, this.2.2.1⟩
  have rne : ∀ r, r < R → m + 64 ≤ ρ r ∧ ∀ j, j < 33 → ρ r ≠ o k + j := fun r hr => by
    have t := RC_row h hr
    exact ⟨t.1, fun j hj e => by have u := tg j hj; rw [← e] at u; omega⟩
  have fi := ct_X5_first1 (g := g) (B := B) (I := Ie) (J := J) (P := Pb) (x := x) (o := o k) (n := n2) (i := i) (v := nI ((nx + 1) % 65536)) (φ := fun j => φ k (s2 j)) (lab := fun j => I (m + 29) (250 * k + s2 j)) hC1 (by omega) ie2 hφe hle hi hi1 hi2
  obtain ⟨rR, rP, rT, rN, rn64, rF, rFm, rb8, rop⟩ := op rfl
  obtain ⟨n6, bd, mo', hF2, hF5, hbn, hbd⟩ := sp_op_0 rn64 rb8 rop
  have us := hus
  rw [hF5, ub_nI (by omega)] at us
  obtain ⟨ra, rb⟩ := rne r rR
  have rb2 := rb 2 (by omega)
  have rb17 := rb 17 (by omega)
  have rb29 := rb 29 (by omega)
  obtain ⟨I', J', hd, rp⟩ := cx_X1_repM (g := g) (B := B) (I := Ie) (J := J) (P := Pb) (x := x) (o := o k) (f := φ k (s2 i)) (q := ρ r) (r := r0) (rt := rt) (t := tb + 1) (n := nn) (bd := bd) (F := F) (bt := fun j => ub (F j)) hV1 hC1 hG hce (by omega) (by omega) r14e rt1 r7e hHz te (by omega) tf (fun I0 e => hopC I0 J Pb (bpq _ (by omega)) (fun r hr => by
      obtain ⟨a, b⟩ := rne r hr
      have b2 := b 2 (by omega)
      have b17 := b 17 (by omega)
      rw [e _ (by omega) (by omega) b17, ieq _ (by omega) (by omega) (by omega) (by omega) b2 b17])) rT rN rn64 n6 (by rw [bpq _ (by omega)]; exact rP) (fun j hj => by rw [ieq _ (by omega) (by omega) (by omega) (by omega) rb2 rb17, rF j hj]) hus (by rw [hF2, ub_nI (by omega)]) (by omega) (by omega) rb17 rb29
  obtain ⟨LL, hLL⟩ : ∃ LL, 20 + ub (F (6 + bd)) % 128 = LL := ⟨_, rfl⟩
  obtain ⟨st, hst⟩ : ∃ st, nI (5 * (ub (F (6 + bd + 1)) % 8)) = st := ⟨_, rfl⟩
  simp only [hLL, hst] at rp
  have rp' := rp
  obtain ⟨-, -, -, -, p17, -⟩ := rp'
  obtain ⟨Iq, hIq⟩ : ∃ Iq, va_up (va_up (OPc x (tb + 1) 0 Ie) (o k + 29) (va_up (Ie (o k + 29)) 3 (nI LL))) (o k + 17) (va_up (va_up (Ie (o k + 17)) 13 (nI 3)) 18 (Ie (o k + 17) 18 + nI 1)) = Iq := ⟨_, rfl⟩
  rw [hIq] at rp p17
  have iq17 : Iq (o k + 17) = va_up (va_up (Ie (o k + 17)) 13 (nI 3)) 18 (Ie (o k + 17) 18 + nI 1) := by rw [← hIq, va_up_s]
  have iq : ∀ q, q ≠ x + 1 → q ≠ x + 2 → q ≠ x + 3 → q ≠ o k + 17 → q ≠ o k + 29 → Iq q = Ie q := fun q q1 q2 q3 q4 q5 => by rw [← hIq, va_up_n _ _ q4, va_up_n _ _ q5, OPc_o q1 q2 q3]
  have r14' : I' (o k + 17) 14 = nI r0 := by rw [p17, va_up_n _ _ (by omega), iq17, va_up_n _ _ (by omega), va_up_n _ _ (by omega)]; exact r14e
  refine rep_fin (n2 := n2) (w := w) (t := tb + 1 + 2) (rt := rt) (LL := LL) (rn := if 0 < r0 then 1 else 0) (wy := 3) (lt := lt) (q18 := I (o k + 17) 18 + nI 1) (st := st) h hk hK hR l1 l2 l3 nx1 nx2 nx3 nu1 nu2 hgo sok rt1 rt2 rt3 (by omega) (by omega) (by omega) (by omega) hr0 r0c r0m w1 w7 (by split <;> omega) q8 q17 ⟨?_, ?_, ?_, ?_, bp, bpq, ⟨?_, ?_, ?_, ?_, ?_⟩, ?_⟩ rp (fun Z e => KC Z (lx_X1_b2y hV1 hC1 (by omega) (by rw [b17, va_up_s]) ⟨w1, w7⟩ (by rw [b17j 9 (by omega) (by omega)]; exact nx2) nx1 (by rw [bx1, va_up_s]) (by omega) tf (by rw [hIe]; exact fi) (by rw [hIe]; exact hd) r14' e fv hfv)) (fun I1 J1 P1 hM1 e1 => ?_)
  · rw [iq _ (by omega) (by omega) (by omega) (by omega) (by omega), ie _ (by omega) (by omega), bx]
  · rw [← hIq, va_up_n _ _ (by omega), va_up_n _ _ (by omega), OPc_1, ie1, bx_uu]
  · rw [iq _ (by omega) (by omega) (by omega) (by omega) (by omega)]; exact ie2
  · rw [← hIq, va_up_n _ _ (by omega), va_up_s, va_up_s]
  · rw [iq17, va_up_n _ _ (by omega), va_up_n _ _ (by omega), ie17, b17, va_up_s]
  · rw [iq17, va_up_n _ _ (by omega), va_up_s]
  · rw [iq17, va_up_n _ _ (by omega), va_up_n _ _ (by omega), ie17, b17, va_up_n _ _ (by omega), va_up_s]
  · rw [iq17, va_up_s, ie17, b17j 18 (by omega) (by omega)]
  · intro j hj
    rw [iq17, va_up_n _ _ (by omega), va_up_n _ _ (by omega), ie17, b17j j (by omega) (by omega)]
  · intro q q1 q2 q3 q4
    rw [iq q (by omega) (by omega) (by omega) (by omega) (by omega), ieq q (by omega) (by omega) (by omega) (by omega) (by omega) (by omega)]
  · obtain ⟨v, Mb, ⟨m5, mi, m1, m2, m28, m29, m29', m30, m30', m39, mu⟩, mq, KE⟩ := KM I1 J1 P1 hM1 e1
    obtain ⟨Me, hMe⟩ : ∃ Me, va_up (va_up (va_up Mb (m + 42) (va_up (Mb (m + 42)) k (nI w))) (m + 2) (va_up (Mb (m + 2)) tb (nI (30 + w)))) m (va_up (Mb m) 5 (nI (tb + 1))) = Me := ⟨_, rfl⟩
    have me : ∀ q, q ≠ m → q ≠ m + 2 → q ≠ m + 42 → Me q = Mb q := fun q q1 q2 q3 => by rw [← hMe, va_up_n _ _ q1, va_up_n _ _ q2, va_up_n _ _ q3]
    have me0 : Me m = va_up (Mb m) 5 (nI (tb + 1)) := by rw [← hMe, va_up_s]
    have me2 : Me (m + 2) = va_up (mkB tb (I (m + 2))) tb (nI (30 + w)) := by rw [← hMe, va_up_n _ _ (by omega), va_up_s, m2]
    have me42 : Me (m + 42) = va_up (I (m + 42)) k (nI w) := by rw [← hMe, va_up_n _ _ (by omega), va_up_n _ _ (by omega), va_up_s, mu 42 (by omega) (by omega) (by omega) (by omega) (by omega) (by omega)]
    have meu : ∀ j, 3 ≤ j → j < 64 → j ≠ 28 → j ≠ 29 → j ≠ 30 → j ≠ 39 → j ≠ 42 → Me (m + j) = I (m + j) := fun j j0 j1 j2 j3 j4 j5 j6 => by rw [me _ (by omega) (by omega) (by omega), mu j j0 j1 j2 j3 j4 j5]
    have me28 : Me (m + 28) k = nI n2 := by rw [me _ (by omega) (by omega) (by omega), m28, va_up_s]
    have mle : ∀ j, j < n2 → Me (m + 29) (250 * k + j) = I (m + 29) (250 * k + s2 j) := fun j hj => by rw [me _ (by omega) (by omega) (by omega)]; exact m29 j hj
    have jf : ∀ i, i < 8 → Ie (x + 2) i = Me (m + 1) i := fun i hi => by
      rw [ie _ (by omega) (by omega), bx2, me _ (by omega) (by omega) (by omega), m1]
      unfold fnd
      rw [if_neg (by omega), if_neg (by omega)]
      by_cases c : i = w
      · rw [c, va_up_s, va_up_s, (RG_j h).2 w (by omega)]
      · rw [va_up_n _ _ c, va_up_n _ _ c]; exact (RG_j h).2 i hi
    have jt : ∀ i, i < tb + 1 → Ie (x + 3) i = Me (m + 2) i := fun i hi => by
      rw [ie3, me2]
      by_cases c : i = tb
      · rw [c, va_up_s, va_up_s]
      · rw [va_up_n _ _ c, va_up_n _ _ c]
        unfold mkB mk2
        rcases htb with e | e
        · omega
        · rw [if_neg (by omega), if_neg (by omega)]
          rcases (show i = 0 ∨ i = 1 by omega) with rfl | rfl <;> simp (disch := omega) only [va_up_s, va_up_n]
    obtain ⟨M', o1, o2, o3⟩ := hopM Me J1 P1 (tb + 1) hM1 (fun j hj => meu j (by omega) (by omega) (by omega) (by omega) (by omega) (by omega) (by omega)) (by rw [me0, va_up_s]) (by omega)
    obtain ⟨Mo, hMo⟩ : ∃ Mo, OPm m (tb + 1) 0 M' Me = Mo := ⟨_, rfl⟩
    rw [hMo] at o3
    have mo1 : ∀ q, q ≠ m → q ≠ m + 1 → q ≠ m + 2 → Mo q = Me q := fun q q1 q2 q3 => by rw [← hMo]; unfold OPm; rw [va_up_n _ _ q2, va_up_n _ _ q1, va_up_n _ _ q3]
    have mom : Mo m = va_up M' 5 (nI (tb + 1 + 2)) := by rw [← hMo]; unfold OPm; rw [va_up_n _ _ (by omega), va_up_s]
    have mof : Mo (m + 1) = fnd 0 (Me (m + 1)) := by rw [← hMo]; unfold OPm; rw [va_up_s]
    have mo2 : Mo (m + 2) = mk2 (tb + 1) (Me (m + 2)) := by rw [← hMo]; unfold OPm; rw [va_up_n _ _ (by omega), va_up_n _ _ (by omega), va_up_s]
    have e30 : Me (m + 30) (250 * k + i) = I (m + 30) (250 * k + s2 i) := by rw [me _ (by omega) (by omega) (by omega)]; exact m30 i hi
    have fw := ct_X12_firstWith (g := g) (B := B) (I := Me) (J := J1) (P := P1) (lab := fun j => I (m + 29) (250 * k + s2 j)) hM1 (show k < 8 by omega) (show n2 ≤ 250 by omega) me28 mle (Or.inr ⟨i, hi, rfl, hi1, hi2⟩)
    have jf2 : ∀ i, i < 8 → fnd 0 (Ie (x + 2)) i = Mo (m + 1) i := fun i hi => by
      rw [mof]
      unfold fnd
      by_cases c0 : 0 = 0
      · rw [if_pos c0, if_pos c0]; exact jf i hi
      · rw [if_neg c0, if_neg c0]
        by_cases c : i = 0
        · rw [c, va_up_s, va_up_s, jf _ (by omega)]
        · rw [va_up_n _ _ c, va_up_n _ _ c]; exact jf i hi
    have jt2 : ∀ i, i < tb + 1 + 2 → mk2 (tb + 1) (Ie (x + 3)) i = Mo (m + 2) i := fun i hi => by
      rw [mo2]
      unfold mk2
      by_cases c1 : i = tb + 1 + 1
      · rw [c1, va_up_s, va_up_s]
      · rw [va_up_n _ _ c1, va_up_n _ _ c1]
        by_cases c : i = tb + 1
        · rw [c, va_up_s, va_up_s]
        · rw [va_up_n _ _ c, va_up_n _ _ c]; exact jt i (by omega)
    obtain ⟨M1, Jm, rd, rpm⟩ := cx_X12_repM (g := g) (B := B) (I := Me) (J := J1) (P := P1) (m := m) (c := k) (lb := nx) (rt := rt) (r := r0) (t := tb + 1 + 2) (i := i) (bd := bd) (mo := mo') (n := nn) (R := r) (bt := fun j => ub (F j)) (I1 := Mo) hM1 (by omega) rt1 (by rw [meu 34 (by omega) (by omega) (by omega) (by omega) (by omega) (by omega) (by omega)]; exact rt3) (by omega) (by rw [meu 37 (by omega) (by omega) (by omega) (by omega) (by omega) (by omega) (by omega)]; exact r0m) (by omega) fw (by rw [e30]; exact o3) (by rw [mom, va_up_n _ _ (by omega), (o2 rfl).1]) (by omega) (by rw [mom, va_up_n _ _ (by omega), (o2 rfl).2.1, hF2]) (by rw [mom, va_up_n _ _ (by omega), (o2 rfl).2.2, hF5]) us (by omega) rn64 (by omega) (fun j hj => by rw [mo1 _ (by omega) (by omega) (by omega), meu 33 (by omega) (by omega) (by omega) (by omega) (by omega) (by omega) (by omega), rFm j hj]) (by rw [mom, va_up_s]) (by omega)
    simp only [hLL, hst] at rpm
    have rpm' := rpm
    obtain ⟨-, -, -, -, -, -, -, rq⟩ := rpm'
    obtain ⟨Mq, hMq⟩ : ∃ Mq, va_up (va_up Mo (m + 18) (va_up (Mo (m + 18)) (2 * k + 1) (nI LL))) (m + 41) (va_up (Mo (m + 41)) k (Mo (m + 41) k + nI 1)) = Mq := ⟨_, rfl⟩
    rw [hMq] at rpm rq
    have mq1 : ∀ q, q ≠ m + 18 → q ≠ m + 41 → Mq q = Mo q := fun q q1 q2 => by rw [← hMq, va_up_n _ _ q2, va_up_n _ _ q1]
    have o18 : Mo (m + 18) = I (m + 18) := by rw [mo1 _ (by omega) (by omega) (by omega), meu 18 (by omega) (by omega) (by omega) (by omega) (by omega) (by omega) (by omega)]
    have o41 : Mo (m + 41) = I (m + 41) := by rw [mo1 _ (by omega) (by omega) (by omega), meu 41 (by omega) (by omega) (by omega) (by omega) (by omega) (by omega) (by omega)]
    refine ⟨v, Mq, M1, Jm, ⟨?_, ?_, ⟨?_, ?_, ?_, ?_, ?_⟩, ⟨?_, ?_⟩, ?_, ?_, ⟨?_, ?_⟩, ?_, ?_⟩, ?_, ?_, rpm, fun Z e => KE Z (lx_X12_b2 hM1 (by omega) ⟨w1, w7⟩ (show r0 < 2 ^ 31 by omega) (by rw [mu 37 (by omega) (by omega) (by omega) (by omega) (by omega) (by omega)]; exact r0m) rfl m5 (by omega) (by rw [hMe]; exact rd) (by rw [rq _ (by omega) (by omega) (by omega) (by omega) (by omega) (by omega), mq1 _ (by omega) (by omega), mo1 _ (by omega) (by omega) (by omega), meu 37 (by omega) (by omega) (by omega) (by omega) (by omega) (by omega) (by omega)]; exact r0m) (by rw [rq _ (by omega) (by omega) (by omega) (by omega) (by omega) (by omega), mq1 _ (by omega) (by omega), mo1 _ (by omega) (by omega) (by omega), meu 40 (by omega) (by omega) (by omega) (by omega) (by omega) (by omega) (by omega)]) e)⟩
    · rw [mq1 _ (by omega) (by omega), mom, va_up_s]
    · intro i i1 i2; rw [mq1 _ (by omega) (by omega), mom, va_up_n _ _ i1, o1 i i1 (by omega), me0, va_up_n _ _ i1, mi i i1 i2]
    · rw [mq1 _ (by omega) (by omega), mo1 _ (by omega) (by omega) (by omega), me _ (by omega) (by omega) (by omega), m28]
    · intro i hi; rw [mq1 _ (by omega) (by omega), mo1 _ (by omega) (by omega) (by omega)]; exact mle i hi
    · intro i hi; rw [mq1 _ (by omega) (by omega), mo1 _ (by omega) (by omega) (by omega), me _ (by omega) (by omega) (by omega)]; exact m29' i hi
    · intro i hi; rw [mq1 _ (by omega) (by omega), mo1 _ (by omega) (by omega) (by omega), me _ (by omega) (by omega) (by omega)]; exact m30 i hi
    · intro i hi; rw [mq1 _ (by omega) (by omega), mo1 _ (by omega) (by omega) (by omega), me _ (by omega) (by omega) (by omega)]; exact m30' i hi
    · rw [← hMq, va_up_n _ _ (by omega), va_up_s, va_up_s]
    · intro j hj; rw [← hMq, va_up_n _ _ (by omega), va_up_s, va_up_n _ _ hj, o18]
    · rw [mq1 _ (by omega) (by omega), mo1 _ (by omega) (by omega) (by omega)]; exact me42
    · rw [mq1 _ (by omega) (by omega), mo1 _ (by omega) (by omega) (by omega), me _ (by omega) (by omega) (by omega), m39]
    · rw [← hMq, va_up_s, va_up_s, o41, q18]
    · intro j hj; rw [← hMq, va_up_s, va_up_n _ _ hj, o41]
    · intro j j0 j1 j2 j3 j4 j5 j6 j7 j8
      rw [mq1 _ (by omega) (by omega), mo1 _ (by omega) (by omega) (by omega)]; exact meu j (by omega) (by omega) (by omega) (by omega) (by omega) (by omega) (by omega)
    · intro q hq; rw [mq1 _ (by omega) (by omega), mo1 _ (by omega) (by omega) (by omega), me _ (by omega) (by omega) (by omega), mq q hq]
    · intro i hi
      rw [mq1 _ (by omega) (by omega), ← jf2 i hi, ← hIq, va_up_n _ _ (by omega), va_up_n _ _ (by omega)]; unfold OPc fnd; rw [va_up_n _ _ (by omega), va_up_n _ _ (by omega), va_up_s]
    · intro i hi
      rw [mq1 _ (by omega) (by omega), ← jt2 i hi, ← hIq, va_up_n _ _ (by omega), va_up_n _ _ (by omega)]; unfold OPc mk2; rw [va_up_n _ _ (by omega), va_up_s]
end DY1
