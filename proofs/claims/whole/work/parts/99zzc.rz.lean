/-! THE START: both are new -/
theorem NewV_cg {z : Nat} {I I' : mm_TI} {J J' : mm_TJ} {P P' : mm_TP} (h : NewV z I J P) (e : ∀ q, q < z + 22 → I' q = I q ∧ J' q = J q ∧ P' q = P q) : NewV z I' J' P' := by
  obtain ⟨h1, h2, h3, h4, h5, h6, h7, h8⟩ := h
  refine ⟨by rw [(e _ (by omega)).1]; exact h1, by rw [(e _ (by omega)).1]; exact h2, by rw [(e _ (by omega)).2.1]; exact h3, by rw [(e _ (by omega)).1]; exact h4, fun k k1 k2 => by rw [(e _ (by omega)).1]; exact h5 k k1 k2, by rw [(e _ (by omega)).2.1]; exact h6, by rw [(e _ (by omega)).2.1]; exact h7, ly_P_ext (W := 22) h8 (by decide) (fun q q1 q2 => (e q q2).2.2)⟩
section RZ0
variable {g : mm_G} {B : mm_B} {I : mm_TI} {J : mm_TJ} {P : mm_TP} {x m : Nat}
theorem RS_new (hz : ∀ q, mm_nx B ≤ q → mm_T B q = 0) (hx : mm_nx B = x) (hm : m = x + 22) (hG : ly_G g B) (hc : st_c g I) (hg : ∀ i, i < 3 → g.2.2 i < x) (nv : NewV x I J P) (mP : ly_P P m m lyM_P) (m0 : I m = fun _ => 0) (j0 : J m = fun _ => 0) (m1 : I (m + 1) = fun _ => 0) : RS g (als (als B lX11) lX12_init) I J P x m 0 := by
  obtain ⟨h1, h2, h3, h4, h5, h6, h7, h8⟩ := nv
  have e1 := als_Ext lX11 B hz
  have e2 := als_Ext lX12_init (als B lX11) e1.2
  have n1 : mm_nx (als B lX11) = m := by rw [als_x, hx, hm]; rfl
  have n2 : mm_nx (als (als B lX11) lX12_init) = m + 64 := by rw [als_x, n1]; rfl
  have lT : ly_T (als B lX11) x lyV_T := ly_T_als hx (by decide)
  have lN : ly_N (als B lX11) x lyV_N := ly_N_als hx (by decide)
  have hV : lyV (als (als B lX11) lX12_init) P x := lyV_ext ⟨lT, lN, h8⟩ e2.1 (fun _ _ _ => rfl)
  have hM : lyM (als (als B lX11) lX12_init) P m := ⟨ly_T_als n1 (by decide), ly_N_als n1 (by decide), mP⟩
  refine ⟨0, 0, fun _ => 0, fun _ _ => 0, fun _ _ => 0, fun _ => 0, Nat.le_refl _, ⟨e2.2, hV, hM, ly_G_ext hG (Ext_tr e1.1 e2.1), hc, hg, by omega, by omega, by omega, by rw [h1]; rfl, by rw [m0]; rfl, by rw [h3, j0], fun k hk => by rw [h4, m1], ⟨0, by omega, by rw [h2]; rfl, by rw [m0]; rfl, fun i hi => absurd hi (by omega)⟩, ⟨0, by omega, by rw [h1]; rfl, by rw [m0]; rfl, fun i hi => absurd hi (by omega)⟩, ⟨0, by omega, by rw [h1]; rfl, by rw [m0]; rfl, fun i hi => absurd hi (by omega)⟩, h5, fun k hk => by rw [h6], fun k hk => by rw [h7], by rw [m0]; rfl, fun r hr => absurd hr (by omega), fun r s hr => absurd hr (by omega)⟩, by rw [h1, m0], ⟨fun c d hc => absurd hc (by omega), fun c i hc => absurd hc (by omega), fun c d i j hc => absurd hc (by omega)⟩, fun c hc => absurd hc (by omega), fun c d q hc => absurd hc (by omega)⟩
theorem lyM_new {P0 : Nat → Option Nat} (h : P m = va_up (va_up (va_up (va_up (va_up (va_up (va_up (va_up (va_up (va_up (va_up (va_up (va_up (va_up (va_up (va_up (va_up (va_up (va_up (va_up (va_up (va_up (va_up (va_up (va_up (va_up (va_up (va_up (va_up (va_up (va_up (va_up (va_up (va_up (va_up (va_up (va_up (va_up (va_up (va_up (va_up (va_up (va_up (va_up (va_up (va_up (va_up (va_up (va_up (va_up (va_up (va_up (va_up (va_up (va_up (va_up (va_up (va_up (va_up (va_up (va_up (va_up (va_up (P0) 3 (some (m + 1))) 4 (some (m + 2))) 6 (some (m + 3))) 8 (some (m + 4))) 10 (some (m + 5))) 11 (some (m + 6))) 12 (some (m + 7))) 13 (some (m + 8))) 14 (some (m + 9))) 15 (some (m + 10))) 16 (some (m + 11))) 17 (some (m + 12))) 18 (some (m + 13))) 19 (some (m + 14))) 20 (some (m + 15))) 21 (some (m + 16))) 22 (some (m + 17))) 23 (some (m + 18))) 24 (some (m + 19))) 25 (some (m + 20))) 26 (some (m + 21))) 27 (some (m + 22))) 28 (some (m + 23))) 29 (some (m + 24))) 30 (some (m + 25))) 31 (some (m + 26))) 32 (some (m + 27))) 33 (some (m + 28))) 34 (some (m + 29))) 35 (some (m + 30))) 37 (some (m + 31))) 38 (some (m + 32))) 39 (some (m + 33))) 40 (some (m + 34))) 41 (some (m + 35))) 42 (some (m + 36))) 43 (some (m + 37))) 44 (some (m + 38))) 45 (some (m + 39))) 46 (some (m + 40))) 47 (some (m + 41))) 48 (some (m + 42))) 49 (some (m + 43))) 50 (some (m + 44))) 51 (some (m + 45))) 52 (some (m + 46))) 53 (some (m + 47))) 54 (some (m + 48))) 55 (some (m + 49))) 56 (some (m + 50))) 57 (some (m + 51))) 58 (some (m + 52))) 59 (some (m + 53))) 60 (some (m + 54))) 61 (some (m + 55))) 62 (some (m + 56))) 63 (some (m + 57))) 64 (some (m + 58))) 65 (some (m + 59))) 66 (some (m + 60))) 67 (some (m + 61))) 68 (some (m + 62))) 69 (some (m + 63))) : ly_P P m m lyM_P := by
  have key : ∀ r ∈ lyM_P, P (m + r.1) r.2.1 = some (m + r.2.2) := by
    intro r hr
    simp only [lyM_P, List.mem_cons, List.not_mem_nil, or_false] at hr
    rcases hr with rfl | rfl | rfl | rfl | rfl | rfl | rfl | rfl | rfl | rfl | rfl | rfl | rfl | rfl | rfl | rfl | rfl | rfl | rfl | rfl | rfl | rfl | rfl | rfl | rfl | rfl | rfl | rfl | rfl | rfl | rfl | rfl | rfl | rfl | rfl | rfl | rfl | rfl | rfl | rfl | rfl | rfl | rfl | rfl | rfl | rfl | rfl | rfl | rfl | rfl | rfl | rfl | rfl | rfl | rfl | rfl | rfl | rfl | rfl | rfl | rfl | rfl | rfl
    · show P m 3 = _; rw [h]; simp (disch := omega) only [va_up_s, va_up_n]
    · show P m 4 = _; rw [h]; simp (disch := omega) only [va_up_s, va_up_n]
    · show P m 6 = _; rw [h]; simp (disch := omega) only [va_up_s, va_up_n]
    · show P m 8 = _; rw [h]; simp (disch := omega) only [va_up_s, va_up_n]
    · show P m 10 = _; rw [h]; simp (disch := omega) only [va_up_s, va_up_n]
    · show P m 11 = _; rw [h]; simp (disch := omega) only [va_up_s, va_up_n]
    · show P m 12 = _; rw [h]; simp (disch := omega) only [va_up_s, va_up_n]
    · show P m 13 = _; rw [h]; simp (disch := omega) only [va_up_s, va_up_n]
    · show P m 14 = _; rw [h]; simp (disch := omega) only [va_up_s, va_up_n]
    · show P m 15 = _; rw [h]; simp (disch := omega) only [va_up_s, va_up_n]
    · show P m 16 = _; rw [h]; simp (disch := omega) only [va_up_s, va_up_n]
    · show P m 17 = _; rw [h]; simp (disch := omega) only [va_up_s, va_up_n]
    · show P m 18 = _; rw [h]; simp (disch := omega) only [va_up_s, va_up_n]
    · show P m 19 = _; rw [h]; simp (disch := omega) only [va_up_s, va_up_n]
    · show P m 20 = _; rw [h]; simp (disch := omega) only [va_up_s, va_up_n]
    · show P m 21 = _; rw [h]; simp (disch := omega) only [va_up_s, va_up_n]
    · show P m 22 = _; rw [h]; simp (disch := omega) only [va_up_s, va_up_n]
    · show P m 23 = _; rw [h]; simp (disch := omega) only [va_up_s, va_up_n]
    · show P m 24 = _; rw [h]; simp (disch := omega) only [va_up_s, va_up_n]
    · show P m 25 = _; rw [h]; simp (disch := omega) only [va_up_s, va_up_n]
    · show P m 26 = _; rw [h]; simp (disch := omega) only [va_up_s, va_up_n]
    · show P m 27 = _; rw [h]; simp (disch := omega) only [va_up_s, va_up_n]
    · show P m 28 = _; rw [h]; simp (disch := omega) only [va_up_s, va_up_n]
    · show P m 29 = _; rw [h]; simp (disch := omega) only [va_up_s, va_up_n]
    · show P m 30 = _; rw [h]; simp (disch := omega) only [va_up_s, va_up_n]
    · show P m 31 = _; rw [h]; simp (disch := omega) only [va_up_s, va_up_n]
    · show P m 32 = _; rw [h]; simp (disch := omega) only [va_up_s, va_up_n]
    · show P m 33 = _; rw [h]; simp (disch := omega) only [va_up_s, va_up_n]
    · show P m 34 = _; rw [h]; simp (disch := omega) only [va_up_s, va_up_n]
    · show P m 35 = _; rw [h]; simp (disch := omega) only [va_up_s, va_up_n]
    · show P m 37 = _; rw [h]; simp (disch := omega) only [va_up_s, va_up_n]
    · show P m 38 = _; rw [h]; simp (disch := omega) only [va_up_s, va_up_n]
    · show P m 39 = _; rw [h]; simp (disch := omega) only [va_up_s, va_up_n]
    · show P m 40 = _; rw [h]; simp (disch := omega) only [va_up_s, va_up_n]
    · show P m 41 = _; rw [h]; simp (disch := omega) only [va_up_s, va_up_n]
    · show P m 42 = _; rw [h]; simp (disch := omega) only [va_up_s, va_up_n]
    · show P m 43 = _; rw [h]; simp (disch := omega) only [va_up_s, va_up_n]
    · show P m 44 = _; rw [h]; simp (disch := omega) only [va_up_s, va_up_n]
    · show P m 45 = _; rw [h]; simp (disch := omega) only [va_up_s, va_up_n]
    · show P m 46 = _; rw [h]; simp (disch := omega) only [va_up_s, va_up_n]
    · show P m 47 = _; rw [h]; simp (disch := omega) only [va_up_s, va_up_n]
    · show P m 48 = _; rw [h]; simp (disch := omega) only [va_up_s, va_up_n]
    · show P m 49 = _; rw [h]; simp (disch := omega) only [va_up_s, va_up_n]
    · show P m 50 = _; rw [h]; simp (disch := omega) only [va_up_s, va_up_n]
    · show P m 51 = _; rw [h]; simp (disch := omega) only [va_up_s, va_up_n]
    · show P m 52 = _; rw [h]; simp (disch := omega) only [va_up_s, va_up_n]
    · show P m 53 = _; rw [h]; simp (disch := omega) only [va_up_s, va_up_n]
    · show P m 54 = _; rw [h]; simp (disch := omega) only [va_up_s, va_up_n]
    · show P m 55 = _; rw [h]; simp (disch := omega) only [va_up_s, va_up_n]
    · show P m 56 = _; rw [h]; simp (disch := omega) only [va_up_s, va_up_n]
    · show P m 57 = _; rw [h]; simp (disch := omega) only [va_up_s, va_up_n]
    · show P m 58 = _; rw [h]; simp (disch := omega) only [va_up_s, va_up_n]
    · show P m 59 = _; rw [h]; simp (disch := omega) only [va_up_s, va_up_n]
    · show P m 60 = _; rw [h]; simp (disch := omega) only [va_up_s, va_up_n]
    · show P m 61 = _; rw [h]; simp (disch := omega) only [va_up_s, va_up_n]
    · show P m 62 = _; rw [h]; simp (disch := omega) only [va_up_s, va_up_n]
    · show P m 63 = _; rw [h]; simp (disch := omega) only [va_up_s, va_up_n]
    · show P m 64 = _; rw [h]; simp (disch := omega) only [va_up_s, va_up_n]
    · show P m 65 = _; rw [h]; simp (disch := omega) only [va_up_s, va_up_n]
    · show P m 66 = _; rw [h]; simp (disch := omega) only [va_up_s, va_up_n]
    · show P m 67 = _; rw [h]; simp (disch := omega) only [va_up_s, va_up_n]
    · show P m 68 = _; rw [h]; simp (disch := omega) only [va_up_s, va_up_n]
    · show P m 69 = _; rw [h]; simp (disch := omega) only [va_up_s, va_up_n]
  exact fun i k j t e => key _ (List.mem_of_getElem? e)
/-- from the law's entry to its loop -/
theorem law_start {b : Nat} (hz : ∀ q, mm_nx B ≤ q → mm_T B q = 0) (hx : mm_nx B = x) (hG : ly_G g B) (hc : st_c g I) (hg : ∀ i, i < 3 → g.2.2 i < x) (tb : mm_T B b = 1) (hb : b < x) : ∃ (I' : mm_TI) (J' : mm_TJ) (P' : mm_TP), RS g (als (als B lX11) lX12_init) I' J' P' x (x + 22) 0 ∧ (∀ q, q < x → I' q = I q) ∧ ∀ Z : mm_Z, Ev g mL_law 18 [some (.ref b), some (.ref x), some (.ref (x + 22)), some (.int (nI 0))] [] (als (als B lX11) lX12_init) I' J' P' Z → Ev g mL_law 0 [some (.ref b), none, none, none] [] B I J P Z := by
  have T1 : mm_T (als B (lX11.take 1)) x = 111 := als_t (i := 0) hx rfl rfl rfl
  have U1 : mm_T (als B (lX11.take 1)) b = 1 := (als_lo _ B b (by omega)).1.trans tb
  obtain ⟨Ia, Ja, Pa, ca, na, la⟩ := cx_X11_init (g := g) (B := B) (I := va_up I x (fun _ => 0)) (J := va_up J x (fun _ => 0)) (P := va_up P x (fun _ => none)) (by rw [hx, va_up_s])
  rw [hx] at ca na la
  have n1 : mm_nx (als B lX11) = x + 22 := by rw [als_x, hx]; rfl
  have T2 : mm_T (als B lX11) x = 111 := als_t (i := 0) hx rfl rfl rfl
  have U2 : mm_T (als B lX11) b = 1 := (als_lo _ B b (by omega)).1.trans tb
  have T3 : mm_T (als (als B lX11) (lX12_init.take 1)) x = 111 := (als_lo _ _ x (by rw [n1]; omega)).1.trans T2
  have T4 : mm_T (als (als B lX11) (lX12_init.take 1)) (x + 22) = 112 := als_t (i := 0) n1 rfl rfl rfl
  have U3 : mm_T (als (als B lX11) (lX12_init.take 1)) b = 1 := (als_lo _ _ b (by rw [n1]; omega)).1.trans U2
  obtain ⟨Ib, Jb, Pb, cb, zb, ob, pb, qb⟩ := cx_X12_init (g := g) (B := als B lX11) (I := va_up Ia (x + 22) (fun _ => 0)) (J := va_up Ja (x + 22) (fun _ => 0)) (P := va_up Pa (x + 22) (fun _ => none))
  rw [n1] at cb zb ob pb qb
  have T5 : mm_T (als (als B lX11) lX12_init) x = 111 := (als_lo _ _ x (by rw [n1]; omega)).1.trans T2
  have T6 : mm_T (als (als B lX11) lX12_init) (x + 22) = 112 := als_t (i := 0) n1 rfl rfl rfl
  have U5 : mm_T (als (als B lX11) lX12_init) b = 1 := (als_lo _ _ b (by rw [n1]; omega)).1.trans U2
  have lo : ∀ q, q < x + 22 → Ib q = Ia q ∧ Jb q = Ja q ∧ Pb q = Pa q := fun q hq => by
    rw [(ob q (by omega)).1, (ob q (by omega)).2, qb q (by omega), va_up_n _ _ (by omega), va_up_n _ _ (by omega), va_up_n _ _ (by omega)]; exact ⟨rfl, rfl, rfl⟩
  have il : ∀ q, q < x → Ib q = I q := fun q hq => by rw [(lo q (by omega)).1, (la q hq).1, va_up_n _ _ (by omega)]
  refine ⟨Ib, Jb, Pb, RS_new hz hx rfl hG (st_c_lo hc hg il) hg (NewV_cg na lo) (lyM_new pb) ?_ ?_ ?_, il, fun Z k => ?_⟩
  · rw [(ob _ (by omega)).1, va_up_s]
  · rw [(ob _ (by omega)).2, va_up_s]
  · exact (zb _ (by omega) (by omega)).1
  · refine ev_new 3 mm_cl11 dL_law_0 lk91 lk92 lk75 rfl ?_
    rw [hx]
    show Ev g _ 3 _ _ (als B (lX11.take 1)) _ _ _ _
    refine ev_dup 4 dL_law_3 rfl rfl ?_
    refine ev_invIv 7 (Mc := mX11_init) ⟨lk95, lk75, hdX11_init, (Nat.le_of_ble_eq_true rfl), (Nat.le_of_ble_eq_true rfl)⟩ lk93 lk94 rfl rfl dL_law_4 (ca) rfl (Nat.le_of_ble_eq_true rfl) rfl rfl ?_
    show Ev g _ 7 _ _ (als B lX11) _ _ _ _
    refine ev_astore_n 8 (lv' := [some (.ref _), _, _, _]) dL_law_7 (Nat.le_of_ble_eq_true rfl) rfl rfl ?_
    refine ev_new 11 mm_cl12 dL_law_8 lk1278 lk1279 lk80 rfl ?_
    rw [n1]
    show Ev g _ 11 _ _ (als (als B lX11) (lX12_init.take 1)) _ _ _ _
    refine ev_dup 12 dL_law_11 rfl rfl ?_
    refine ev_invIv 15 (Mc := mX12_init) ⟨lk1282, lk80, hdX12_init, (Nat.le_of_ble_eq_true rfl), (Nat.le_of_ble_eq_true rfl)⟩ lk1280 lk1281 rfl rfl dL_law_12 (cb) rfl (Nat.le_of_ble_eq_true rfl) rfl rfl ?_
    show Ev g _ 15 _ _ (als (als B lX11) lX12_init) _ _ _ _
    refine ev_astore_n 16 (lv' := [_, some (.ref _), _, _]) dL_law_15 (Nat.le_of_ble_eq_true rfl) rfl rfl ?_
    refine ev_iconstN 17 0 dL_law_16 rfl ?_
    refine ev_istore_n 18 (lv' := [_, _, some (.ref _), _]) dL_law_17 (Nat.le_of_ble_eq_true rfl) rfl rfl ?_
    exact k
end RZ0
