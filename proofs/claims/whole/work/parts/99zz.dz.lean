/-! DECODE: the joint step -/
section DZ0
variable {g : mm_G} {c : Int32}
theorem jo_decode : JO g mX11_decode mX12_decode [.int c] := by
  refine jo_m2 fun K x m B I J P n R o fl φ ρ hK hR h => ?_
  obtain ⟨hV, hM, -⟩ := RG_ly h
  obtain ⟨h8, hx4, hm0⟩ := RG_n h
  obtain ⟨xm, mn⟩ := RC_xm h
  rcases cd_cases h8 c with ⟨k, hk, rfl⟩ | hc
  · obtain ⟨-, -, -, -, -, -, ⟨nu, nu1, nu2, nu3⟩, -⟩ := RC_e h hk
    obtain ⟨-, ⟨rt, rt1, rt2, rt3⟩, q8, ⟨nx, nx1, nx2, nx3⟩, -, -, -, -, ⟨r0, hr0, r0c, r0m⟩, q16, q17, q18⟩ := RC_d h hk
    obtain ⟨L, l1, l2, l3, c4, c5⟩ := RC_l h hk
    by_cases hgo : L = 0 ∧ nx = nu
    · obtain ⟨rfl, rfl⟩ := hgo
      exact Or.inl ⟨_, _, cl_decode_s (CA_of h hk) nx1 l2 nx2 nu2, fun I1 h1 => ml_decode_s (MA_of h hk (h1 _ (by omega))) nx1 (by rw [h1 _ (by omega)]; exact l3) (by rw [h1 _ (by omega)]; exact nx3) (by rw [h1 _ (by omega)]; exact nu3)⟩
    · right
      obtain ⟨n2, w, tb, f, r, nn, s2, lt, fv, F, Ib, Pb, sok, db, hcs, op, KC, KM⟩ := dec_AB h hk (by omega) l1 l2 l3 nx1 nx2 nx3 nu1 nu3 hgo q16
      by_cases hw : w = 0
      · subst hw
        rcases hcs with ⟨e, -, -⟩ | ⟨-, rfl, rfl, tf, f3⟩
        · omega
        · have KM' : ∀ (I1 : mm_TI) (J1 : mm_TJ) (P1 : mm_TP), lyM B P1 m → (∀ j, j < 64 → I1 (m + j) = I (m + j)) → ∃ (v : Int32) (Mb : mm_TI), DBm m k n2 0 2 s2 lt I Mb ∧ (Mb m 78 = nI r ∧ Mb m 79 = F 2 ∧ Mb m 80 = F 5) ∧ (∀ q, q < m ∨ m + 64 ≤ q → Mb q = I1 q) ∧ ∀ Z : mm_Z, Ev g mX12_decode 176 [some (.ref m), some (.int (nI k)), some (.int (nI nx)), some (.int (nI 0)), some (.int v), none, none, none] [] B Mb J1 P1 Z → Ct g mX12_decode [.ref m, .int (nI k)] B I1 J1 P1 Z := fun I1 J1 P1 hM1 e1 => by
            obtain ⟨v, Mb, a, b, c, d⟩ := KM I1 J1 P1 hM1 e1
            exact ⟨v, Mb, a, b rfl, c, d⟩
          by_cases hvo : sp_vo F = 1
          · exact dec_PV h hk hK hR l1 l2 l3 nx1 nx2 nx3 nu1 nu2 hgo sok hr0 r0c r0m q17 q18 db tf f3 (op rfl) hvo KC KM'
          · exact dec_PS h hk hK hR l1 l2 l3 nx1 nx2 nx3 nu1 nu2 hgo sok hr0 r0c r0m q17 q18 db tf f3 (op rfl) (by have := sp_vo_l (F := F); omega) KC KM'
      · have hfv : fv = .null ∨ ∃ f, fv = .ref f ∧ mm_T B f = 104 := by
          rcases hcs with ⟨-, -, e⟩ | ⟨-, -, e, tf, -⟩
          · exact Or.inl e
          · exact Or.inr ⟨f, e, tf⟩
        have htb : tb = 0 ∨ tb = 2 := by omega
        have w7 : w ≤ 7 := by omega
        have KM' : ∀ (I1 : mm_TI) (J1 : mm_TJ) (P1 : mm_TP), lyM B P1 m → (∀ j, j < 64 → I1 (m + j) = I (m + j)) → ∃ (v : Int32) (Mb : mm_TI), DBm m k n2 w tb s2 lt I Mb ∧ (∀ q, q < m ∨ m + 64 ≤ q → Mb q = I1 q) ∧ ∀ Z : mm_Z, Ev g mX12_decode 176 [some (.ref m), some (.int (nI k)), some (.int (nI nx)), some (.int (nI w)), some (.int v), none, none, none] [] B Mb J1 P1 Z → Ct g mX12_decode [.ref m, .int (nI k)] B I1 J1 P1 Z := fun I1 J1 P1 hM1 e1 => by
          obtain ⟨v, Mb, a, b, c, d⟩ := KM I1 J1 P1 hM1 e1
          exact ⟨v, Mb, a, c, d⟩
        have so2 := sok.2.1
        simp only at so2
        rcases fst_cases (fun j => I (m + 29) (250 * k + s2 j) = nI ((nx + 1) % 65536)) n2 with hno | ⟨i, hi, i1, i2⟩
        · exact dec_RN h hk hK hR l1 l2 l3 nx1 nx2 nx3 nu1 nu2 hgo sok rt1 rt2 rt3 hr0 r0c r0m q8 q17 q18 (by omega) w7 htb hfv db hno KC KM'
        · obtain ⟨w', r', nn', F', w6, op', hopC, hopM⟩ := op_fr h (by omega) (c4 (s2 i) (so2 i hi)).2.2
          by_cases hu : w' = 0 ∧ 2 ≤ ub (F' 5)
          · obtain ⟨rfl, hu⟩ := hu
            exact dec_RM h hk hK hR l1 l2 l3 nx1 nx2 nx3 nu1 nu2 hgo sok rt1 rt2 rt3 hr0 r0c r0m q8 q17 q18 (by omega) w7 htb hfv db hi i1 i2 op' hopC hopM hu KC KM'
          · exact dec_RU h hk hK hR l1 l2 l3 nx1 nx2 nx3 nu1 nu2 hgo sok rt1 rt2 rt3 hr0 r0c r0m q8 q17 q18 (by omega) w7 htb hfv db hi i1 i2 w6 op' hopC hopM (fun e => by omega) KC KM'
  · exact Or.inl ⟨_, _, cl_decode_f hV hx4 hc, fun I1 h1 => ml_decode_f hM (by rw [h1 _ (by omega)]; exact hm0) hc⟩
end DZ0
