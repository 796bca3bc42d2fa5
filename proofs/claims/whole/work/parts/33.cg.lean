section CG
variable {g : mm_G} {M : mm_M} {pc : Nat} {lv : mm_L} {st as : List Value} {B B1 : mm_B} {I I' I1 I2 : mm_TI} {J J1 : mm_TJ} {P P1 : mm_TP} {Z : mm_Z} {U : State} {H : Heap} {r : Option Value}
/-- what lies behind an array's end doesn't count -/
theorem mm_R_cg (hI : ∀ q j, (200 ≤ mm_T B q → j < mm_N B q) → I' q j = I q j) (h : mm_R g B I J P U H) : mm_R g B I' J P U H := by
  refine ⟨h.1, fun q e => ⟨(h.2 q e).1, (h.2 q e).2.1, ?_⟩⟩
  obtain ⟨h1, h2, h3⟩ := (h.2 q e).2.2
  refine ⟨fun e1 => ?_, fun ci hc e1 => ?_, fun k e1 => ?_⟩
  · obtain ⟨cell, a1, a2, a3, a4, a5, a6⟩ := h1 e1
    exact ⟨cell, a1, a2, a3, a4, a5, fun j hj => by rw [hI q j (fun _ => hj)]; exact a6 j hj⟩
  · obtain ⟨c, a1, a2⟩ := h2 ci hc e1
    refine ⟨c, a1, a2.to (fun k _ => ?_)⟩
    rw [hI q k (fun z => by omega)]
  · obtain ⟨cA, a1, a2, a3⟩ := h3 k e1
    refine ⟨cA, a1, a2, ?_⟩
    rw [a3]
    unfold arrV
    congr 2
    apply Array.ext
    · simp
    · intro i hi1 hi2
      simp only [Array.getElem_ofFn]
      rw [hI q i (fun _ => by simpa using hi1)]
theorem ev_cg (hI : ∀ q j, (200 ≤ mm_T B q → j < mm_N B q) → I' q j = I q j) (h : Ev g M pc lv st B I' J P Z) : Ev g M pc lv st B I J P Z :=
  ⟨h.1, fun p l e R s m args below meth c H locs ls n0 s0 hX hn hR hS hl => h.2 p l e R s m args below meth c H locs ls n0 s0 hX hn (mm_R_cg hI hR) hS hl⟩
theorem ct_cgZ (hI : ∀ q j, (200 ≤ mm_T B1 q → j < mm_N B1 q) → I2 q j = I1 q j) (h : Ct g M as B I J P (r, B1, I1, J1, P1)) : Ct g M as B I J P (r, B1, I2, J1, P1) := by
  refine ⟨h.1, fun l p e h1 h2 h3 s m args below h4 h5 h6 h7 => ?_⟩
  obtain ⟨n, o, a1, a2, a3, ⟨b1, b2, b3⟩, b4⟩ := h.2 l p e h1 h2 h3 s m args below h4 h5 h6 h7
  exact ⟨n, o, a1, a2, a3, ⟨b1, mm_R_cg hI b2, b3⟩, b4⟩
end CG
