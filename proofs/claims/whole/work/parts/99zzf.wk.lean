/-! THE LAW: what its entry gives -/
theorem ws_K {s : State} {args : Array Value} (hts : ∀ w ∈ lw_tbl, w.before args s = true) : ∃ D : va_G, va_K D vwCl [] s := by
  have ha : ∀ w ∈ lw_all, w.before args s = true := fun w hw => hts w (List.mem_filter.mp hw).1
  obtain ⟨cC0, iS0, h0⟩ := u_known (ws := lw_all) ha mm_cl0.2.2.1 (n := 5) (hts _ (List.mem_of_getElem? (i := 304) (by decide +kernel)))
  obtain ⟨cC1, iS1, h1⟩ := u_known (ws := lw_all) ha mm_cl1.2.2.1 (n := 19) (hts _ (List.mem_of_getElem? (i := 439) (by decide +kernel)))
  obtain ⟨cC2, iS2, h2⟩ := u_known (ws := lw_all) ha mm_cl2.2.2.1 (n := 19) (hts _ (List.mem_of_getElem? (i := 327) (by decide +kernel)))
  obtain ⟨cC3, iS3, h3⟩ := u_known (ws := lw_all) ha mm_cl3.2.2.1 (n := 5) (hts _ (List.mem_of_getElem? (i := 448) (by decide +kernel)))
  obtain ⟨cC4, iS4, h4⟩ := u_known (ws := lw_all) ha mm_cl4.2.2.1 (n := 3) (hts _ (List.mem_of_getElem? (i := 652) (by decide +kernel)))
  obtain ⟨cC5, iS5, h5⟩ := u_known (ws := lw_all) ha mm_cl5.2.2.1 (n := 2) (hts _ (List.mem_of_getElem? (i := 310) (by decide +kernel)))
  obtain ⟨cC6, iS6, h6⟩ := u_known (ws := lw_all) ha mm_cl6.2.2.1 (n := 6) (hts _ (List.mem_of_getElem? (i := 336) (by decide +kernel)))
  obtain ⟨cC7, iS7, h7⟩ := u_known (ws := lw_all) ha mm_cl7.2.2.1 (n := 9) (hts _ (List.mem_of_getElem? (i := 193) (by decide +kernel)))
  obtain ⟨cC8, iS8, h8⟩ := u_known (ws := lw_all) ha mm_cl8.2.2.1 (n := 12) (hts _ (List.mem_of_getElem? (i := 127) (by decide +kernel)))
  obtain ⟨cC9, iS9, h9⟩ := u_known (ws := lw_all) ha mm_cl9.2.2.1 (n := 5) (hts _ (List.mem_of_getElem? (i := 187) (by decide +kernel)))
  obtain ⟨cC10, iS10, h10⟩ := u_known (ws := lw_all) ha mm_cl10.2.2.1 (n := 4) (hts _ (List.mem_of_getElem? (i := 100) (by decide +kernel)))
  obtain ⟨cC11, iS11, h11⟩ := u_known (ws := lw_all) ha mm_cl11.2.2.1 (n := 10) (hts _ (List.mem_of_getElem? (i := 92) (by decide +kernel)))
  obtain ⟨cC12, iS12, h12⟩ := u_known (ws := lw_all) ha mm_cl12.2.2.1 (n := 81) (hts _ (List.mem_of_getElem? (i := 1279) (by decide +kernel)))
  have key : ∀ c : Nat, ∃ q : ClassId × (Nat → Nat), ∀ r : vw_C, vwCl[c]? = some r → u_Kn s r.1 r.2.1 r.2.2 q.1 q.2 := by
    intro c
    by_cases e0 : c = 0
    · subst e0; exact ⟨(cC0, iS0), fun r hr => by rw [mm_cl0.2.1] at hr; cases hr; exact h0⟩
    by_cases e1 : c = 1
    · subst e1; exact ⟨(cC1, iS1), fun r hr => by rw [mm_cl1.2.1] at hr; cases hr; exact h1⟩
    by_cases e2 : c = 2
    · subst e2; exact ⟨(cC2, iS2), fun r hr => by rw [mm_cl2.2.1] at hr; cases hr; exact h2⟩
    by_cases e3 : c = 3
    · subst e3; exact ⟨(cC3, iS3), fun r hr => by rw [mm_cl3.2.1] at hr; cases hr; exact h3⟩
    by_cases e4 : c = 4
    · subst e4; exact ⟨(cC4, iS4), fun r hr => by rw [mm_cl4.2.1] at hr; cases hr; exact h4⟩
    by_cases e5 : c = 5
    · subst e5; exact ⟨(cC5, iS5), fun r hr => by rw [mm_cl5.2.1] at hr; cases hr; exact h5⟩
    by_cases e6 : c = 6
    · subst e6; exact ⟨(cC6, iS6), fun r hr => by rw [mm_cl6.2.1] at hr; cases hr; exact h6⟩
    by_cases e7 : c = 7
    · subst e7; exact ⟨(cC7, iS7), fun r hr => by rw [mm_cl7.2.1] at hr; cases hr; exact h7⟩
    by_cases e8 : c = 8
    · subst e8; exact ⟨(cC8, iS8), fun r hr => by rw [mm_cl8.2.1] at hr; cases hr; exact h8⟩
    by_cases e9 : c = 9
    · subst e9; exact ⟨(cC9, iS9), fun r hr => by rw [mm_cl9.2.1] at hr; cases hr; exact h9⟩
    by_cases e10 : c = 10
    · subst e10; exact ⟨(cC10, iS10), fun r hr => by rw [mm_cl10.2.1] at hr; cases hr; exact h10⟩
    by_cases e11 : c = 11
    · subst e11; exact ⟨(cC11, iS11), fun r hr => by rw [mm_cl11.2.1] at hr; cases hr; exact h11⟩
    by_cases e12 : c = 12
    · subst e12; exact ⟨(cC12, iS12), fun r hr => by rw [mm_cl12.2.1] at hr; cases hr; exact h12⟩
    exact ⟨(cC0, iS0), fun r hr => by
      rw [List.getElem?_eq_none (by show 13 ≤ c; omega)] at hr; cases hr⟩
  obtain ⟨Q, hQ⟩ := Classical.skolem.mp key
  exact ⟨(fun c => (Q c).1, fun c => (Q c).2), fun c q hq => hQ c q hq, fun k q hk => by simp at hk⟩
/-- the statics' contents -/
def stv (i j : Nat) : Int32 := if i = 0 then nI (28 - 8 * j) else if i = 1 then nI (sp_gn j) else sp_ph j
def stn (i : Nat) : Nat := if i = 0 then 4 else if i = 1 then 52 else 3
theorem ws_T0 {s : State} {args : Array Value} (hg : (Jvm.Cond.and given_1 narrow_1).before args s = true) : ∃ t : Nat, (Term.static "VoiceHouse" "FADING" "[I").eval args s none [] s = some (.ref t) ∧ va_T .int t 4 (fun j => .int (stv 0 j)) (fun q => s.heap.size ≤ q) s s.heap := by
  have hs := flat_of_before _ hg
  refine va_Tof (by omega) (hs (Cond.arrayOf (.static "VoiceHouse" "FADING" "[I") .int) (by decide +kernel)) (va_eqt (hs (Cond.eq (.length (.static "VoiceHouse" "FADING" "[I")) (.int 4)) (by decide +kernel))) (fun j hj => ?_) (fun a ha h => by omega)
  by_cases e0 : j = 0
  · subst e0; exact (va_eqt (hs (Cond.eq (.elem (.static "VoiceHouse" "FADING" "[I") (.int 0)) (.int (28))) (by decide +kernel))).trans (congrArg (fun v => some (Value.int v)) (show (28 : Int32) = stv 0 0 by decide))
  by_cases e1 : j = 1
  · subst e1; exact (va_eqt (hs (Cond.eq (.elem (.static "VoiceHouse" "FADING" "[I") (.int 1)) (.int (20))) (by decide +kernel))).trans (congrArg (fun v => some (Value.int v)) (show (20 : Int32) = stv 0 1 by decide))
  by_cases e2 : j = 2
  · subst e2; exact (va_eqt (hs (Cond.eq (.elem (.static "VoiceHouse" "FADING" "[I") (.int 2)) (.int (12))) (by decide +kernel))).trans (congrArg (fun v => some (Value.int v)) (show (12 : Int32) = stv 0 2 by decide))
  by_cases e3 : j = 3
  · subst e3; exact (va_eqt (hs (Cond.eq (.elem (.static "VoiceHouse" "FADING" "[I") (.int 3)) (.int (4))) (by decide +kernel))).trans (congrArg (fun v => some (Value.int v)) (show (4 : Int32) = stv 0 3 by decide))
  omega
theorem ws_T1 {s : State} {args : Array Value} (hg : (Jvm.Cond.and given_1 narrow_1).before args s = true) : ∃ t : Nat, (Term.static "VoiceHouse" "GAINS" "[I").eval args s none [] s = some (.ref t) ∧ va_T .int t 52 (fun j => .int (stv 1 j)) (fun q => s.heap.size ≤ q) s s.heap := by
  have hs := flat_of_before _ hg
  refine va_Tof (by omega) (hs (Cond.arrayOf (.static "VoiceHouse" "GAINS" "[I") .int) (by decide +kernel)) (va_eqt (hs (Cond.eq (.length (.static "VoiceHouse" "GAINS" "[I")) (.int 52)) (by decide +kernel))) (fun j hj => ?_) (fun a ha h => by omega)
  by_cases e0 : j = 0
  · subst e0; exact (va_eqt (hs (Cond.eq (.elem (.static "VoiceHouse" "GAINS" "[I") (.int 0)) (.int (4))) (by decide +kernel))).trans (congrArg (fun v => some (Value.int v)) (show (4 : Int32) = stv 1 0 by decide))
  by_cases e1 : j = 1
  · subst e1; exact (va_eqt (hs (Cond.eq (.elem (.static "VoiceHouse" "GAINS" "[I") (.int 1)) (.int (5))) (by decide +kernel))).trans (congrArg (fun v => some (Value.int v)) (show (5 : Int32) = stv 1 1 by decide))
  by_cases e2 : j = 2
  · subst e2; exact (va_eqt (hs (Cond.eq (.elem (.static "VoiceHouse" "GAINS" "[I") (.int 2)) (.int (6))) (by decide +kernel))).trans (congrArg (fun v => some (Value.int v)) (show (6 : Int32) = stv 1 2 by decide))
  by_cases e3 : j = 3
  · subst e3; exact (va_eqt (hs (Cond.eq (.elem (.static "VoiceHouse" "GAINS" "[I") (.int 3)) (.int (7))) (by decide +kernel))).trans (congrArg (fun v => some (Value.int v)) (show (7 : Int32) = stv 1 3 by decide))
  by_cases e4 : j = 4
  · subst e4; exact (va_eqt (hs (Cond.eq (.elem (.static "VoiceHouse" "GAINS" "[I") (.int 4)) (.int (8))) (by decide +kernel))).trans (congrArg (fun v => some (Value.int v)) (show (8 : Int32) = stv 1 4 by decide))
  by_cases e5 : j = 5
  · subst e5; exact (va_eqt (hs (Cond.eq (.elem (.static "VoiceHouse" "GAINS" "[I") (.int 5)) (.int (10))) (by decide +kernel))).trans (congrArg (fun v => some (Value.int v)) (show (10 : Int32) = stv 1 5 by decide))
  by_cases e6 : j = 6
  · subst e6; exact (va_eqt (hs (Cond.eq (.elem (.static "VoiceHouse" "GAINS" "[I") (.int 6)) (.int (12))) (by decide +kernel))).trans (congrArg (fun v => some (Value.int v)) (show (12 : Int32) = stv 1 6 by decide))
  by_cases e7 : j = 7
  · subst e7; exact (va_eqt (hs (Cond.eq (.elem (.static "VoiceHouse" "GAINS" "[I") (.int 7)) (.int (14))) (by decide +kernel))).trans (congrArg (fun v => some (Value.int v)) (show (14 : Int32) = stv 1 7 by decide))
  by_cases e8 : j = 8
  · subst e8; exact (va_eqt (hs (Cond.eq (.elem (.static "VoiceHouse" "GAINS" "[I") (.int 8)) (.int (16))) (by decide +kernel))).trans (congrArg (fun v => some (Value.int v)) (show (16 : Int32) = stv 1 8 by decide))
  by_cases e9 : j = 9
  · subst e9; exact (va_eqt (hs (Cond.eq (.elem (.static "VoiceHouse" "GAINS" "[I") (.int 9)) (.int (20))) (by decide +kernel))).trans (congrArg (fun v => some (Value.int v)) (show (20 : Int32) = stv 1 9 by decide))
  by_cases e10 : j = 10
  · subst e10; exact (va_eqt (hs (Cond.eq (.elem (.static "VoiceHouse" "GAINS" "[I") (.int 10)) (.int (24))) (by decide +kernel))).trans (congrArg (fun v => some (Value.int v)) (show (24 : Int32) = stv 1 10 by decide))
  by_cases e11 : j = 11
  · subst e11; exact (va_eqt (hs (Cond.eq (.elem (.static "VoiceHouse" "GAINS" "[I") (.int 11)) (.int (28))) (by decide +kernel))).trans (congrArg (fun v => some (Value.int v)) (show (28 : Int32) = stv 1 11 by decide))
  by_cases e12 : j = 12
  · subst e12; exact (va_eqt (hs (Cond.eq (.elem (.static "VoiceHouse" "GAINS" "[I") (.int 12)) (.int (32))) (by decide +kernel))).trans (congrArg (fun v => some (Value.int v)) (show (32 : Int32) = stv 1 12 by decide))
  by_cases e13 : j = 13
  · subst e13; exact (va_eqt (hs (Cond.eq (.elem (.static "VoiceHouse" "GAINS" "[I") (.int 13)) (.int (40))) (by decide +kernel))).trans (congrArg (fun v => some (Value.int v)) (show (40 : Int32) = stv 1 13 by decide))
  by_cases e14 : j = 14
  · subst e14; exact (va_eqt (hs (Cond.eq (.elem (.static "VoiceHouse" "GAINS" "[I") (.int 14)) (.int (48))) (by decide +kernel))).trans (congrArg (fun v => some (Value.int v)) (show (48 : Int32) = stv 1 14 by decide))
  by_cases e15 : j = 15
  · subst e15; exact (va_eqt (hs (Cond.eq (.elem (.static "VoiceHouse" "GAINS" "[I") (.int 15)) (.int (56))) (by decide +kernel))).trans (congrArg (fun v => some (Value.int v)) (show (56 : Int32) = stv 1 15 by decide))
  by_cases e16 : j = 16
  · subst e16; exact (va_eqt (hs (Cond.eq (.elem (.static "VoiceHouse" "GAINS" "[I") (.int 16)) (.int (64))) (by decide +kernel))).trans (congrArg (fun v => some (Value.int v)) (show (64 : Int32) = stv 1 16 by decide))
  by_cases e17 : j = 17
  · subst e17; exact (va_eqt (hs (Cond.eq (.elem (.static "VoiceHouse" "GAINS" "[I") (.int 17)) (.int (80))) (by decide +kernel))).trans (congrArg (fun v => some (Value.int v)) (show (80 : Int32) = stv 1 17 by decide))
  by_cases e18 : j = 18
  · subst e18; exact (va_eqt (hs (Cond.eq (.elem (.static "VoiceHouse" "GAINS" "[I") (.int 18)) (.int (96))) (by decide +kernel))).trans (congrArg (fun v => some (Value.int v)) (show (96 : Int32) = stv 1 18 by decide))
  by_cases e19 : j = 19
  · subst e19; exact (va_eqt (hs (Cond.eq (.elem (.static "VoiceHouse" "GAINS" "[I") (.int 19)) (.int (112))) (by decide +kernel))).trans (congrArg (fun v => some (Value.int v)) (show (112 : Int32) = stv 1 19 by decide))
  by_cases e20 : j = 20
  · subst e20; exact (va_eqt (hs (Cond.eq (.elem (.static "VoiceHouse" "GAINS" "[I") (.int 20)) (.int (128))) (by decide +kernel))).trans (congrArg (fun v => some (Value.int v)) (show (128 : Int32) = stv 1 20 by decide))
  by_cases e21 : j = 21
  · subst e21; exact (va_eqt (hs (Cond.eq (.elem (.static "VoiceHouse" "GAINS" "[I") (.int 21)) (.int (160))) (by decide +kernel))).trans (congrArg (fun v => some (Value.int v)) (show (160 : Int32) = stv 1 21 by decide))
  by_cases e22 : j = 22
  · subst e22; exact (va_eqt (hs (Cond.eq (.elem (.static "VoiceHouse" "GAINS" "[I") (.int 22)) (.int (192))) (by decide +kernel))).trans (congrArg (fun v => some (Value.int v)) (show (192 : Int32) = stv 1 22 by decide))
  by_cases e23 : j = 23
  · subst e23; exact (va_eqt (hs (Cond.eq (.elem (.static "VoiceHouse" "GAINS" "[I") (.int 23)) (.int (224))) (by decide +kernel))).trans (congrArg (fun v => some (Value.int v)) (show (224 : Int32) = stv 1 23 by decide))
  by_cases e24 : j = 24
  · subst e24; exact (va_eqt (hs (Cond.eq (.elem (.static "VoiceHouse" "GAINS" "[I") (.int 24)) (.int (256))) (by decide +kernel))).trans (congrArg (fun v => some (Value.int v)) (show (256 : Int32) = stv 1 24 by decide))
  by_cases e25 : j = 25
  · subst e25; exact (va_eqt (hs (Cond.eq (.elem (.static "VoiceHouse" "GAINS" "[I") (.int 25)) (.int (320))) (by decide +kernel))).trans (congrArg (fun v => some (Value.int v)) (show (320 : Int32) = stv 1 25 by decide))
  by_cases e26 : j = 26
  · subst e26; exact (va_eqt (hs (Cond.eq (.elem (.static "VoiceHouse" "GAINS" "[I") (.int 26)) (.int (384))) (by decide +kernel))).trans (congrArg (fun v => some (Value.int v)) (show (384 : Int32) = stv 1 26 by decide))
  by_cases e27 : j = 27
  · subst e27; exact (va_eqt (hs (Cond.eq (.elem (.static "VoiceHouse" "GAINS" "[I") (.int 27)) (.int (448))) (by decide +kernel))).trans (congrArg (fun v => some (Value.int v)) (show (448 : Int32) = stv 1 27 by decide))
  by_cases e28 : j = 28
  · subst e28; exact (va_eqt (hs (Cond.eq (.elem (.static "VoiceHouse" "GAINS" "[I") (.int 28)) (.int (512))) (by decide +kernel))).trans (congrArg (fun v => some (Value.int v)) (show (512 : Int32) = stv 1 28 by decide))
  by_cases e29 : j = 29
  · subst e29; exact (va_eqt (hs (Cond.eq (.elem (.static "VoiceHouse" "GAINS" "[I") (.int 29)) (.int (640))) (by decide +kernel))).trans (congrArg (fun v => some (Value.int v)) (show (640 : Int32) = stv 1 29 by decide))
  by_cases e30 : j = 30
  · subst e30; exact (va_eqt (hs (Cond.eq (.elem (.static "VoiceHouse" "GAINS" "[I") (.int 30)) (.int (768))) (by decide +kernel))).trans (congrArg (fun v => some (Value.int v)) (show (768 : Int32) = stv 1 30 by decide))
  by_cases e31 : j = 31
  · subst e31; exact (va_eqt (hs (Cond.eq (.elem (.static "VoiceHouse" "GAINS" "[I") (.int 31)) (.int (896))) (by decide +kernel))).trans (congrArg (fun v => some (Value.int v)) (show (896 : Int32) = stv 1 31 by decide))
  by_cases e32 : j = 32
  · subst e32; exact (va_eqt (hs (Cond.eq (.elem (.static "VoiceHouse" "GAINS" "[I") (.int 32)) (.int (1024))) (by decide +kernel))).trans (congrArg (fun v => some (Value.int v)) (show (1024 : Int32) = stv 1 32 by decide))
  by_cases e33 : j = 33
  · subst e33; exact (va_eqt (hs (Cond.eq (.elem (.static "VoiceHouse" "GAINS" "[I") (.int 33)) (.int (1280))) (by decide +kernel))).trans (congrArg (fun v => some (Value.int v)) (show (1280 : Int32) = stv 1 33 by decide))
  by_cases e34 : j = 34
  · subst e34; exact (va_eqt (hs (Cond.eq (.elem (.static "VoiceHouse" "GAINS" "[I") (.int 34)) (.int (1536))) (by decide +kernel))).trans (congrArg (fun v => some (Value.int v)) (show (1536 : Int32) = stv 1 34 by decide))
  by_cases e35 : j = 35
  · subst e35; exact (va_eqt (hs (Cond.eq (.elem (.static "VoiceHouse" "GAINS" "[I") (.int 35)) (.int (1792))) (by decide +kernel))).trans (congrArg (fun v => some (Value.int v)) (show (1792 : Int32) = stv 1 35 by decide))
  by_cases e36 : j = 36
  · subst e36; exact (va_eqt (hs (Cond.eq (.elem (.static "VoiceHouse" "GAINS" "[I") (.int 36)) (.int (2048))) (by decide +kernel))).trans (congrArg (fun v => some (Value.int v)) (show (2048 : Int32) = stv 1 36 by decide))
  by_cases e37 : j = 37
  · subst e37; exact (va_eqt (hs (Cond.eq (.elem (.static "VoiceHouse" "GAINS" "[I") (.int 37)) (.int (2560))) (by decide +kernel))).trans (congrArg (fun v => some (Value.int v)) (show (2560 : Int32) = stv 1 37 by decide))
  by_cases e38 : j = 38
  · subst e38; exact (va_eqt (hs (Cond.eq (.elem (.static "VoiceHouse" "GAINS" "[I") (.int 38)) (.int (3072))) (by decide +kernel))).trans (congrArg (fun v => some (Value.int v)) (show (3072 : Int32) = stv 1 38 by decide))
  by_cases e39 : j = 39
  · subst e39; exact (va_eqt (hs (Cond.eq (.elem (.static "VoiceHouse" "GAINS" "[I") (.int 39)) (.int (3584))) (by decide +kernel))).trans (congrArg (fun v => some (Value.int v)) (show (3584 : Int32) = stv 1 39 by decide))
  by_cases e40 : j = 40
  · subst e40; exact (va_eqt (hs (Cond.eq (.elem (.static "VoiceHouse" "GAINS" "[I") (.int 40)) (.int (4096))) (by decide +kernel))).trans (congrArg (fun v => some (Value.int v)) (show (4096 : Int32) = stv 1 40 by decide))
  by_cases e41 : j = 41
  · subst e41; exact (va_eqt (hs (Cond.eq (.elem (.static "VoiceHouse" "GAINS" "[I") (.int 41)) (.int (5120))) (by decide +kernel))).trans (congrArg (fun v => some (Value.int v)) (show (5120 : Int32) = stv 1 41 by decide))
  by_cases e42 : j = 42
  · subst e42; exact (va_eqt (hs (Cond.eq (.elem (.static "VoiceHouse" "GAINS" "[I") (.int 42)) (.int (6144))) (by decide +kernel))).trans (congrArg (fun v => some (Value.int v)) (show (6144 : Int32) = stv 1 42 by decide))
  by_cases e43 : j = 43
  · subst e43; exact (va_eqt (hs (Cond.eq (.elem (.static "VoiceHouse" "GAINS" "[I") (.int 43)) (.int (7168))) (by decide +kernel))).trans (congrArg (fun v => some (Value.int v)) (show (7168 : Int32) = stv 1 43 by decide))
  by_cases e44 : j = 44
  · subst e44; exact (va_eqt (hs (Cond.eq (.elem (.static "VoiceHouse" "GAINS" "[I") (.int 44)) (.int (8192))) (by decide +kernel))).trans (congrArg (fun v => some (Value.int v)) (show (8192 : Int32) = stv 1 44 by decide))
  by_cases e45 : j = 45
  · subst e45; exact (va_eqt (hs (Cond.eq (.elem (.static "VoiceHouse" "GAINS" "[I") (.int 45)) (.int (10240))) (by decide +kernel))).trans (congrArg (fun v => some (Value.int v)) (show (10240 : Int32) = stv 1 45 by decide))
  by_cases e46 : j = 46
  · subst e46; exact (va_eqt (hs (Cond.eq (.elem (.static "VoiceHouse" "GAINS" "[I") (.int 46)) (.int (12288))) (by decide +kernel))).trans (congrArg (fun v => some (Value.int v)) (show (12288 : Int32) = stv 1 46 by decide))
  by_cases e47 : j = 47
  · subst e47; exact (va_eqt (hs (Cond.eq (.elem (.static "VoiceHouse" "GAINS" "[I") (.int 47)) (.int (14336))) (by decide +kernel))).trans (congrArg (fun v => some (Value.int v)) (show (14336 : Int32) = stv 1 47 by decide))
  by_cases e48 : j = 48
  · subst e48; exact (va_eqt (hs (Cond.eq (.elem (.static "VoiceHouse" "GAINS" "[I") (.int 48)) (.int (16384))) (by decide +kernel))).trans (congrArg (fun v => some (Value.int v)) (show (16384 : Int32) = stv 1 48 by decide))
  by_cases e49 : j = 49
  · subst e49; exact (va_eqt (hs (Cond.eq (.elem (.static "VoiceHouse" "GAINS" "[I") (.int 49)) (.int (20480))) (by decide +kernel))).trans (congrArg (fun v => some (Value.int v)) (show (20480 : Int32) = stv 1 49 by decide))
  by_cases e50 : j = 50
  · subst e50; exact (va_eqt (hs (Cond.eq (.elem (.static "VoiceHouse" "GAINS" "[I") (.int 50)) (.int (24576))) (by decide +kernel))).trans (congrArg (fun v => some (Value.int v)) (show (24576 : Int32) = stv 1 50 by decide))
  by_cases e51 : j = 51
  · subst e51; exact (va_eqt (hs (Cond.eq (.elem (.static "VoiceHouse" "GAINS" "[I") (.int 51)) (.int (28672))) (by decide +kernel))).trans (congrArg (fun v => some (Value.int v)) (show (28672 : Int32) = stv 1 51 by decide))
  omega
theorem ws_T2 {s : State} {args : Array Value} (hg : (Jvm.Cond.and given_1 narrow_1).before args s = true) : ∃ t : Nat, (Term.static "VoiceHouse" "HEIGHTS" "[I").eval args s none [] s = some (.ref t) ∧ va_T .int t 3 (fun j => .int (stv 2 j)) (fun q => s.heap.size ≤ q) s s.heap := by
  have hs := flat_of_before _ hg
  refine va_Tof (by omega) (hs (Cond.arrayOf (.static "VoiceHouse" "HEIGHTS" "[I") .int) (by decide +kernel)) (va_eqt (hs (Cond.eq (.length (.static "VoiceHouse" "HEIGHTS" "[I")) (.int 3)) (by decide +kernel))) (fun j hj => ?_) (fun a ha h => by omega)
  by_cases e0 : j = 0
  · subst e0; exact (va_eqt (hs (Cond.eq (.elem (.static "VoiceHouse" "HEIGHTS" "[I") (.int 0)) (.int (32))) (by decide +kernel))).trans (congrArg (fun v => some (Value.int v)) (show (32 : Int32) = stv 2 0 by decide))
  by_cases e1 : j = 1
  · subst e1; exact (va_eqt (hs (Cond.eq (.elem (.static "VoiceHouse" "HEIGHTS" "[I") (.int 1)) (.int (16))) (by decide +kernel))).trans (congrArg (fun v => some (Value.int v)) (show (16 : Int32) = stv 2 1 by decide))
  by_cases e2 : j = 2
  · subst e2; exact (va_eqt (hs (Cond.eq (.elem (.static "VoiceHouse" "HEIGHTS" "[I") (.int 2)) (.int (-8))) (by decide +kernel))).trans (congrArg (fun v => some (Value.int v)) (show (-8 : Int32) = stv 2 2 by decide))
  omega
/-- an int of the heap -/
def hpI (H : Heap) (q j : Nat) : Int32 := match (H[q]?.bind (fun c => c.slots[j]?)) with
  | some (.int a) => a
  | _ => 0
theorem hpI_e {H : Heap} {q j : Nat} {cell : Cell} {v : Int32} (h : H[q]? = some cell) (hs : cell.slots[j]? = some (.int v)) : hpI H q j = v := by
  unfold hpI
  rw [h]
  simp only [Option.bind_some, hs]
theorem ofN_inj {a b : Nat} (ha : a < 2 ^ 31) (hb : b < 2 ^ 31) (h : Int32.ofNat a = Int32.ofNat b) : a = b := by
  have h' : nI a = nI b := h
  exact (nI_eq ha hb).mp h'
/-- the memory at the entry -/
theorem ws_M {s : State} {args : Array Value} {b L : Nat} {xs : Nat → Int32} (hL : L ≤ 3072) (hts : ∀ w ∈ lw_tbl, w.before args s = true) (hX : va_X b L xs s s.heap) (hg : (Jvm.Cond.and given_1 narrow_1).before args s = true) :
    ∃ (g : mm_G) (B : mm_B) (I : mm_TI) (J : mm_TJ) (P : mm_TP), g.1 = s.heap.size ∧ mm_nx B = s.heap.size ∧ mm_sl B = 0 ∧ mm_K g s s.heap ∧ mm_R g B I J P s s.heap ∧ (∀ q, mm_nx B ≤ q → mm_T B q = 0) ∧ ly_G g B ∧ st_c g I ∧ (∀ i, i < 3 → g.2.2 i < s.heap.size) ∧ mm_T B b = 1 ∧ mm_N B b = L := by
  obtain ⟨D, hD⟩ := ws_K hts
  obtain ⟨t0, v0, c0, a0, b0, k0, l0, m0, s0, -⟩ := ws_T0 hg
  obtain ⟨t1, v1, c1, a1, b1, k1, l1, m1, s1, -⟩ := ws_T1 hg
  obtain ⟨t2, v2, c2, a2, b2, k2, l2, m2, s2, -⟩ := ws_T2 hg
  obtain ⟨scr, x1, x2, x3, x4, x5⟩ := hX
  have hb : b < s.heap.size := (Array.getElem?_eq_some_iff.mp x1).1
  have z0 : t0 < s.heap.size := (Array.getElem?_eq_some_iff.mp a0).1
  have z1 : t1 < s.heap.size := (Array.getElem?_eq_some_iff.mp a1).1
  have z2 : t2 < s.heap.size := (Array.getElem?_eq_some_iff.mp a2).1
  have scrN : scr.slots.size.toInt32 = Int32.ofNat L := by rw [x4]
  have n0 : b = t0 → L = 4 := fun e => by
    rw [e, a0] at x1; cases x1
    exact ofN_inj (by omega) (by omega) (scrN.symm.trans m0)
  have n1 : b = t1 → L = 52 := fun e => by
    rw [e, a1] at x1; cases x1
    exact ofN_inj (by omega) (by omega) (scrN.symm.trans m1)
  have n2 : b = t2 → L = 3 := fun e => by
    rw [e, a2] at x1; cases x1
    exact ofN_inj (by omega) (by omega) (scrN.symm.trans m2)
  have n01 : t0 ≠ t1 := fun e => by
    rw [e, a1] at a0; cases a0
    exact absurd (ofN_inj (by omega) (by omega) (m1.symm.trans m0)) (by omega)
  have n02 : t0 ≠ t2 := fun e => by
    rw [e, a2] at a0; cases a0
    exact absurd (ofN_inj (by omega) (by omega) (m2.symm.trans m0)) (by omega)
  have n12 : t1 ≠ t2 := fun e => by
    rw [e, a2] at a1; cases a1
    exact absurd (ofN_inj (by omega) (by omega) (m2.symm.trans m1)) (by omega)
  refine ⟨(s.heap.size, D, fun i => if i = 0 then t0 else if i = 1 then t1 else t2), (s.heap.size, 0, fun q => if q = b ∨ q = t0 ∨ q = t1 ∨ q = t2 then 1 else 0, fun q => if q = b then L else if q = t0 then 4 else if q = t1 then 52 else 3), hpI s.heap, fun _ _ => 0, fun _ _ => none, rfl, rfl, rfl, ⟨hD, fun w hw => ?_, fun i n hn => ?_⟩, ⟨rfl, fun q hq => ?_⟩, fun q hq => ?_, fun i n hn => ?_, ⟨fun j hj => ?_, fun j hj => ?_, fun j hj => ?_⟩, fun i hi => ?_, ?_, ?_⟩
  · have h1 := hts w (List.mem_filter.mp hw).1
    have h2 := (List.mem_filter.mp hw).2
    unfold mm_isN at h2
    split at h2
    · exact va_Nw.of rfl h1
    · exact va_Nw.of rfl h1
    · exact h1
    · exact va_Nw.of rfl h1
    · cases h2
  · have hini := hts (Cond.initialized "VoiceHouse") (List.mem_of_getElem? (i := 75) (by decide +kernel))
    rcases (show i = 0 ∨ i = 1 ∨ i = 2 ∨ 3 ≤ i by omega) with rfl | rfl | rfl | e
    · cases hn; exact va_Zref (hts _ (List.mem_of_getElem? (i := 1107) (by decide +kernel))) hini v0 (fun a ha h => by have h' : s.heap.size ≤ a := h; omega)
    · cases hn; exact va_Zref (hts _ (List.mem_of_getElem? (i := 793) (by decide +kernel))) hini v1 (fun a ha h => by have h' : s.heap.size ≤ a := h; omega)
    · cases hn; exact va_Zref (hts _ (List.mem_of_getElem? (i := 770) (by decide +kernel))) hini v2 (fun a ha h => by have h' : s.heap.size ≤ a := h; omega)
    · rw [show mm_st[i]? = none from List.getElem?_eq_none (by show 3 ≤ i; omega)] at hn; cases hn
  · have hq1 : q = b ∨ q = t0 ∨ q = t1 ∨ q = t2 := by
      by_cases c : q = b ∨ q = t0 ∨ q = t1 ∨ q = t2
      · exact c
      · exact absurd (show (if q = b ∨ q = t0 ∨ q = t1 ∨ q = t2 then 1 else 0) = 0 from if_neg c) hq
    have hT : mm_T ((s.heap.size, 0, fun q => if q = b ∨ q = t0 ∨ q = t1 ∨ q = t2 then 1 else 0, fun q => if q = b then L else if q = t0 then 4 else if q = t1 then 52 else 3) : mm_B) q = 1 := if_pos hq1
    have key : ∀ (cell : Cell) (N : Nat), s.heap[q]? = some cell → s.isArrayOf cell .int → cell.vm ≠ .unknown → N ≤ cell.slots.size → cell.slots.size.toInt32 = Int32.ofNat N → (∀ j, j < N → ∃ v, cell.slots[j]? = some (.int v)) → N < 2 ^ 31 → (if q = b then L else if q = t0 then 4 else if q = t1 then 52 else 3) = N → _ := fun cell N u1 u2 u3 u4 u5 u6 u7 u8 =>
      (show ((q < s.heap.size ∧ (if q = b then L else if q = t0 then 4 else if q = t1 then 52 else 3) < 2 ^ 31) ∧ (mm_T ((s.heap.size, 0, fun q => if q = b ∨ q = t0 ∨ q = t1 ∨ q = t2 then 1 else 0, fun q => if q = b then L else if q = t0 then 4 else if q = t1 then 52 else 3) : mm_B) q ≠ 1 → s.heap.size ≤ q) ∧ mm_c D ((s.heap.size, 0, fun q => if q = b ∨ q = t0 ∨ q = t1 ∨ q = t2 then 1 else 0, fun q => if q = b then L else if q = t0 then 4 else if q = t1 then 52 else 3) : mm_B) (hpI s.heap) (fun _ _ => 0) (fun _ _ => none) s s.heap q) from
        ⟨⟨(Array.getElem?_eq_some_iff.mp u1).1, by rw [u8]; exact u7⟩, fun h => absurd hT h, fun _ => ⟨cell, u1, u2, u3, by show (if q = b then L else if q = t0 then 4 else if q = t1 then 52 else 3) ≤ _; rw [u8]; exact u4, by show _ = Int32.ofNat (if q = b then L else if q = t0 then 4 else if q = t1 then 52 else 3); rw [u8]; exact u5, fun j hj => by
          have hj' : j < (if q = b then L else if q = t0 then 4 else if q = t1 then 52 else 3) := hj
          rw [u8] at hj'
          obtain ⟨v, hv⟩ := u6 j hj'
          rw [hpI_e u1 hv]; exact hv⟩, fun ci _ e => by rw [hT] at e; omega, fun k e => by rw [hT] at e; omega⟩)
    by_cases eb : q = b
    · exact key scr L (by rw [eb]; exact x1) x2 x3 (by omega) scrN (fun j hj => ⟨_, x5 j hj⟩) (by omega) (if_pos eb)
    · rcases hq1 with e | e | e | e
      · exact absurd e eb
      · exact key c0 4 (by rw [e]; exact a0) b0 k0 l0 m0 (fun j hj => ⟨_, s0 j hj⟩) (by omega) (by rw [if_neg eb, if_pos e])
      · exact key c1 52 (by rw [e]; exact a1) b1 k1 l1 m1 (fun j hj => ⟨_, s1 j hj⟩) (by omega) (by rw [if_neg eb, if_neg (by omega), if_pos e])
      · exact key c2 3 (by rw [e]; exact a2) b2 k2 l2 m2 (fun j hj => ⟨_, s2 j hj⟩) (by omega) (by rw [if_neg eb, if_neg (by omega), if_neg (by omega)])
  · have hq' : s.heap.size ≤ q := hq
    show (if q = b ∨ q = t0 ∨ q = t1 ∨ q = t2 then 1 else 0) = 0
    rw [if_neg (by omega)]
  · rcases (show i = 0 ∨ i = 1 ∨ i = 2 ∨ 3 ≤ i by omega) with rfl | rfl | rfl | e
    · cases hn
      refine ⟨show (if t0 = b ∨ t0 = t0 ∨ t0 = t1 ∨ t0 = t2 then 1 else 0) = 1 from if_pos (by omega), show (if t0 = b then L else if t0 = t0 then 4 else if t0 = t1 then 52 else 3) = 4 from ?_⟩
      by_cases c : t0 = b
      · rw [if_pos c]; exact n0 c.symm
      · rw [if_neg c, if_pos rfl]
    · cases hn
      refine ⟨show (if t1 = b ∨ t1 = t0 ∨ t1 = t1 ∨ t1 = t2 then 1 else 0) = 1 from if_pos (by omega), show (if t1 = b then L else if t1 = t0 then 4 else if t1 = t1 then 52 else 3) = 52 from ?_⟩
      by_cases c : t1 = b
      · rw [if_pos c]; exact n1 c.symm
      · rw [if_neg c, if_neg (by omega), if_pos rfl]
    · cases hn
      refine ⟨show (if t2 = b ∨ t2 = t0 ∨ t2 = t1 ∨ t2 = t2 then 1 else 0) = 1 from if_pos (by omega), show (if t2 = b then L else if t2 = t0 then 4 else if t2 = t1 then 52 else 3) = 3 from ?_⟩
      by_cases c : t2 = b
      · rw [if_pos c]; exact n2 c.symm
      · rw [if_neg c, if_neg (by omega), if_neg (by omega)]
    · rw [List.getElem?_eq_none (by show 3 ≤ i; omega)] at hn; cases hn
  · exact hpI_e a0 (s0 j hj)
  · exact hpI_e a1 (s1 j hj)
  · exact hpI_e a2 (s2 j hj)
  · rcases (show i = 0 ∨ i = 1 ∨ i = 2 by omega) with rfl | rfl | rfl
    · exact z0
    · exact z1
    · exact z2
  · exact if_pos (Or.inl rfl)
  · exact if_pos rfl
