/-- what the statics' rows hold -/
def st_c (g : mm_G) (I : mm_TI) : Prop := (∀ k, k < 4 → I (g.2.2 0) k = nI (28 - 8 * k)) ∧ (∀ j, j < 52 → I (g.2.2 1) j = nI (sp_gn j)) ∧ (∀ k, k < 3 → I (g.2.2 2) k = sp_ph k)
/-- a pulse with its sign -/
def sp_pp (sg k : Nat) : Int32 := if sg = 0 then sp_ph k else - sp_ph k
/-- k places of a pulse at pl, added -/
def sp_ap (f : Nat → Int32) (pl sg k : Nat) : Nat → Int32 := fun n => if pl ≤ n ∧ n < pl + k then f n + sp_pp sg (n - pl) else f n
theorem sp_ap_0 (f : Nat → Int32) (pl sg : Nat) : sp_ap f pl sg 0 = f := by
  funext n; unfold sp_ap; rw [if_neg (by omega)]
theorem sp_ap_s (f : Nat → Int32) (pl sg k : Nat) : va_up (sp_ap f pl sg k) (pl + k) (sp_ap f pl sg k (pl + k) + sp_pp sg k) = sp_ap f pl sg (k + 1) := by
  funext n
  by_cases e : n = pl + k
  · subst e
    rw [va_up_s]
    unfold sp_ap
    rw [if_neg (by omega), if_pos (by omega), Nat.add_sub_cancel_left]
  · rw [va_up_n _ _ e]
    unfold sp_ap
    by_cases c : pl ≤ n ∧ n < pl + k
    · rw [if_pos c, if_pos (by omega)]
    · rw [if_neg c, if_neg (by omega)]
/-- two pulses in a part of sb places -/
def sp_pv (sb e es o os : Nat) : Nat → Int32 := sp_ap (sp_ap (fun _ => 0) e es (min 3 (sb - e))) o os (min 3 (sb - o))
section VH3
variable {g : mm_G} {B : mm_B} {I : mm_TI} {J : mm_TJ} {P : mm_TP} {x b qh qa : Nat}
theorem lp_X11_lookBehind {L sb : Nat} (hne : qh ≠ qa) (th : mm_T B qh = 200) (ta : mm_T B qa = 200) (nh : 160 ≤ mm_N B qh) (na : sb ≤ mm_N B qa) (hb : sb ≤ 80) (hL : 20 ≤ L) (hL2 : L ≤ 147) : ∀ (d n : Nat), n + d = sb →
    Ev g mX11_lookBehind 13 [some (.ref qh), some (.int (nI L)), some (.ref qa), some (.int (nI sb)), some (.int (nI (160 - L))), some (.int (nI (n % L))), some (.int (nI n))] [] B (va_up I qa (sgp (I qa) 0 n (sp_beh (I qh) L))) J P
      (none, B, va_up I qa (sgp (I qa) 0 sb (sp_beh (I qh) L)), J, P) := by
  intro d
  induction d with
  | zero =>
    intro n hn
    refine ev_iload 15 dX11_lookBehind_13 rfl rfl ?_
    refine ev_iload_n 16 dX11_lookBehind_15 rfl rfl ?_
    refine ev_icmp_geN 19 54 dX11_lookBehind_16 (by decide) (by omega) (by omega) rfl (fun hbr => ?_) (fun hx => absurd ((by omega)) hx)
    obtain rfl : n = sb := by omega
    exact ev_vret dX11_lookBehind_54 rfl (rfl)
  | succ d ih =>
    intro n hn
    have hm : n % L < L := Nat.mod_lt _ (by omega)
    have e2 := sgp_grow (f := I qa) (off := 0) (n := n) (v := sp_beh (I qh) L) (x := I qh (160 - L + n % L)) rfl
    simp only [Nat.zero_add] at e2
    have e3 := ih (n + 1) (by omega)
    refine ev_iload 15 dX11_lookBehind_13 rfl rfl ?_
    refine ev_iload_n 16 dX11_lookBehind_15 rfl rfl ?_
    refine ev_icmp_geN 19 54 dX11_lookBehind_16 (by decide) (by omega) (by omega) rfl (fun hx => absurd hx ((by omega))) (fun hbr => ?_)
    refine ev_aload_n 20 dX11_lookBehind_19 rfl rfl ?_
    refine ev_iload 22 dX11_lookBehind_20 rfl rfl ?_
    refine ev_aload_n 23 dX11_lookBehind_22 rfl rfl ?_
    refine ev_iload 25 dX11_lookBehind_23 rfl rfl ?_
    refine ev_iload 27 dX11_lookBehind_25 rfl rfl ?_
    refine ev_iaddN 28 dX11_lookBehind_27 rfl ?_
    refine ev_iald 29 _ dX11_lookBehind_28 th rfl (by omega) rfl ?_
    refine ev_iast 30 _ dX11_lookBehind_29 ta rfl (by omega) rfl ?_
    refine ev_iload 32 dX11_lookBehind_30 rfl rfl ?_
    refine ev_iconstN 33 1 dX11_lookBehind_32 rfl ?_
    refine ev_iaddN 34 dX11_lookBehind_33 rfl ?_
    refine ev_iload_n 35 dX11_lookBehind_34 rfl rfl ?_
    rw [va_up_s, bx_uu, va_up_n I _ hne, e2]
    refine ev_icmp_geN 38 45 dX11_lookBehind_35 (by decide) (by omega) (by omega) rfl (fun h1 => ?_) (fun h1 => ?_)
    · refine ev_iconstN 46 0 dX11_lookBehind_45 rfl ?_
      refine ev_istore 48 (lv' := [_, _, _, _, some (.int _), _, _]) dX11_lookBehind_46 (Nat.le_of_ble_eq_true rfl) rfl rfl ?_
      refine ev_iincN 51 (lv' := [_, _, _, _, _, some (.int _), _]) 1 dX11_lookBehind_48 rfl (Nat.le_of_ble_eq_true rfl) rfl rfl ?_
      refine ev_goto 13 dX11_lookBehind_51 (by decide) ?_
      rw [show (n + 1) % L = 0 by have := Nat.add_mod n 1 L; rw [Nat.mod_eq_of_lt (show 1 < L by omega), show n % L + 1 = L by omega, Nat.mod_self] at this; exact this] at e3
      exact e3
    · refine ev_iload 40 dX11_lookBehind_38 rfl rfl ?_
      refine ev_iconstN 41 1 dX11_lookBehind_40 rfl ?_
      refine ev_iaddN 42 dX11_lookBehind_41 rfl ?_
      refine ev_goto 46 dX11_lookBehind_42 (by decide) ?_
      refine ev_istore 48 (lv' := [_, _, _, _, some (.int _), _, _]) dX11_lookBehind_46 (Nat.le_of_ble_eq_true rfl) rfl rfl ?_
      refine ev_iincN 51 (lv' := [_, _, _, _, _, some (.int _), _]) 1 dX11_lookBehind_48 rfl (Nat.le_of_ble_eq_true rfl) rfl rfl ?_
      refine ev_goto 13 dX11_lookBehind_51 (by decide) ?_
      rw [show (n + 1) % L = n % L + 1 by have := Nat.add_mod n 1 L; rw [Nat.mod_eq_of_lt (show 1 < L by omega), Nat.mod_eq_of_lt (show n % L + 1 < L by omega)] at this; exact this] at e3
      exact e3
theorem ct_X11_lookBehind {L sb : Nat} (hne : qh ≠ qa) (th : mm_T B qh = 200) (ta : mm_T B qa = 200) (nh : 160 ≤ mm_N B qh) (na : sb ≤ mm_N B qa) (hb : sb ≤ 80) (hL : 20 ≤ L) (hL2 : L ≤ 147) : Ct g mX11_lookBehind [.ref qh, .int (nI L), .ref qa, .int (nI sb)] B I J P
    (none, B, va_up I qa (sgp (I qa) 0 sb (sp_beh (I qh) L)), J, P) := by
  have e := lp_X11_lookBehind (g := g) (I := I) (J := J) (P := P) hne th ta nh na hb hL hL2 sb 0 (by omega)
  rw [sgp_0, va_up_id, Nat.zero_mod] at e
  refine ct_of (lv := [some (.ref qh), some (.int (nI L)), some (.ref qa), some (.int (nI sb)), none, none, none]) (by decide +kernel) (Nat.le_of_ble_eq_true rfl) rfl ?_
  refine ev_sipushN 3 160 dX11_lookBehind_0 (by decide +kernel) rfl ?_
  refine ev_iload_n 4 dX11_lookBehind_3 rfl rfl ?_
  refine ev_isubN 5 dX11_lookBehind_4 (by omega) rfl ?_
  refine ev_istore 7 (lv' := [_, _, _, some (.int _), _, _, _]) dX11_lookBehind_5 (Nat.le_of_ble_eq_true rfl) rfl rfl ?_
  refine ev_iconstN 8 0 dX11_lookBehind_7 rfl ?_
  refine ev_istore 10 (lv' := [_, _, _, _, some (.int _), _, _]) dX11_lookBehind_8 (Nat.le_of_ble_eq_true rfl) rfl rfl ?_
  refine ev_iconstN 11 0 dX11_lookBehind_10 rfl ?_
  refine ev_istore 13 (lv' := [_, _, _, _, _, some (.int _), _]) dX11_lookBehind_11 (Nat.le_of_ble_eq_true rfl) rfl rfl ?_
  exact e
theorem lp_X7_addPulse {sb pl sg : Nat} (hG : ly_G g B) (hc : st_c g I) (hqg : g.2.2 2 ≠ qa) (ta : mm_T B qa = 200) (na : sb ≤ mm_N B qa) (hb : sb ≤ 80) (hp : pl < 2 ^ 30) (hs : sg < 2 ^ 31) : ∀ (d k : Nat), k + d = min 3 (sb - pl) →
    Ev g mX7_addPulse 3 [some (.ref qa), some (.int (nI sb)), some (.int (nI pl)), some (.int (nI sg)), some (.int (nI k))] [] B (va_up I qa (sp_ap (I qa) pl sg k)) J P
      (none, B, va_up I qa (sp_ap (I qa) pl sg (min 3 (sb - pl))), J, P) := by
  intro d
  induction d with
  | zero =>
    intro k hk
    refine ev_iload 5 dX7_addPulse_3 rfl rfl ?_
    refine ev_getsN 8 (i := 2) rfl dX7_addPulse_5 lk812 rfl ?_
    refine ev_alenR 9 dX7_addPulse_8 (hG 2 _ rfl).1 rfl ?_
    refine ev_eqI (y := nI 3) (by rw [(hG 2 _ rfl).2]) ?_
    refine ev_icmp_geN 12 55 dX7_addPulse_9 (by decide) (by omega) (by omega) rfl (fun h1 => ?_) (fun h1 => ?_)
    · rw [← hk]
      exact ev_vret dX7_addPulse_55 rfl (rfl)
    · refine ev_iload_n 13 dX7_addPulse_12 rfl rfl ?_
      refine ev_iload 15 dX7_addPulse_13 rfl rfl ?_
      refine ev_iaddN 16 dX7_addPulse_15 rfl ?_
      refine ev_iload_n 17 dX7_addPulse_16 rfl rfl ?_
      refine ev_icmp_geN 20 55 dX7_addPulse_17 (by decide) (by omega) (by omega) rfl (fun hbr => ?_) (fun hx => absurd ((by omega)) hx)
      rw [← hk]
      exact ev_vret dX7_addPulse_55 rfl (rfl)
  | succ d ih =>
    intro k hk
    have e3 := ih (k + 1) (by omega)
    rw [← sp_ap_s] at e3
    have hr : va_up I qa (sp_ap (I qa) pl sg k) (g.2.2 2) k = sp_ph k := by rw [va_up_n _ _ hqg]; exact hc.2.2 k (by omega)
    refine ev_iload 5 dX7_addPulse_3 rfl rfl ?_
    refine ev_getsN 8 (i := 2) rfl dX7_addPulse_5 lk812 rfl ?_
    refine ev_alenR 9 dX7_addPulse_8 (hG 2 _ rfl).1 rfl ?_
    refine ev_eqI (y := nI 3) (by rw [(hG 2 _ rfl).2]) ?_
    refine ev_icmp_geN 12 55 dX7_addPulse_9 (by decide) (by omega) (by omega) rfl (fun hx => absurd hx ((by omega))) (fun hbr => ?_)
    refine ev_iload_n 13 dX7_addPulse_12 rfl rfl ?_
    refine ev_iload 15 dX7_addPulse_13 rfl rfl ?_
    refine ev_iaddN 16 dX7_addPulse_15 rfl ?_
    refine ev_iload_n 17 dX7_addPulse_16 rfl rfl ?_
    refine ev_icmp_geN 20 55 dX7_addPulse_17 (by decide) (by omega) (by omega) rfl (fun hx => absurd hx ((by omega))) (fun hbr => ?_)
    refine ev_aload_n 21 dX7_addPulse_20 rfl rfl ?_
    refine ev_iload_n 22 dX7_addPulse_21 rfl rfl ?_
    refine ev_iload 24 dX7_addPulse_22 rfl rfl ?_
    refine ev_iaddN 25 dX7_addPulse_24 rfl ?_
    refine ev_dup2_11 26 dX7_addPulse_25 rfl rfl rfl ?_
    refine ev_iald 27 _ dX7_addPulse_26 ta rfl (by omega) rfl ?_
    refine ev_iload_n 28 dX7_addPulse_27 rfl rfl ?_
    refine ev_if_neN 31 40 dX7_addPulse_28 (by decide) (by omega) rfl (fun h1 => ?_) (fun h1 => ?_)
    · refine ev_getsN 43 (i := 2) rfl dX7_addPulse_40 lk812 rfl ?_
      refine ev_iload 45 dX7_addPulse_43 rfl rfl ?_
      refine ev_ialdR 46 _ dX7_addPulse_45 (hG 2 _ rfl).1 rfl (by have hNN := (hG 2 _ rfl).2; omega) rfl ?_
      refine ev_ineg 47 dX7_addPulse_46 rfl ?_
      refine ev_iadd 48 dX7_addPulse_47 rfl ?_
      refine ev_iast 49 _ dX7_addPulse_48 ta rfl (by omega) rfl ?_
      refine ev_iincN 52 (lv' := [_, _, _, some (.int _), _]) 1 dX7_addPulse_49 rfl (Nat.le_of_ble_eq_true rfl) rfl rfl ?_
      refine ev_goto 3 dX7_addPulse_52 (by decide) ?_
      rw [hr, va_up_s, bx_uu]
      rw [show sp_pp sg k = - sp_ph k by unfold sp_pp; rw [if_neg h1]] at e3
      exact e3
    · refine ev_getsN 34 (i := 2) rfl dX7_addPulse_31 lk812 rfl ?_
      refine ev_iload 36 dX7_addPulse_34 rfl rfl ?_
      refine ev_ialdR 37 _ dX7_addPulse_36 (hG 2 _ rfl).1 rfl (by have hNN := (hG 2 _ rfl).2; omega) rfl ?_
      refine ev_goto 47 dX7_addPulse_37 (by decide) ?_
      refine ev_iadd 48 dX7_addPulse_47 rfl ?_
      refine ev_iast 49 _ dX7_addPulse_48 ta rfl (by omega) rfl ?_
      refine ev_iincN 52 (lv' := [_, _, _, some (.int _), _]) 1 dX7_addPulse_49 rfl (Nat.le_of_ble_eq_true rfl) rfl rfl ?_
      refine ev_goto 3 dX7_addPulse_52 (by decide) ?_
      rw [hr, va_up_s, bx_uu]
      rw [show sp_pp sg k = sp_ph k by unfold sp_pp; rw [if_pos h1]] at e3
      exact e3
theorem ct_X7_addPulse {sb pl sg : Nat} (hG : ly_G g B) (hc : st_c g I) (hqg : g.2.2 2 ≠ qa) (ta : mm_T B qa = 200) (na : sb ≤ mm_N B qa) (hb : sb ≤ 80) (hp : pl < 2 ^ 30) (hs : sg < 2 ^ 31) : Ct g mX7_addPulse [.ref qa, .int (nI sb), .int (nI pl), .int (nI sg)] B I J P
    (none, B, va_up I qa (sp_ap (I qa) pl sg (min 3 (sb - pl))), J, P) := by
  have e := lp_X7_addPulse (g := g) (I := I) (J := J) (P := P) hG hc hqg ta na hb hp hs (min 3 (sb - pl)) 0 (by omega)
  rw [sp_ap_0, va_up_id] at e
  refine ct_of (lv := [some (.ref qa), some (.int (nI sb)), some (.int (nI pl)), some (.int (nI sg)), none]) (by decide +kernel) (Nat.le_of_ble_eq_true rfl) rfl ?_
  refine ev_iconstN 1 0 dX7_addPulse_0 rfl ?_
  refine ev_istore 3 (lv' := [_, _, _, some (.int _), _]) dX7_addPulse_1 (Nat.le_of_ble_eq_true rfl) rfl rfl ?_
  exact e
theorem st_c_up {f : Nat → Int32} {q : Nat} (h : st_c g I) (h0 : g.2.2 0 ≠ q) (h1 : g.2.2 1 ≠ q) (h2 : g.2.2 2 ≠ q) : st_c g (va_up I q f) := by
  unfold st_c
  rw [va_up_n _ _ h0, va_up_n _ _ h1, va_up_n _ _ h2]
  exact h
theorem ct_X7_drawPulses {pt sb ev es od os : Nat} (hG : ly_G g B) (hc : st_c g I) (tp : mm_T B pt = 107) (hpa : pt ≠ qa) (h0 : g.2.2 0 ≠ qa) (h1 : g.2.2 1 ≠ qa) (h2 : g.2.2 2 ≠ qa) (ta : mm_T B qa = 200) (na : sb ≤ mm_N B qa) (h31 : mm_N B qa < 2 ^ 31) (hb : sb ≤ 80)
    (e1 : I pt 2 = nI ev) (e2 : I pt 3 = nI es) (e3 : I pt 4 = nI od) (e4 : I pt 5 = nI os) (p1 : ev < 2 ^ 30) (p2 : es < 2 ^ 31) (p3 : od < 2 ^ 30) (p4 : os < 2 ^ 31) : Ct g mX7_drawPulses [.ref pt, .ref qa, .int (nI sb)] B I J P
    (none, B, va_up I qa (sp_pv sb ev es od os), J, P) := by
  refine ct_of (lv := [some (.ref pt), some (.ref qa), some (.int (nI sb))]) (by decide +kernel) (Nat.le_of_ble_eq_true rfl) rfl ?_
  refine ev_aload_n 1 dX7_drawPulses_0 rfl rfl ?_
  refine ev_iconstN 2 0 dX7_drawPulses_1 rfl ?_
  refine ev_invSv 5 (Mc := mJ7_fill_53178) ⟨lk687, lk90, hdJ7_fill_53178, (Nat.le_of_ble_eq_true rfl), (Nat.le_of_ble_eq_true rfl)⟩ lk808 lk686 dX7_drawPulses_2 (ct_fill0 ta h31) rfl (Nat.le_of_ble_eq_true rfl) rfl rfl ?_
  refine ev_aload_n 6 dX7_drawPulses_5 rfl rfl ?_
  refine ev_iload_n 7 dX7_drawPulses_6 rfl rfl ?_
  refine ev_aload_n 8 dX7_drawPulses_7 rfl rfl ?_
  refine ev_getI 11 mm_cl7 (j := 2) (Nat.le_of_ble_eq_true rfl) dX7_drawPulses_8 lk207 (fun _ _ _ => rfl) tp rfl ?_
  refine ev_eqI (y := nI (ev)) ((by rw [va_up_n _ _ hpa]; exact e1)) ?_
  refine ev_aload_n 12 dX7_drawPulses_11 rfl rfl ?_
  refine ev_getI 15 mm_cl7 (j := 3) (Nat.le_of_ble_eq_true rfl) dX7_drawPulses_12 lk209 (fun _ _ _ => rfl) tp rfl ?_
  refine ev_eqI (y := nI (es)) ((by rw [va_up_n _ _ hpa]; exact e2)) ?_
  refine ev_invSv 18 (Mc := mX7_addPulse) ⟨lk811, lk79, hdX7_addPulse, (Nat.le_of_ble_eq_true rfl), (Nat.le_of_ble_eq_true rfl)⟩ lk809 lk810 dX7_drawPulses_15 (ct_X7_addPulse hG (st_c_up hc h0 h1 h2) h2 ta na hb p1 p2) rfl (Nat.le_of_ble_eq_true rfl) rfl rfl ?_
  rw [va_up_s, bx_uu]
  refine ev_aload_n 19 dX7_drawPulses_18 rfl rfl ?_
  refine ev_iload_n 20 dX7_drawPulses_19 rfl rfl ?_
  refine ev_aload_n 21 dX7_drawPulses_20 rfl rfl ?_
  refine ev_getI 24 mm_cl7 (j := 4) (Nat.le_of_ble_eq_true rfl) dX7_drawPulses_21 lk211 (fun _ _ _ => rfl) tp rfl ?_
  refine ev_eqI (y := nI (od)) ((by rw [va_up_n _ _ hpa]; exact e3)) ?_
  refine ev_aload_n 25 dX7_drawPulses_24 rfl rfl ?_
  refine ev_getI 28 mm_cl7 (j := 5) (Nat.le_of_ble_eq_true rfl) dX7_drawPulses_25 lk213 (fun _ _ _ => rfl) tp rfl ?_
  refine ev_eqI (y := nI (os)) ((by rw [va_up_n _ _ hpa]; exact e4)) ?_
  refine ev_invSv 31 (Mc := mX7_addPulse) ⟨lk811, lk79, hdX7_addPulse, (Nat.le_of_ble_eq_true rfl), (Nat.le_of_ble_eq_true rfl)⟩ lk809 lk810 dX7_drawPulses_28 (ct_X7_addPulse hG (st_c_up hc h0 h1 h2) h2 ta na hb p3 p4) rfl (Nat.le_of_ble_eq_true rfl) rfl rfl ?_
  rw [va_up_s, bx_uu]
  exact ev_vret dX7_drawPulses_31 rfl (rfl)
end VH3
