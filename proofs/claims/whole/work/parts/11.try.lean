/-! texts tried -/
theorem prw_bd {t : Nat → Nat} {L a : Nat} (h : a ≤ L) : a ≤ (prw t L a).2.1 ∧ (prw t L a).2.1 ≤ L ∧ ((prw t L a).1 = 1 → a < (prw t L a).2.1) ∧ (prw t L a).2.2.1 < 100 ∧ (prw t L a).2.2.2.1 < 10 ∧ (prw t L a).2.2.2.2 < 1000 := by
  have i1 := nd_in t L 2 a h
  have d := fun m a k hk => (nd_dig (t := t) (L := L) m a k hk).2.2
  have l1 := nd_le t L 2 a
  have p1 : pv t a (nd t L a 2) < 10 ^ 2 := Nat.lt_of_lt_of_le (pv_lt _ (fun k hk => d 2 a k hk)) (Nat.pow_le_pow_right (by decide) l1)
  unfold prw
  dsimp only
  by_cases h1 : nd t L a 2 = 0
  · simp only [h1, if_true]; omega
  by_cases h2 : a + nd t L a 2 < L ∧ t (a + nd t L a 2) = 46
  rotate_left
  · simp only [if_neg h1, if_pos h2]; omega
  have i2 := nd_in t L 1 (a + nd t L a 2 + 1) (by omega)
  have l2 := nd_le t L 1 (a + nd t L a 2 + 1)
  have p2 : pv t (a + nd t L a 2 + 1) (nd t L (a + nd t L a 2 + 1) 1) < 10 ^ 1 := Nat.lt_of_lt_of_le (pv_lt _ (fun k hk => d 1 _ k hk)) (Nat.pow_le_pow_right (by decide) l2)
  by_cases h3 : nd t L (a + nd t L a 2 + 1) 1 = 0
  · simp only [if_neg h1, if_neg (fun z : ¬ (a + nd t L a 2 < L ∧ t (a + nd t L a 2) = 46) => z h2), if_pos h3]; omega
  by_cases h4 : a + nd t L a 2 + 1 + nd t L (a + nd t L a 2 + 1) 1 < L ∧ t (a + nd t L a 2 + 1 + nd t L (a + nd t L a 2 + 1) 1) = 61
  rotate_left
  · simp only [if_neg h1, if_neg (fun z : ¬ (a + nd t L a 2 < L ∧ t (a + nd t L a 2) = 46) => z h2), if_neg h3, if_pos h4]; omega
  have i3 := nd_in t L 3 (a + nd t L a 2 + 1 + nd t L (a + nd t L a 2 + 1) 1 + 1) (by omega)
  have l3 := nd_le t L 3 (a + nd t L a 2 + 1 + nd t L (a + nd t L a 2 + 1) 1 + 1)
  have p3 : pv t (a + nd t L a 2 + 1 + nd t L (a + nd t L a 2 + 1) 1 + 1) (nd t L (a + nd t L a 2 + 1 + nd t L (a + nd t L a 2 + 1) 1 + 1) 3) < 10 ^ 3 := Nat.lt_of_lt_of_le (pv_lt _ (fun k hk => d 3 _ k hk)) (Nat.pow_le_pow_right (by decide) l3)
  by_cases h5 : nd t L (a + nd t L a 2 + 1 + nd t L (a + nd t L a 2 + 1) 1 + 1) 3 = 0
  · simp only [if_neg h1, if_neg (fun z : ¬ (a + nd t L a 2 < L ∧ t (a + nd t L a 2) = 46) => z h2), if_neg h3, if_neg (fun z : ¬ (a + nd t L a 2 + 1 + nd t L (a + nd t L a 2 + 1) 1 < L ∧ t (a + nd t L a 2 + 1 + nd t L (a + nd t L a 2 + 1) 1) = 61) => z h4), if_pos h5]; omega
  by_cases h6 : a + nd t L a 2 + 1 + nd t L (a + nd t L a 2 + 1) 1 + 1 + nd t L (a + nd t L a 2 + 1 + nd t L (a + nd t L a 2 + 1) 1 + 1) 3 < L ∧ t (a + nd t L a 2 + 1 + nd t L (a + nd t L a 2 + 1) 1 + 1 + nd t L (a + nd t L a 2 + 1 + nd t L (a + nd t L a 2 + 1) 1 + 1) 3) = 59
  · simp only [if_neg h1, if_neg (fun z : ¬ (a + nd t L a 2 < L ∧ t (a + nd t L a 2) = 46) => z h2), if_neg h3, if_neg (fun z : ¬ (a + nd t L a 2 + 1 + nd t L (a + nd t L a 2 + 1) 1 < L ∧ t (a + nd t L a 2 + 1 + nd t L (a + nd t L a 2 + 1) 1) = 61) => z h4), if_neg h5, if_neg (fun z : ¬ (a + nd t L a 2 + 1 + nd t L (a + nd t L a 2 + 1) 1 + 1 + nd t L (a + nd t L a 2 + 1 + nd t L (a + nd t L a 2 + 1) 1 + 1) 3 < L ∧ t (a + nd t L a 2 + 1 + nd t L (a + nd t L a 2 + 1) 1 + 1 + nd t L (a + nd t L a 2 + 1 + nd t L (a + nd t L a 2 + 1) 1 + 1) 3) = 59) => z h6)]
    exact ⟨by omega, by omega, fun _ => by omega, p1, p2, p3⟩
  · simp only [if_neg h1, if_neg (fun z : ¬ (a + nd t L a 2 < L ∧ t (a + nd t L a 2) = 46) => z h2), if_neg h3, if_neg (fun z : ¬ (a + nd t L a 2 + 1 + nd t L (a + nd t L a 2 + 1) 1 < L ∧ t (a + nd t L a 2 + 1 + nd t L (a + nd t L a 2 + 1) 1) = 61) => z h4), if_neg h5, if_pos h6]; omega
theorem IC_wrS {C : CS} (h : IC C) {l p x : Nat} (hl : l < 16) (hp : p < 4) (hx : x < 1000) (hE : wrE C l = 0) : IC (wrS C l p x) := by
  obtain ⟨hN, hU, h1, h8, hm, hrb, hrs⟩ := h
  obtain ⟨hz, hu, hs⟩ := pw_ok hE
  have hc := cn_le (sU C) 96
  have lb1 : b1 C < 96 := ff_lt 96 (by omega)
  have cb1 : cn (up (sU C) (b1 C) 1) 96 = cn (sU C) 96 + 1 := cn_up (ff_at 96 lb1) 96 lb1
  have lb2 : b2 C < 96 := ff_lt 96 (by omega)
  have cb2 : cn (up (up (sU C) (b1 C) 1) (b2 C) 1) 96 = cn (up (sU C) (b1 C) 1) 96 + 1 := cn_up (ff_at 96 lb2) 96 lb2
  have lb3 : b3 C < 96 := ff_lt 96 (by omega)
  have k1 := ch_lt (v := 1) hl
  have k0 := ch_lt (v := 0) hl
  have q1 : ∀ j : Nat, cT1 (wtC C l) p x j < 65536 := fun j => by
    show up (wtC C l) _ x j < 65536
    unfold up; split
    · omega
    · exact wtc_lt hN _ _ _ _
  have q2 : ∀ j : Nat, cT2 (wtC C l) l p x (b1 C) j < 65536 := fun j => by
    show up (cT1 (wtC C l) p x) _ _ j < 65536
    have := sm_lt (cT1 (wtC C l) p x) (2 * 4)
    unfold up; split
    · omega
    · exact q1 j
  have q3 : ∀ j : Nat, wrT C l p x j < 65536 := fun j => by
    show up (cT2 (wtC C l) l p x (b1 C)) _ _ j < 65536
    have := sm_lt (cT2 (wtC C l) l p x (b1 C)) (1 * 4)
    unfold up; split
    · omega
    · exact q2 j
  have hT : ∀ v m, ∀ k, k < m → wrT C l p x (v * 4 + k) < 65536 := fun v m k _ => q3 _
  have hlf : BN (lf (sM C) (sN C) (b1 C) (b2 C) (wrT C l p x)) := by
    unfold lf
    (repeat' split)
    · exact ly_BN (ly_BN hN _ (hT _ _)) _ (hT _ _)
    · exact ly_BN hN _ (hT _ _)
    · exact ly_BN (ly_BN hN _ (hT _ _)) _ (hT _ _)
    · exact ly_BN (ly_BN hN _ (hT _ _)) _ (hT _ _)
  refine ⟨?_, ?_, ?_, ?_, ?_, ?_, ?_⟩
  · exact ly_BN (ly_BN (ly_BN (ly_BN hlf _ (hT _ _)) _ (hT _ _)) _ (hT _ _)) _ (hT _ _)
  · exact up_BU (up_BU (up_BU hU (Nat.le_refl 1)) (Nat.le_refl 1)) (Nat.le_refl 1)
  · show 1 ≤ sZ C + 1; omega
  · show sZ C + 1 ≤ 8; omega
  · show 0 < 4; omega
  · intro i hi
    show alt (sb C) (sZ C) (b3 C) i < 96
    have hi2 : i < sZ C + 1 := hi
    unfold alt; (repeat' split)
    · exact lb3
    · exact hrb _ (by omega)
    · omega
  · intro i hi
    show alt (ss C) (sZ C) (sm (wrT C l p x) (0 * 4)) i < 251
    have hi2 : i < sZ C + 1 := hi
    have := sm_lt (wrT C l p x) (0 * 4)
    unfold alt; (repeat' split)
    · exact this
    · exact hrs _ (by omega)
    · omega
abbrev pl_ (t : Nat → Nat) (L a : Nat) : Nat := (prw t L a).2.2.1
abbrev pp_ (t : Nat → Nat) (L a : Nat) : Nat := (prw t L a).2.2.2.1
abbrev pv_ (t : Nat → Nat) (L a : Nat) : Nat := (prw t L a).2.2.2.2
noncomputable def trF (t : Nat → Nat) (L : Nat) : Nat → CS → Nat → Nat → Nat × Nat × Int32 × Nat × CS
  | 0, C, _, n => (0, 0, nI 0, n, C)
  | f + 1, C, a, n => if L ≤ a then (0, 0, nI 0, n, C) else if ¬ (prw t L a).1 = 1 then (a, 1, nI ((prw t L a).2.1 - a), n, C) else if ¬ (pl_ t L a < 16 ∧ pp_ t L a < 4) then (a, 2, nI 0, n, C) else cI (wrE C (pl_ t L a) = 0) (trF t L f (wrS C (pl_ t L a) (pp_ t L a) (pv_ t L a)) (prw t L a).2.1 (n + 1)) (a, 3, wrE C (pl_ t L a), n, C)
theorem trF_end {t : Nat → Nat} {L f : Nat} {C : CS} {a n : Nat} (h : L ≤ a) : trF t L (f + 1) C a n = (0, 0, nI 0, n, C) := if_pos h
theorem trF_1 {t : Nat → Nat} {L f : Nat} {C : CS} {a n : Nat} (h : ¬ L ≤ a) (h1 : ¬ (prw t L a).1 = 1) : trF t L (f + 1) C a n = (a, 1, nI ((prw t L a).2.1 - a), n, C) := by
  show (if L ≤ a then _ else if ¬ (prw t L a).1 = 1 then _ else _) = _
  rw [if_neg h, if_pos h1]
theorem trF_2 {t : Nat → Nat} {L f : Nat} {C : CS} {a n : Nat} (h : ¬ L ≤ a) (h1 : (prw t L a).1 = 1) (h2 : ¬ (pl_ t L a < 16 ∧ pp_ t L a < 4)) : trF t L (f + 1) C a n = (a, 2, nI 0, n, C) := by
  show (if L ≤ a then _ else if ¬ (prw t L a).1 = 1 then _ else if ¬ (pl_ t L a < 16 ∧ pp_ t L a < 4) then _ else _) = _
  rw [if_neg h, if_neg (fun z => z h1), if_pos h2]
theorem trF_3 {t : Nat → Nat} {L f : Nat} {C : CS} {a n : Nat} (h : ¬ L ≤ a) (h1 : (prw t L a).1 = 1) (h2 : pl_ t L a < 16 ∧ pp_ t L a < 4) (h3 : ¬ wrE C (pl_ t L a) = 0) : trF t L (f + 1) C a n = (a, 3, wrE C (pl_ t L a), n, C) := by
  show (if L ≤ a then _ else if ¬ (prw t L a).1 = 1 then _ else if ¬ (pl_ t L a < 16 ∧ pp_ t L a < 4) then _ else cI _ _ _) = _
  rw [if_neg h, if_neg (fun z => z h1), if_neg (fun z => z h2), cI_neg h3]
theorem trF_go {t : Nat → Nat} {L f : Nat} {C : CS} {a n : Nat} (h : ¬ L ≤ a) (h1 : (prw t L a).1 = 1) (h2 : pl_ t L a < 16 ∧ pp_ t L a < 4) (h3 : wrE C (pl_ t L a) = 0) : trF t L (f + 1) C a n = trF t L f (wrS C (pl_ t L a) (pp_ t L a) (pv_ t L a)) (prw t L a).2.1 (n + 1) := by
  show (if L ≤ a then _ else if ¬ (prw t L a).1 = 1 then _ else if ¬ (pl_ t L a < 16 ∧ pp_ t L a < 4) then _ else cI _ _ _) = _
  rw [if_neg h, if_neg (fun z => z h1), if_neg (fun z => z h2), cI_pos h3]
noncomputable def tr0 (t : Nat → Nat) (L : Nat) (C : CS) : Nat × Nat × Int32 × Nat × CS := trF t L 61 C 0 0
set_option maxHeartbeats 4000000 in
set_option maxRecDepth 100000 in
theorem c_X8_tryText (l : Launch) (E : En) (o : Nat) (a : Nat → Nat) (b : Nat → Nat) (y0 : Nat) (x0 : Nat) (v0 : Nat) (g0 : Nat) (k0 : Nat) (m0 : Nat) (g1 : Nat) (g2 : Nat) (g3 : Nat) (g4 : Nat) (td : Nat) (eb : Nat → Nat) (es : Nat → Nat) (ec : Nat → Nat) (et : Nat → Nat) (C : CS) (T : CS) (tc : Nat) (L : Nat) (ta : Nat) (br : Nat) (lf : Nat) (pl : Nat) (vl : Nat) (t : Nat → Nat) (po : Nat) (re : Nat) (ca : Int32) (vw : Nat) (hI : IC C) (hL : L ≤ 60) (hbr : br ≤ 1) (ht : BT t) : CtV l yX8_tryText wsX8_tryText ({ frames := 5, cells := 0, slots := 0, locals := 124 } : Room) E [.ref o] [ob 8 o [.ref (a 0), .ref (b 0), .ref y0, .ref x0, .ref v0, .ref g0, .ref k0, .ref m0], ob 5 (a 0) [.ref (a 1), .ref (a 2), .ref (a 3), .int (nI (sM C)), .int (nI (sW C))], ob 1 (a 1) [.ref (a 4)], ai E (a 4) 768 (sN C), ob 0 (a 2) [.ref (a 5)], az E (a 5) 96 (sU C), ob 3 (a 3) [.ref (a 6), .ref (a 7), .ref (a 8), .int (nI (sZ C))], ai E (a 6) 8 (sn C), ai E (a 7) 8 (sb C), ai E (a 8) 8 (ss C), ob 5 (b 0) [.ref (b 1), .ref (b 2), .ref (b 3), .int (nI (sM T)), .int (nI (sW T))], ob 1 (b 1) [.ref (b 4)], ai E (b 4) 768 (sN T), ob 0 (b 2) [.ref (b 5)], az E (b 5) 96 (sU T), ob 3 (b 3) [.ref (b 6), .ref (b 7), .ref (b 8), .int (nI (sZ T))], ai E (b 6) 8 (sn T), ai E (b 7) 8 (sb T), ai E (b 8) 8 (ss T), ob 4 x0 [.ref tc, .int (nI L), .int (nI ta), .int (nI br), .int (nI lf), .int (nI pl), .int (nI vl)], ac E tc 60 t, ob 6 v0 [.int (nI po), .int (nI re), .int (ca), .int (nI vw)], ob 7 g0 [.ref g1, .ref g2, .ref g3, .ref g4, .int (nI td)], ai E g1 3 eb, ai E g2 3 es, ai E g3 3 ec, ai E g4 12 et] (fun uu => ∃ (ta2 : Nat), ∃ (br2 : Nat), ∃ (lf2 : Nat), ∃ (pl2 : Nat), ∃ (vl2 : Nat), ∃ (td2 : Nat), ∃ (Wb : Nat → Nat), ∃ (Ws : Nat → Nat), ∃ (Wc : Nat → Nat), ∃ (Wt : Nat → Nat), (br2 ≤ 1) ∧ uu = [ob 8 o [.ref (a 0), .ref (b 0), .ref y0, .ref x0, .ref v0, .ref g0, .ref k0, .ref m0], ob 5 (a 0) [.ref (a 1), .ref (a 2), .ref (a 3), .int (nI (sM C)), .int (nI (sW C))], ob 1 (a 1) [.ref (a 4)], ai E (a 4) 768 (sN C), ob 0 (a 2) [.ref (a 5)], az E (a 5) 96 (sU C), ob 3 (a 3) [.ref (a 6), .ref (a 7), .ref (a 8), .int (nI (sZ C))], ai E (a 6) 8 (sn C), ai E (a 7) 8 (sb C), ai E (a 8) 8 (ss C), ob 5 (b 0) [.ref (b 1), .ref (b 2), .ref (b 3), .int (nI (sM ((tr0 t L C).2.2.2.2))), .int (nI (sW ((tr0 t L C).2.2.2.2)))], ob 1 (b 1) [.ref (b 4)], ai E (b 4) 768 (sN ((tr0 t L C).2.2.2.2)), ob 0 (b 2) [.ref (b 5)], az E (b 5) 96 (sU ((tr0 t L C).2.2.2.2)), ob 3 (b 3) [.ref (b 6), .ref (b 7), .ref (b 8), .int (nI (sZ ((tr0 t L C).2.2.2.2)))], ai E (b 6) 8 (sn ((tr0 t L C).2.2.2.2)), ai E (b 7) 8 (sb ((tr0 t L C).2.2.2.2)), ai E (b 8) 8 (ss ((tr0 t L C).2.2.2.2)), ob 4 x0 [.ref tc, .int (nI L), .int (nI ta2), .int (nI br2), .int (nI lf2), .int (nI pl2), .int (nI vl2)], ac E tc 60 t, ob 6 v0 [.int (nI ((tr0 t L C).1)), .int (nI ((tr0 t L C).2.1)), .int ((tr0 t L C).2.2.1), .int (nI ((tr0 t L C).2.2.2.1))], ob 7 g0 [.ref g1, .ref g2, .ref g3, .ref g4, .int (nI td2)], ai E g1 3 Wb, ai E g2 3 Ws, ai E g3 3 Wc, ai E g4 12 Wt]) := by
  refine CtV.of cX8_tryText 4 RX8 rfl (by decide) rfl (Nat.le_of_ble_eq_true rfl) ?_
  intro Γ F hin0 hret
  show G Γ E 0 0 0 [(0, .ref o)] [] [ob 8 o [.ref (a 0), .ref (b 0), .ref y0, .ref x0, .ref v0, .ref g0, .ref k0, .ref m0], ob 5 (a 0) [.ref (a 1), .ref (a 2), .ref (a 3), .int (nI (sM C)), .int (nI (sW C))], ob 1 (a 1) [.ref (a 4)], ai E (a 4) 768 (sN C), ob 0 (a 2) [.ref (a 5)], az E (a 5) 96 (sU C), ob 3 (a 3) [.ref (a 6), .ref (a 7), .ref (a 8), .int (nI (sZ C))], ai E (a 6) 8 (sn C), ai E (a 7) 8 (sb C), ai E (a 8) 8 (ss C), ob 5 (b 0) [.ref (b 1), .ref (b 2), .ref (b 3), .int (nI (sM T)), .int (nI (sW T))], ob 1 (b 1) [.ref (b 4)], ai E (b 4) 768 (sN T), ob 0 (b 2) [.ref (b 5)], az E (b 5) 96 (sU T), ob 3 (b 3) [.ref (b 6), .ref (b 7), .ref (b 8), .int (nI (sZ T))], ai E (b 6) 8 (sn T), ai E (b 7) 8 (sb T), ai E (b 8) 8 (ss T), ob 4 x0 [.ref tc, .int (nI L), .int (nI ta), .int (nI br), .int (nI lf), .int (nI pl), .int (nI vl)], ac E tc 60 t, ob 6 v0 [.int (nI po), .int (nI re), .int (ca), .int (nI vw)], ob 7 g0 [.ref g1, .ref g2, .ref g3, .ref g4, .int (nI td)], ai E g1 3 eb, ai E g2 3 es, ai E g3 3 ec, ai E g4 12 et]
  refine g_aload_n F 0 dX8_tryText_0 rfl rfl ?_
  refine g_get F 0 1 dX8_tryText_1 rfl rfl (by decide) (by decide +kernel) (by decide +kernel) rfl ?_
  refine g_aload_n F 0 dX8_tryText_4 rfl rfl ?_
  refine g_get F 0 0 dX8_tryText_5 rfl rfl (by decide) (by decide +kernel) (by decide +kernel) rfl ?_
  refine g_callVvW (n := 1) F [10, 11, 12, 13, 14, 15, 16, 17, 18, 1, 2, 3, 4, 5, 6, 7, 8, 9] (c_X5_copyFrom l E (b 0) (b 1) (b 2) (b 3) (b 4) (b 5) (b 6) (b 7) (b 8) (sM T) (sW T) (sZ T) (sN T) (sU T) (sn T) (sb T) (ss T) (a 0) (a 1) (a 2) (a 3) (a 4) (a 5) (a 6) (a 7) (a 8) (sM C) (sW C) (sZ C) (sN C) (sU C) (sn C) (sb C) (ss C) (by exact hI.2.1)) dX8_tryText_8 rfl (by decide) rfl rfl rfl (Nat.le_of_ble_eq_true rfl) ⟨Nat.le_of_ble_eq_true rfl, Nat.le_of_ble_eq_true rfl⟩ rfl rfl ⟨Nat.le_of_ble_eq_true rfl, Nat.le_of_ble_eq_true rfl⟩ 10 rfl rfl gX8_tryText_X5_copyFrom (by decide +kernel) (fun u hp => by obtain rfl := hp; rfl) ?_
  rintro u_8 rfl
  refine g_ws (w2 := [ob 8 o [.ref (a 0), .ref (b 0), .ref y0, .ref x0, .ref v0, .ref g0, .ref k0, .ref m0], ob 5 (a 0) [.ref (a 1), .ref (a 2), .ref (a 3), .int (nI (sM C)), .int (nI (sW C))], ob 1 (a 1) [.ref (a 4)], ai E (a 4) 768 (sN C), ob 0 (a 2) [.ref (a 5)], az E (a 5) 96 (sU C), ob 3 (a 3) [.ref (a 6), .ref (a 7), .ref (a 8), .int (nI (sZ C))], ai E (a 6) 8 (sn C), ai E (a 7) 8 (sb C), ai E (a 8) 8 (ss C), ob 5 (b 0) [.ref (b 1), .ref (b 2), .ref (b 3), .int (nI (sM C)), .int (nI (sW C))], ob 1 (b 1) [.ref (b 4)], ai E (b 4) 768 (sN C), ob 0 (b 2) [.ref (b 5)], az E (b 5) 96 (sU C), ob 3 (b 3) [.ref (b 6), .ref (b 7), .ref (b 8), .int (nI (sZ C))], ai E (b 6) 8 (sn C), ai E (b 7) 8 (sb C), ai E (b 8) 8 (ss C), ob 4 x0 [.ref tc, .int (nI L), .int (nI ta), .int (nI br), .int (nI lf), .int (nI pl), .int (nI vl)], ac E tc 60 t, ob 6 v0 [.int (nI po), .int (nI re), .int (ca), .int (nI vw)], ob 7 g0 [.ref g1, .ref g2, .ref g3, .ref g4, .int (nI td)], ai E g1 3 eb, ai E g2 3 es, ai E g3 3 ec, ai E g4 12 et]) ?_ ?_
  · exact rpl_eq [0, 19, 20, 21, 22, 23, 24, 25, 26] 27 (by decide) rfl rfl rfl (by decide) (by decide) rfl rfl
  refine g_aload_n F 0 dX8_tryText_11 rfl rfl ?_
  refine g_get F 0 4 dX8_tryText_12 rfl rfl (by decide) (by decide +kernel) (by decide +kernel) rfl ?_
  refine g_callVvW (n := 0) F [21] (c_X6_clear l E v0 po re ca vw ) dX8_tryText_15 rfl (by decide) rfl rfl rfl (Nat.le_of_ble_eq_true rfl) ⟨Nat.le_of_ble_eq_true rfl, Nat.le_of_ble_eq_true rfl⟩ rfl rfl ⟨Nat.le_of_ble_eq_true rfl, Nat.le_of_ble_eq_true rfl⟩ 21 rfl rfl gX8_tryText_X6_clear (by decide +kernel) (fun u hp => by obtain rfl := hp; rfl) ?_
  rintro u_15 rfl
  refine g_ws (w2 := [ob 8 o [.ref (a 0), .ref (b 0), .ref y0, .ref x0, .ref v0, .ref g0, .ref k0, .ref m0], ob 5 (a 0) [.ref (a 1), .ref (a 2), .ref (a 3), .int (nI (sM C)), .int (nI (sW C))], ob 1 (a 1) [.ref (a 4)], ai E (a 4) 768 (sN C), ob 0 (a 2) [.ref (a 5)], az E (a 5) 96 (sU C), ob 3 (a 3) [.ref (a 6), .ref (a 7), .ref (a 8), .int (nI (sZ C))], ai E (a 6) 8 (sn C), ai E (a 7) 8 (sb C), ai E (a 8) 8 (ss C), ob 5 (b 0) [.ref (b 1), .ref (b 2), .ref (b 3), .int (nI (sM C)), .int (nI (sW C))], ob 1 (b 1) [.ref (b 4)], ai E (b 4) 768 (sN C), ob 0 (b 2) [.ref (b 5)], az E (b 5) 96 (sU C), ob 3 (b 3) [.ref (b 6), .ref (b 7), .ref (b 8), .int (nI (sZ C))], ai E (b 6) 8 (sn C), ai E (b 7) 8 (sb C), ai E (b 8) 8 (ss C), ob 4 x0 [.ref tc, .int (nI L), .int (nI ta), .int (nI br), .int (nI lf), .int (nI pl), .int (nI vl)], ac E tc 60 t, ob 6 v0 [.int (nI 0), .int (nI 0), .int ((nI 0)), .int (nI 0)], ob 7 g0 [.ref g1, .ref g2, .ref g3, .ref g4, .int (nI td)], ai E g1 3 eb, ai E g2 3 es, ai E g3 3 ec, ai E g4 12 et]) ?_ ?_
  · exact rpl_eq [0, 1, 2, 3, 4, 5, 6, 7, 8, 9, 10, 11, 12, 13, 14, 15, 16, 17, 18, 19, 20, 22, 23, 24, 25, 26] 27 (by decide) rfl rfl rfl (by decide) (by decide) rfl rfl
  refine g_aload_n F 0 dX8_tryText_18 rfl rfl ?_
  refine g_get F 0 3 dX8_tryText_19 rfl rfl (by decide) (by decide +kernel) (by decide +kernel) rfl ?_
  refine g_callVvW (n := 0) F [19] (c_X4_rewind l E x0 tc L ta br lf pl vl ) dX8_tryText_22 rfl (by decide) rfl rfl rfl (Nat.le_of_ble_eq_true rfl) ⟨Nat.le_of_ble_eq_true rfl, Nat.le_of_ble_eq_true rfl⟩ rfl rfl ⟨Nat.le_of_ble_eq_true rfl, Nat.le_of_ble_eq_true rfl⟩ 19 rfl rfl gX8_tryText_X4_rewind (by decide +kernel) (fun u hp => by obtain rfl := hp; rfl) ?_
  rintro u_22 rfl
  refine g_ws (w2 := [ob 8 o [.ref (a 0), .ref (b 0), .ref y0, .ref x0, .ref v0, .ref g0, .ref k0, .ref m0], ob 5 (a 0) [.ref (a 1), .ref (a 2), .ref (a 3), .int (nI (sM C)), .int (nI (sW C))], ob 1 (a 1) [.ref (a 4)], ai E (a 4) 768 (sN C), ob 0 (a 2) [.ref (a 5)], az E (a 5) 96 (sU C), ob 3 (a 3) [.ref (a 6), .ref (a 7), .ref (a 8), .int (nI (sZ C))], ai E (a 6) 8 (sn C), ai E (a 7) 8 (sb C), ai E (a 8) 8 (ss C), ob 5 (b 0) [.ref (b 1), .ref (b 2), .ref (b 3), .int (nI (sM C)), .int (nI (sW C))], ob 1 (b 1) [.ref (b 4)], ai E (b 4) 768 (sN C), ob 0 (b 2) [.ref (b 5)], az E (b 5) 96 (sU C), ob 3 (b 3) [.ref (b 6), .ref (b 7), .ref (b 8), .int (nI (sZ C))], ai E (b 6) 8 (sn C), ai E (b 7) 8 (sb C), ai E (b 8) 8 (ss C), ob 4 x0 [.ref tc, .int (nI L), .int (nI 0), .int (nI br), .int (nI lf), .int (nI pl), .int (nI vl)], ac E tc 60 t, ob 6 v0 [.int (nI 0), .int (nI 0), .int ((nI 0)), .int (nI 0)], ob 7 g0 [.ref g1, .ref g2, .ref g3, .ref g4, .int (nI td)], ai E g1 3 eb, ai E g2 3 es, ai E g3 3 ec, ai E g4 12 et]) ?_ ?_
  · exact rpl_eq [0, 1, 2, 3, 4, 5, 6, 7, 8, 9, 10, 11, 12, 13, 14, 15, 16, 17, 18, 20, 21, 22, 23, 24, 25, 26] 27 (by decide) rfl rfl rfl (by decide) (by decide) rfl rfl
  refine g_iconst (v := nI 0) F dX8_tryText_25 (by decide) ?_
  refine g_istore_n (lv2 := [(1, .int (nI 0)), (0, .ref o)]) F dX8_tryText_26 rfl (by decide) rfl ?_
  have loop27 : ∀ (n : Nat) (rd : Nat) (Cc : CS) (nn : Nat) (ta3 : Nat) (br3 : Nat) (lf3 : Nat) (pl3 : Nat) (vl3 : Nat) (tdl : Nat) (ebl : Nat → Nat) (esl : Nat → Nat) (ecl : Nat → Nat) (etl : Nat → Nat), 61 - rd < n → (rd ≤ ta3) → (ta3 ≤ L) → (IC Cc) → (trF t L (61 - rd) Cc ta3 nn = tr0 t L C) → (br3 ≤ 1) → G Γ E 0 0 27 [(0, .ref o), (1, .int (nI rd))] [] [ob 8 o [.ref (a 0), .ref (b 0), .ref y0, .ref x0, .ref v0, .ref g0, .ref k0, .ref m0], ob 5 (a 0) [.ref (a 1), .ref (a 2), .ref (a 3), .int (nI (sM C)), .int (nI (sW C))], ob 1 (a 1) [.ref (a 4)], ai E (a 4) 768 (sN C), ob 0 (a 2) [.ref (a 5)], az E (a 5) 96 (sU C), ob 3 (a 3) [.ref (a 6), .ref (a 7), .ref (a 8), .int (nI (sZ C))], ai E (a 6) 8 (sn C), ai E (a 7) 8 (sb C), ai E (a 8) 8 (ss C), ob 5 (b 0) [.ref (b 1), .ref (b 2), .ref (b 3), .int (nI (sM Cc)), .int (nI (sW Cc))], ob 1 (b 1) [.ref (b 4)], ai E (b 4) 768 (sN Cc), ob 0 (b 2) [.ref (b 5)], az E (b 5) 96 (sU Cc), ob 3 (b 3) [.ref (b 6), .ref (b 7), .ref (b 8), .int (nI (sZ Cc))], ai E (b 6) 8 (sn Cc), ai E (b 7) 8 (sb Cc), ai E (b 8) 8 (ss Cc), ob 4 x0 [.ref tc, .int (nI L), .int (nI ta3), .int (nI br3), .int (nI lf3), .int (nI pl3), .int (nI vl3)], ac E tc 60 t, ob 6 v0 [.int (nI 0), .int (nI 0), .int ((nI 0)), .int (nI nn)], ob 7 g0 [.ref g1, .ref g2, .ref g3, .ref g4, .int (nI tdl)], ai E g1 3 ebl, ai E g2 3 esl, ai E g3 3 ecl, ai E g4 12 etl] := by
    intro n
    induction n with
    | zero => intro rd Cc nn ta3 br3 lf3 pl3 vl3 tdl ebl esl ecl etl hz; exact absurd hz (Nat.not_lt_zero _)
    | succ n ih27 =>
      intro rd Cc nn ta3 br3 lf3 pl3 vl3 tdl ebl esl ecl etl hz27 hrd hta hIc htot hbr3
      refine g_iload_n F 1 dX8_tryText_27 rfl rfl ?_
      refine g_bipush (v := nI 60) F dX8_tryText_28 (by decide) ?_
      refine g_icmp_geN (tgt := 206) F dX8_tryText_30 (by decide) (by omega) (by omega) (fun c30 => ?_) (fun c30 => ?_)
      · skip
        exact hret _ _ _ dX8_tryText_206 ⟨ta3, br3, lf3, pl3, vl3, tdl, ebl, esl, ecl, etl, (by first | assumption | omega), (by rw [← htot, show 61 - rd = (60 - rd) + 1 by omega, trF_end (by omega)])⟩
      · skip
        refine g_aload_n F 0 dX8_tryText_33 rfl rfl ?_
        refine g_get F 0 3 dX8_tryText_34 rfl rfl (by decide) (by decide +kernel) (by decide +kernel) rfl ?_
        refine g_callViR (n := 0) F [19] (c_X4_isAtEnd l E x0 tc L ta3 br3 lf3 pl3 vl3 (by exact hL) (by exact hta)) dX8_tryText_37 rfl (by decide) rfl rfl rfl (Nat.le_of_ble_eq_true rfl) ⟨Nat.le_of_ble_eq_true rfl, Nat.le_of_ble_eq_true rfl⟩ rfl rfl ⟨Nat.le_of_ble_eq_true rfl, Nat.le_of_ble_eq_true rfl⟩ 19 rfl rfl gX8_tryText_X4_isAtEnd (by decide +kernel) (fun r u hp => by obtain ⟨-, h⟩ := hp; exact h) ?_
        rintro r_37 u_37 ⟨rfl, -⟩
        refine g_if_neB (tgt := 206) F dX8_tryText_40 (by decide) (fun c40 => ?_) (fun c40 => ?_)
        · skip
          exact hret _ _ _ dX8_tryText_206 ⟨ta3, br3, lf3, pl3, vl3, tdl, ebl, esl, ecl, etl, (by first | assumption | omega), (by rw [← htot, show 61 - rd = (60 - rd) + 1 by omega, trF_end (by omega)])⟩
        · skip
          refine g_aload_n F 0 dX8_tryText_43 rfl rfl ?_
          refine g_get F 0 3 dX8_tryText_44 rfl rfl (by decide) (by decide +kernel) (by decide +kernel) rfl ?_
          refine g_callViR (n := 0) F [19] (c_X4_position l E x0 tc L ta3 br3 lf3 pl3 vl3 ) dX8_tryText_47 rfl (by decide) rfl rfl rfl (Nat.le_of_ble_eq_true rfl) ⟨Nat.le_of_ble_eq_true rfl, Nat.le_of_ble_eq_true rfl⟩ rfl rfl ⟨Nat.le_of_ble_eq_true rfl, Nat.le_of_ble_eq_true rfl⟩ 19 rfl rfl gX8_tryText_X4_position (by decide +kernel) (fun r u hp => by obtain ⟨-, h⟩ := hp; exact h) ?_
          rintro r_47 u_47 ⟨rfl, -⟩
          refine g_istore_n (lv2 := [(2, .int (nI ta3)), (0, .ref o), (1, .int (nI rd))]) F dX8_tryText_50 rfl (by decide) rfl ?_
          have hbd := prw_bd (t := t) hta
          refine g_aload_n F 1 dX8_tryText_51 rfl rfl ?_
          refine g_get F 0 3 dX8_tryText_52 rfl rfl (by decide) (by decide +kernel) (by decide +kernel) rfl ?_
          refine g_callViW (n := 0) F [19, 20] (c_X4_parseWrite l E x0 tc L ta3 br3 lf3 pl3 vl3 t (by exact hL) (by exact hta) (by exact hbr3) (by exact ht)) dX8_tryText_55 rfl (by decide) rfl rfl rfl (Nat.le_of_ble_eq_true rfl) ⟨Nat.le_of_ble_eq_true rfl, Nat.le_of_ble_eq_true rfl⟩ rfl rfl ⟨Nat.le_of_ble_eq_true rfl, Nat.le_of_ble_eq_true rfl⟩ 19 rfl rfl gX8_tryText_X4_parseWrite (by decide +kernel) (fun r u hp => by obtain ⟨_, _, _, _, -, -, -, rfl⟩ := hp; rfl) ?_
          rintro r_55 u_55 ⟨br2_55, lf2_55, pl2_55, vl2_55, hbr2_55, hok_55, rfl, rfl⟩
          refine g_ws (w2 := [ob 8 o [.ref (a 0), .ref (b 0), .ref y0, .ref x0, .ref v0, .ref g0, .ref k0, .ref m0], ob 5 (a 0) [.ref (a 1), .ref (a 2), .ref (a 3), .int (nI (sM C)), .int (nI (sW C))], ob 1 (a 1) [.ref (a 4)], ai E (a 4) 768 (sN C), ob 0 (a 2) [.ref (a 5)], az E (a 5) 96 (sU C), ob 3 (a 3) [.ref (a 6), .ref (a 7), .ref (a 8), .int (nI (sZ C))], ai E (a 6) 8 (sn C), ai E (a 7) 8 (sb C), ai E (a 8) 8 (ss C), ob 5 (b 0) [.ref (b 1), .ref (b 2), .ref (b 3), .int (nI (sM Cc)), .int (nI (sW Cc))], ob 1 (b 1) [.ref (b 4)], ai E (b 4) 768 (sN Cc), ob 0 (b 2) [.ref (b 5)], az E (b 5) 96 (sU Cc), ob 3 (b 3) [.ref (b 6), .ref (b 7), .ref (b 8), .int (nI (sZ Cc))], ai E (b 6) 8 (sn Cc), ai E (b 7) 8 (sb Cc), ai E (b 8) 8 (ss Cc), ob 4 x0 [.ref tc, .int (nI L), .int (nI ((prw t L ta3).2.1)), .int (nI br2_55), .int (nI lf2_55), .int (nI pl2_55), .int (nI vl2_55)], ac E tc 60 t, ob 6 v0 [.int (nI 0), .int (nI 0), .int ((nI 0)), .int (nI nn)], ob 7 g0 [.ref g1, .ref g2, .ref g3, .ref g4, .int (nI tdl)], ai E g1 3 ebl, ai E g2 3 esl, ai E g3 3 ecl, ai E g4 12 etl]) ?_ ?_
          · exact rpl_eq [0, 1, 2, 3, 4, 5, 6, 7, 8, 9, 10, 11, 12, 13, 14, 15, 16, 17, 18, 21, 22, 23, 24, 25, 26] 27 (by decide) rfl rfl rfl (by decide) (by decide) rfl rfl
          refine g_if_neB (tgt := 80) F dX8_tryText_58 (by decide) (fun c58 => ?_) (fun c58 => ?_)
          · skip
            have hpl : pl_ t L ta3 < 100 := hbd.2.2.2.1
            have hpp : pp_ t L ta3 < 10 := hbd.2.2.2.2.1
            refine g_obC 19 rfl [.ref tc, .int (nI L), .int (nI ((prw t L ta3).2.1)), .int (nI br2_55), .int (nI (pl_ t L ta3)), .int (nI (pp_ t L ta3)), .int (nI (pv_ t L ta3))] (by obtain ⟨h91, h92, h93⟩ := hok_55 c58; rw [h91, h92, h93]) (w2 := [ob 8 o [.ref (a 0), .ref (b 0), .ref y0, .ref x0, .ref v0, .ref g0, .ref k0, .ref m0], ob 5 (a 0) [.ref (a 1), .ref (a 2), .ref (a 3), .int (nI (sM C)), .int (nI (sW C))], ob 1 (a 1) [.ref (a 4)], ai E (a 4) 768 (sN C), ob 0 (a 2) [.ref (a 5)], az E (a 5) 96 (sU C), ob 3 (a 3) [.ref (a 6), .ref (a 7), .ref (a 8), .int (nI (sZ C))], ai E (a 6) 8 (sn C), ai E (a 7) 8 (sb C), ai E (a 8) 8 (ss C), ob 5 (b 0) [.ref (b 1), .ref (b 2), .ref (b 3), .int (nI (sM Cc)), .int (nI (sW Cc))], ob 1 (b 1) [.ref (b 4)], ai E (b 4) 768 (sN Cc), ob 0 (b 2) [.ref (b 5)], az E (b 5) 96 (sU Cc), ob 3 (b 3) [.ref (b 6), .ref (b 7), .ref (b 8), .int (nI (sZ Cc))], ai E (b 6) 8 (sn Cc), ai E (b 7) 8 (sb Cc), ai E (b 8) 8 (ss Cc), ob 4 x0 [.ref tc, .int (nI L), .int (nI ((prw t L ta3).2.1)), .int (nI br2_55), .int (nI (pl_ t L ta3)), .int (nI (pp_ t L ta3)), .int (nI (pv_ t L ta3))], ac E tc 60 t, ob 6 v0 [.int (nI 0), .int (nI 0), .int ((nI 0)), .int (nI nn)], ob 7 g0 [.ref g1, .ref g2, .ref g3, .ref g4, .int (nI tdl)], ai E g1 3 ebl, ai E g2 3 esl, ai E g3 3 ecl, ai E g4 12 etl]) rfl ?_
            refine g_aload_n F 1 dX8_tryText_80 rfl rfl ?_
            refine g_get F 0 3 dX8_tryText_81 rfl rfl (by decide) (by decide +kernel) (by decide +kernel) rfl ?_
            refine g_getN (host := "SummedParents") F 19 4 dX8_tryText_84 rfl rfl (by decide) (by decide +kernel) (by decide +kernel) rfl ?_
            refine g_bipush (v := nI 16) F dX8_tryText_87 (by decide) ?_
            refine g_callSiR (n := 2) F [] (c_X8_below l E (pl_ t L ta3) 16 (by omega) (by omega)) dX8_tryText_89 rfl (by decide) rfl rfl rfl (Nat.le_of_ble_eq_true rfl) ⟨Nat.le_of_ble_eq_true rfl, Nat.le_of_ble_eq_true rfl⟩ rfl rfl ⟨Nat.le_of_ble_eq_true rfl, Nat.le_of_ble_eq_true rfl⟩ ggX8_tryText_X8_below (by decide +kernel) (by decide +kernel) (by decide +kernel) (by decide +kernel) (fun r u hp => by obtain ⟨-, h⟩ := hp; exact h) ?_
            rintro r_89 u_89 ⟨rfl, -⟩
            refine g_if_eqB (tgt := 109) F dX8_tryText_92 (by decide) (fun c92 => ?_) (fun c92 => ?_)
            · skip
              refine g_aload_n F 1 dX8_tryText_109 rfl rfl ?_
              refine g_get F 0 4 dX8_tryText_110 rfl rfl (by decide) (by decide +kernel) (by decide +kernel) rfl ?_
              refine g_iload_n F 0 dX8_tryText_113 rfl rfl ?_
              refine g_iconst (v := nI 2) F dX8_tryText_114 (by decide) ?_
              refine g_iconst (v := nI 0) F dX8_tryText_115 (by decide) ?_
              refine g_callVvW (n := 3) F [21] (c_X6_blame l E v0 0 0 (nI 0) nn ta3 2 (nI 0) ) dX8_tryText_116 rfl (by decide) rfl rfl rfl (Nat.le_of_ble_eq_true rfl) ⟨Nat.le_of_ble_eq_true rfl, Nat.le_of_ble_eq_true rfl⟩ rfl rfl ⟨Nat.le_of_ble_eq_true rfl, Nat.le_of_ble_eq_true rfl⟩ 21 rfl rfl gX8_tryText_X6_blame (by decide +kernel) (fun u hp => by obtain rfl := hp; rfl) ?_
              rintro u_116 rfl
              refine g_ws (w2 := [ob 8 o [.ref (a 0), .ref (b 0), .ref y0, .ref x0, .ref v0, .ref g0, .ref k0, .ref m0], ob 5 (a 0) [.ref (a 1), .ref (a 2), .ref (a 3), .int (nI (sM C)), .int (nI (sW C))], ob 1 (a 1) [.ref (a 4)], ai E (a 4) 768 (sN C), ob 0 (a 2) [.ref (a 5)], az E (a 5) 96 (sU C), ob 3 (a 3) [.ref (a 6), .ref (a 7), .ref (a 8), .int (nI (sZ C))], ai E (a 6) 8 (sn C), ai E (a 7) 8 (sb C), ai E (a 8) 8 (ss C), ob 5 (b 0) [.ref (b 1), .ref (b 2), .ref (b 3), .int (nI (sM Cc)), .int (nI (sW Cc))], ob 1 (b 1) [.ref (b 4)], ai E (b 4) 768 (sN Cc), ob 0 (b 2) [.ref (b 5)], az E (b 5) 96 (sU Cc), ob 3 (b 3) [.ref (b 6), .ref (b 7), .ref (b 8), .int (nI (sZ Cc))], ai E (b 6) 8 (sn Cc), ai E (b 7) 8 (sb Cc), ai E (b 8) 8 (ss Cc), ob 4 x0 [.ref tc, .int (nI L), .int (nI ((prw t L ta3).2.1)), .int (nI br2_55), .int (nI (pl_ t L ta3)), .int (nI (pp_ t L ta3)), .int (nI (pv_ t L ta3))], ac E tc 60 t, ob 6 v0 [.int (nI ta3), .int (nI 2), .int (nI 0), .int (nI nn)], ob 7 g0 [.ref g1, .ref g2, .ref g3, .ref g4, .int (nI tdl)], ai E g1 3 ebl, ai E g2 3 esl, ai E g3 3 ecl, ai E g4 12 etl]) ?_ ?_
              · exact rpl_eq [0, 1, 2, 3, 4, 5, 6, 7, 8, 9, 10, 11, 12, 13, 14, 15, 16, 17, 18, 19, 20, 22, 23, 24, 25, 26] 27 (by decide) rfl rfl rfl (by decide) (by decide) rfl rfl
              exact hret _ _ _ dX8_tryText_119 ⟨((prw t L ta3).2.1), br2_55, (pl_ t L ta3), (pp_ t L ta3), (pv_ t L ta3), tdl, ebl, esl, ecl, etl, (by first | assumption | omega), (by rw [← htot, show 61 - rd = (60 - rd) + 1 by omega, trF_2 c40 c58 (fun h => by first | exact c92 h.1 | exact c106 h.2)])⟩
            · skip
              refine g_aload_n F 1 dX8_tryText_95 rfl rfl ?_
              refine g_get F 0 3 dX8_tryText_96 rfl rfl (by decide) (by decide +kernel) (by decide +kernel) rfl ?_
              refine g_getN (host := "SummedParents") F 19 5 dX8_tryText_99 rfl rfl (by decide) (by decide +kernel) (by decide +kernel) rfl ?_
              refine g_iconst (v := nI 4) F dX8_tryText_102 (by decide) ?_
              refine g_callSiR (n := 2) F [] (c_X8_below l E (pp_ t L ta3) 4 (by omega) (by omega)) dX8_tryText_103 rfl (by decide) rfl rfl rfl (Nat.le_of_ble_eq_true rfl) ⟨Nat.le_of_ble_eq_true rfl, Nat.le_of_ble_eq_true rfl⟩ rfl rfl ⟨Nat.le_of_ble_eq_true rfl, Nat.le_of_ble_eq_true rfl⟩ ggX8_tryText_X8_below (by decide +kernel) (by decide +kernel) (by decide +kernel) (by decide +kernel) (fun r u hp => by obtain ⟨-, h⟩ := hp; exact h) ?_
              rintro r_103 u_103 ⟨rfl, -⟩
              refine g_if_neB (tgt := 120) F dX8_tryText_106 (by decide) (fun c106 => ?_) (fun c106 => ?_)
              · skip
                have hlp : pl_ t L ta3 < 16 ∧ pp_ t L ta3 < 4 := ⟨c92, c106⟩
                have hz1 := hIc.2.2.1
                have hz8 := hIc.2.2.2.1
                have hrb := hIc.rb (r := 0) (by omega)
                have hrs := hIc.rs (r := 0) (by omega)
                refine g_aload_n F 1 dX8_tryText_120 rfl rfl ?_
                refine g_get F 0 1 dX8_tryText_121 rfl rfl (by decide) (by decide +kernel) (by decide +kernel) rfl ?_
                refine g_aload_n F 1 dX8_tryText_124 rfl rfl ?_
                refine g_get F 0 5 dX8_tryText_125 rfl rfl (by decide) (by decide +kernel) (by decide +kernel) rfl ?_
                refine g_aload_n F 1 dX8_tryText_128 rfl rfl ?_
                refine g_get F 0 3 dX8_tryText_129 rfl rfl (by decide) (by decide +kernel) (by decide +kernel) rfl ?_
                refine g_getN (host := "SummedParents") F 19 4 dX8_tryText_132 rfl rfl (by decide) (by decide +kernel) (by decide +kernel) rfl ?_
                refine g_callViW (n := 2) F [10, 11, 12, 13, 14, 15, 17, 18, 22, 23, 24, 25, 26] (c_X5_prepareWrite l E (b 0) (b 1) (b 2) (b 3) (b 4) (b 5) (b 6) (b 7) (b 8) (sM Cc) (sW Cc) (sZ Cc) (sN Cc) (sU Cc) (sb Cc) (ss Cc) g0 g1 g2 g3 g4 tdl ebl esl ecl etl (pl_ t L ta3) (by exact c92) (by exact hIc.1) (by exact hIc.2.1) (by omega) (by omega) (by omega)) dX8_tryText_135 rfl (by decide) rfl rfl rfl (Nat.le_of_ble_eq_true rfl) ⟨Nat.le_of_ble_eq_true rfl, Nat.le_of_ble_eq_true rfl⟩ rfl rfl ⟨Nat.le_of_ble_eq_true rfl, Nat.le_of_ble_eq_true rfl⟩ 10 rfl rfl gX8_tryText_X5_prepareWrite (by decide +kernel) (fun r u hp => by obtain ⟨_, _, _, _, _, -, -, rfl⟩ := hp; rfl) ?_
                rintro r_135 u_135 ⟨td2_135, Wb_135, Ws_135, Wc_135, Wt_135, hWO_135, rfl, rfl⟩
                refine g_ws (w2 := [ob 8 o [.ref (a 0), .ref (b 0), .ref y0, .ref x0, .ref v0, .ref g0, .ref k0, .ref m0], ob 5 (a 0) [.ref (a 1), .ref (a 2), .ref (a 3), .int (nI (sM C)), .int (nI (sW C))], ob 1 (a 1) [.ref (a 4)], ai E (a 4) 768 (sN C), ob 0 (a 2) [.ref (a 5)], az E (a 5) 96 (sU C), ob 3 (a 3) [.ref (a 6), .ref (a 7), .ref (a 8), .int (nI (sZ C))], ai E (a 6) 8 (sn C), ai E (a 7) 8 (sb C), ai E (a 8) 8 (ss C), ob 5 (b 0) [.ref (b 1), .ref (b 2), .ref (b 3), .int (nI (sM Cc)), .int (nI (sW Cc))], ob 1 (b 1) [.ref (b 4)], ai E (b 4) 768 (sN Cc), ob 0 (b 2) [.ref (b 5)], az E (b 5) 96 (sU Cc), ob 3 (b 3) [.ref (b 6), .ref (b 7), .ref (b 8), .int (nI (sZ Cc))], ai E (b 6) 8 (sn Cc), ai E (b 7) 8 (sb Cc), ai E (b 8) 8 (ss Cc), ob 4 x0 [.ref tc, .int (nI L), .int (nI ((prw t L ta3).2.1)), .int (nI br2_55), .int (nI (pl_ t L ta3)), .int (nI (pp_ t L ta3)), .int (nI (pv_ t L ta3))], ac E tc 60 t, ob 6 v0 [.int (nI 0), .int (nI 0), .int ((nI 0)), .int (nI nn)], ob 7 g0 [.ref g1, .ref g2, .ref g3, .ref g4, .int (nI td2_135)], ai E g1 3 Wb_135, ai E g2 3 Ws_135, ai E g3 3 Wc_135, ai E g4 12 Wt_135]) ?_ ?_
                · exact rpl_eq [0, 1, 2, 3, 4, 5, 6, 7, 8, 9, 16, 19, 20, 21] 27 (by decide) rfl rfl rfl (by decide) (by decide) rfl rfl
                refine g_istore_n (lv2 := [(3, .int (pw (sZ Cc) (cn (sU Cc) 96) (sp (sN Cc) ((sb Cc) 0) ((ss Cc) 0) (pl_ t L ta3)))), (2, .int (nI ta3)), (0, .ref o), (1, .int (nI rd))]) F dX8_tryText_138 rfl (by decide) rfl ?_
                refine g_iload_n F 0 dX8_tryText_139 rfl rfl ?_
                refine g_if_eq (tgt := 154) F dX8_tryText_140 (by decide) (fun c140 => ?_) (fun c140 => ?_)
                · skip
                  have hok := pw_ok c140
                  have hW := hWO_135 hok.1 hok.2.1
                  have hnn := cn_le (sU Cc) 96
                  refine g_aiC 26 rfl (wtC Cc (pl_ t L ta3)) (by exact WO_wtc hW hok.2.2) (w2 := [ob 8 o [.ref (a 0), .ref (b 0), .ref y0, .ref x0, .ref v0, .ref g0, .ref k0, .ref m0], ob 5 (a 0) [.ref (a 1), .ref (a 2), .ref (a 3), .int (nI (sM C)), .int (nI (sW C))], ob 1 (a 1) [.ref (a 4)], ai E (a 4) 768 (sN C), ob 0 (a 2) [.ref (a 5)], az E (a 5) 96 (sU C), ob 3 (a 3) [.ref (a 6), .ref (a 7), .ref (a 8), .int (nI (sZ C))], ai E (a 6) 8 (sn C), ai E (a 7) 8 (sb C), ai E (a 8) 8 (ss C), ob 5 (b 0) [.ref (b 1), .ref (b 2), .ref (b 3), .int (nI (sM Cc)), .int (nI (sW Cc))], ob 1 (b 1) [.ref (b 4)], ai E (b 4) 768 (sN Cc), ob 0 (b 2) [.ref (b 5)], az E (b 5) 96 (sU Cc), ob 3 (b 3) [.ref (b 6), .ref (b 7), .ref (b 8), .int (nI (sZ Cc))], ai E (b 6) 8 (sn Cc), ai E (b 7) 8 (sb Cc), ai E (b 8) 8 (ss Cc), ob 4 x0 [.ref tc, .int (nI L), .int (nI ((prw t L ta3).2.1)), .int (nI br2_55), .int (nI (pl_ t L ta3)), .int (nI (pp_ t L ta3)), .int (nI (pv_ t L ta3))], ac E tc 60 t, ob 6 v0 [.int (nI 0), .int (nI 0), .int ((nI 0)), .int (nI nn)], ob 7 g0 [.ref g1, .ref g2, .ref g3, .ref g4, .int (nI td2_135)], ai E g1 3 Wb_135, ai E g2 3 Ws_135, ai E g3 3 Wc_135, ai E g4 12 (wtC Cc (pl_ t L ta3))]) rfl ?_
                  refine g_aload_n F 2 dX8_tryText_154 rfl rfl ?_
                  refine g_get F 0 1 dX8_tryText_155 rfl rfl (by decide) (by decide +kernel) (by decide +kernel) rfl ?_
                  refine g_aload_n F 2 dX8_tryText_158 rfl rfl ?_
                  refine g_get F 0 5 dX8_tryText_159 rfl rfl (by decide) (by decide +kernel) (by decide +kernel) rfl ?_
                  refine g_aload_n F 2 dX8_tryText_162 rfl rfl ?_
                  refine g_get F 0 3 dX8_tryText_163 rfl rfl (by decide) (by decide +kernel) (by decide +kernel) rfl ?_
                  refine g_getN (host := "SummedParents") F 19 4 dX8_tryText_166 rfl rfl (by decide) (by decide +kernel) (by decide +kernel) rfl ?_
                  refine g_aload_n F 2 dX8_tryText_169 rfl rfl ?_
                  refine g_get F 0 3 dX8_tryText_170 rfl rfl (by decide) (by decide +kernel) (by decide +kernel) rfl ?_
                  refine g_getN (host := "SummedParents") F 19 5 dX8_tryText_173 rfl rfl (by decide) (by decide +kernel) (by decide +kernel) rfl ?_
                  refine g_aload_n F 2 dX8_tryText_176 rfl rfl ?_
                  refine g_get F 0 3 dX8_tryText_177 rfl rfl (by decide) (by decide +kernel) (by decide +kernel) rfl ?_
                  refine g_getN (host := "SummedParents") F 19 6 dX8_tryText_180 rfl rfl (by decide) (by decide +kernel) (by decide +kernel) rfl ?_
                  refine g_callViW (n := 4) F [10, 11, 12, 13, 14, 15, 16, 17, 18, 22, 23, 24, 25, 26] (c_X5_carryOut l E (b 0) (b 1) (b 2) (b 3) (b 4) (b 5) (b 6) (b 7) (b 8) (sM Cc) (sW Cc) (sZ Cc) (sN Cc) (sU Cc) (sn Cc) (sb Cc) (ss Cc) g0 g1 g2 g3 g4 td2_135 Wb_135 Ws_135 Wc_135 (wtC Cc (pl_ t L ta3)) (pl_ t L ta3) (pp_ t L ta3) (pv_ t L ta3) (b1 Cc) (b2 Cc) (b3 Cc) (by exact hIc.2.1) (by omega) (by exact hok.1) (by exact hIc.2.2.2.2.1) (by exact c92) (by exact c106) (by exact hbd.2.2.2.2.2) (by exact wtc_lt hIc.1 _ _ _) (by rfl) (by rfl) (by rfl)) dX8_tryText_183 rfl (by decide) rfl rfl rfl (Nat.le_of_ble_eq_true rfl) ⟨Nat.le_of_ble_eq_true rfl, Nat.le_of_ble_eq_true rfl⟩ rfl rfl ⟨Nat.le_of_ble_eq_true rfl, Nat.le_of_ble_eq_true rfl⟩ 10 rfl rfl gX8_tryText_X5_carryOut (by decide +kernel) (fun r u hp => by obtain ⟨-, rfl⟩ := hp; rfl) ?_
                  rintro r_183 u_183 ⟨rfl, rfl⟩
                  refine g_ws (w2 := [ob 8 o [.ref (a 0), .ref (b 0), .ref y0, .ref x0, .ref v0, .ref g0, .ref k0, .ref m0], ob 5 (a 0) [.ref (a 1), .ref (a 2), .ref (a 3), .int (nI (sM C)), .int (nI (sW C))], ob 1 (a 1) [.ref (a 4)], ai E (a 4) 768 (sN C), ob 0 (a 2) [.ref (a 5)], az E (a 5) 96 (sU C), ob 3 (a 3) [.ref (a 6), .ref (a 7), .ref (a 8), .int (nI (sZ C))], ai E (a 6) 8 (sn C), ai E (a 7) 8 (sb C), ai E (a 8) 8 (ss C), ob 5 (b 0) [.ref (b 1), .ref (b 2), .ref (b 3), .int (nI 0), .int (nI ((sW Cc) + 1))], ob 1 (b 1) [.ref (b 4)], ai E (b 4) 768 (cN (sM Cc) (sN Cc) (b1 Cc) (b2 Cc) (b3 Cc) (cT3 (wtC Cc (pl_ t L ta3)) (pl_ t L ta3) (pp_ t L ta3) (pv_ t L ta3) (b1 Cc) (b2 Cc))), ob 0 (b 2) [.ref (b 5)], az E (b 5) 96 (up (up (up (sU Cc) (b1 Cc) 1) (b2 Cc) 1) (b3 Cc) 1), ob 3 (b 3) [.ref (b 6), .ref (b 7), .ref (b 8), .int (nI ((sZ Cc) + 1))], ai E (b 6) 8 (alt (sn Cc) (sZ Cc) ((sW Cc) + 1)), ai E (b 7) 8 (alt (sb Cc) (sZ Cc) (b3 Cc)), ai E (b 8) 8 (alt (ss Cc) (sZ Cc) (sm (cT3 (wtC Cc (pl_ t L ta3)) (pl_ t L ta3) (pp_ t L ta3) (pv_ t L ta3) (b1 Cc) (b2 Cc)) (0 * 4))), ob 4 x0 [.ref tc, .int (nI L), .int (nI ((prw t L ta3).2.1)), .int (nI br2_55), .int (nI (pl_ t L ta3)), .int (nI (pp_ t L ta3)), .int (nI (pv_ t L ta3))], ac E tc 60 t, ob 6 v0 [.int (nI 0), .int (nI 0), .int ((nI 0)), .int (nI nn)], ob 7 g0 [.ref g1, .ref g2, .ref g3, .ref g4, .int (nI td2_135)], ai E g1 3 Wb_135, ai E g2 3 Ws_135, ai E g3 3 Wc_135, ai E g4 12 (cT3 (wtC Cc (pl_ t L ta3)) (pl_ t L ta3) (pp_ t L ta3) (pv_ t L ta3) (b1 Cc) (b2 Cc))]) ?_ ?_
                  · exact rpl_eq [0, 1, 2, 3, 4, 5, 6, 7, 8, 9, 19, 20, 21] 27 (by decide) rfl rfl rfl (by decide) (by decide) rfl rfl
                  refine g_pop F dX8_tryText_186 rfl ?_
                  refine g_aload_n F 2 dX8_tryText_187 rfl rfl ?_
                  refine g_get F 0 4 dX8_tryText_188 rfl rfl (by decide) (by decide +kernel) (by decide +kernel) rfl ?_
                  refine g_dup F dX8_tryText_191 rfl ?_
                  refine g_getN (host := "SummedParents") F 21 3 dX8_tryText_192 rfl rfl (by decide) (by decide +kernel) (by decide +kernel) rfl ?_
                  refine g_iconst (v := nI 1) F dX8_tryText_195 (by decide) ?_
                  refine g_iaddN F dX8_tryText_196 ?_
                  refine g_putN (host := "SummedParents") F 21 3 dX8_tryText_197 rfl rfl (by decide) (by decide +kernel) (by decide +kernel) tyX6_ok nmX6 rfl (by decide +kernel) rfl rfl (Nat.le_of_ble_eq_true rfl) rfl (ty := .int) (w2 := [ob 8 o [.ref (a 0), .ref (b 0), .ref y0, .ref x0, .ref v0, .ref g0, .ref k0, .ref m0], ob 5 (a 0) [.ref (a 1), .ref (a 2), .ref (a 3), .int (nI (sM C)), .int (nI (sW C))], ob 1 (a 1) [.ref (a 4)], ai E (a 4) 768 (sN C), ob 0 (a 2) [.ref (a 5)], az E (a 5) 96 (sU C), ob 3 (a 3) [.ref (a 6), .ref (a 7), .ref (a 8), .int (nI (sZ C))], ai E (a 6) 8 (sn C), ai E (a 7) 8 (sb C), ai E (a 8) 8 (ss C), ob 5 (b 0) [.ref (b 1), .ref (b 2), .ref (b 3), .int (nI 0), .int (nI ((sW Cc) + 1))], ob 1 (b 1) [.ref (b 4)], ai E (b 4) 768 (cN (sM Cc) (sN Cc) (b1 Cc) (b2 Cc) (b3 Cc) (cT3 (wtC Cc (pl_ t L ta3)) (pl_ t L ta3) (pp_ t L ta3) (pv_ t L ta3) (b1 Cc) (b2 Cc))), ob 0 (b 2) [.ref (b 5)], az E (b 5) 96 (up (up (up (sU Cc) (b1 Cc) 1) (b2 Cc) 1) (b3 Cc) 1), ob 3 (b 3) [.ref (b 6), .ref (b 7), .ref (b 8), .int (nI ((sZ Cc) + 1))], ai E (b 6) 8 (alt (sn Cc) (sZ Cc) ((sW Cc) + 1)), ai E (b 7) 8 (alt (sb Cc) (sZ Cc) (b3 Cc)), ai E (b 8) 8 (alt (ss Cc) (sZ Cc) (sm (cT3 (wtC Cc (pl_ t L ta3)) (pl_ t L ta3) (pp_ t L ta3) (pv_ t L ta3) (b1 Cc) (b2 Cc)) (0 * 4))), ob 4 x0 [.ref tc, .int (nI L), .int (nI ((prw t L ta3).2.1)), .int (nI br2_55), .int (nI (pl_ t L ta3)), .int (nI (pp_ t L ta3)), .int (nI (pv_ t L ta3))], ac E tc 60 t, ob 6 v0 [.int (nI 0), .int (nI 0), .int ((nI 0)), .int (nI (nn + 1))], ob 7 g0 [.ref g1, .ref g2, .ref g3, .ref g4, .int (nI td2_135)], ai E g1 3 Wb_135, ai E g2 3 Ws_135, ai E g3 3 Wc_135, ai E g4 12 (cT3 (wtC Cc (pl_ t L ta3)) (pl_ t L ta3) (pp_ t L ta3) (pv_ t L ta3) (b1 Cc) (b2 Cc))]) rfl ?_
                  refine g_iinc (k := 3) (v := nI (rd + 1)) (lv2 := [(1, .int (nI (rd + 1))), (3, .int (pw (sZ Cc) (cn (sU Cc) 96) (sp (sN Cc) ((sb Cc) 0) ((ss Cc) 0) (pl_ t L ta3)))), (2, .int (nI ta3)), (0, .ref o)]) F dX8_tryText_200 rfl (nI_1 _) (by decide) rfl ?_
                  refine g_goto (tgt := 27) F dX8_tryText_203 (by decide) ?_
                  refine g_lv [3, 0] rfl ?_
                  exact ih27 (rd + 1) (wrS Cc (pl_ t L ta3) (pp_ t L ta3) (pv_ t L ta3)) (nn + 1) ((prw t L ta3).2.1) br2_55 (pl_ t L ta3) (pp_ t L ta3) (pv_ t L ta3) td2_135 Wb_135 Ws_135 Wc_135 (cT3 (wtC Cc (pl_ t L ta3)) (pl_ t L ta3) (pp_ t L ta3) (pv_ t L ta3) (b1 Cc) (b2 Cc)) (by omega) (by have := hbd.2.2.1 c58; omega) (by exact hbd.2.1) (by exact IC_wrS hIc hlp.1 hlp.2 hbd.2.2.2.2.2 c140) (by rw [show 61 - rd = (61 - (rd + 1)) + 1 by omega] at htot; rw [trF_go c40 c58 hlp c140] at htot; exact htot) (by first | assumption | omega)
                · skip
                  refine g_aload_n F 2 dX8_tryText_143 rfl rfl ?_
                  refine g_get F 0 4 dX8_tryText_144 rfl rfl (by decide) (by decide +kernel) (by decide +kernel) rfl ?_
                  refine g_iload_n F 1 dX8_tryText_147 rfl rfl ?_
                  refine g_iconst (v := nI 3) F dX8_tryText_148 (by decide) ?_
                  refine g_iload_n F 0 dX8_tryText_149 rfl rfl ?_
                  refine g_callVvW (n := 3) F [21] (c_X6_blame l E v0 0 0 (nI 0) nn ta3 3 (pw (sZ Cc) (cn (sU Cc) 96) (sp (sN Cc) ((sb Cc) 0) ((ss Cc) 0) (pl_ t L ta3))) ) dX8_tryText_150 rfl (by decide) rfl rfl rfl (Nat.le_of_ble_eq_true rfl) ⟨Nat.le_of_ble_eq_true rfl, Nat.le_of_ble_eq_true rfl⟩ rfl rfl ⟨Nat.le_of_ble_eq_true rfl, Nat.le_of_ble_eq_true rfl⟩ 21 rfl rfl gX8_tryText_X6_blame (by decide +kernel) (fun u hp => by obtain rfl := hp; rfl) ?_
                  rintro u_150 rfl
                  refine g_ws (w2 := [ob 8 o [.ref (a 0), .ref (b 0), .ref y0, .ref x0, .ref v0, .ref g0, .ref k0, .ref m0], ob 5 (a 0) [.ref (a 1), .ref (a 2), .ref (a 3), .int (nI (sM C)), .int (nI (sW C))], ob 1 (a 1) [.ref (a 4)], ai E (a 4) 768 (sN C), ob 0 (a 2) [.ref (a 5)], az E (a 5) 96 (sU C), ob 3 (a 3) [.ref (a 6), .ref (a 7), .ref (a 8), .int (nI (sZ C))], ai E (a 6) 8 (sn C), ai E (a 7) 8 (sb C), ai E (a 8) 8 (ss C), ob 5 (b 0) [.ref (b 1), .ref (b 2), .ref (b 3), .int (nI (sM Cc)), .int (nI (sW Cc))], ob 1 (b 1) [.ref (b 4)], ai E (b 4) 768 (sN Cc), ob 0 (b 2) [.ref (b 5)], az E (b 5) 96 (sU Cc), ob 3 (b 3) [.ref (b 6), .ref (b 7), .ref (b 8), .int (nI (sZ Cc))], ai E (b 6) 8 (sn Cc), ai E (b 7) 8 (sb Cc), ai E (b 8) 8 (ss Cc), ob 4 x0 [.ref tc, .int (nI L), .int (nI ((prw t L ta3).2.1)), .int (nI br2_55), .int (nI (pl_ t L ta3)), .int (nI (pp_ t L ta3)), .int (nI (pv_ t L ta3))], ac E tc 60 t, ob 6 v0 [.int (nI ta3), .int (nI 3), .int (pw (sZ Cc) (cn (sU Cc) 96) (sp (sN Cc) ((sb Cc) 0) ((ss Cc) 0) (pl_ t L ta3))), .int (nI nn)], ob 7 g0 [.ref g1, .ref g2, .ref g3, .ref g4, .int (nI td2_135)], ai E g1 3 Wb_135, ai E g2 3 Ws_135, ai E g3 3 Wc_135, ai E g4 12 Wt_135]) ?_ ?_
                  · exact rpl_eq [0, 1, 2, 3, 4, 5, 6, 7, 8, 9, 10, 11, 12, 13, 14, 15, 16, 17, 18, 19, 20, 22, 23, 24, 25, 26] 27 (by decide) rfl rfl rfl (by decide) (by decide) rfl rfl
                  exact hret _ _ _ dX8_tryText_153 ⟨((prw t L ta3).2.1), br2_55, (pl_ t L ta3), (pp_ t L ta3), (pv_ t L ta3), td2_135, Wb_135, Ws_135, Wc_135, Wt_135, (by first | assumption | omega), (by rw [← htot, show 61 - rd = (60 - rd) + 1 by omega, trF_3 c40 c58 hlp c140]; rfl)⟩
              · skip
                refine g_aload_n F 1 dX8_tryText_109 rfl rfl ?_
                refine g_get F 0 4 dX8_tryText_110 rfl rfl (by decide) (by decide +kernel) (by decide +kernel) rfl ?_
                refine g_iload_n F 0 dX8_tryText_113 rfl rfl ?_
                refine g_iconst (v := nI 2) F dX8_tryText_114 (by decide) ?_
                refine g_iconst (v := nI 0) F dX8_tryText_115 (by decide) ?_
                refine g_callVvW (n := 3) F [21] (c_X6_blame l E v0 0 0 (nI 0) nn ta3 2 (nI 0) ) dX8_tryText_116 rfl (by decide) rfl rfl rfl (Nat.le_of_ble_eq_true rfl) ⟨Nat.le_of_ble_eq_true rfl, Nat.le_of_ble_eq_true rfl⟩ rfl rfl ⟨Nat.le_of_ble_eq_true rfl, Nat.le_of_ble_eq_true rfl⟩ 21 rfl rfl gX8_tryText_X6_blame (by decide +kernel) (fun u hp => by obtain rfl := hp; rfl) ?_
                rintro u_116 rfl
                refine g_ws (w2 := [ob 8 o [.ref (a 0), .ref (b 0), .ref y0, .ref x0, .ref v0, .ref g0, .ref k0, .ref m0], ob 5 (a 0) [.ref (a 1), .ref (a 2), .ref (a 3), .int (nI (sM C)), .int (nI (sW C))], ob 1 (a 1) [.ref (a 4)], ai E (a 4) 768 (sN C), ob 0 (a 2) [.ref (a 5)], az E (a 5) 96 (sU C), ob 3 (a 3) [.ref (a 6), .ref (a 7), .ref (a 8), .int (nI (sZ C))], ai E (a 6) 8 (sn C), ai E (a 7) 8 (sb C), ai E (a 8) 8 (ss C), ob 5 (b 0) [.ref (b 1), .ref (b 2), .ref (b 3), .int (nI (sM Cc)), .int (nI (sW Cc))], ob 1 (b 1) [.ref (b 4)], ai E (b 4) 768 (sN Cc), ob 0 (b 2) [.ref (b 5)], az E (b 5) 96 (sU Cc), ob 3 (b 3) [.ref (b 6), .ref (b 7), .ref (b 8), .int (nI (sZ Cc))], ai E (b 6) 8 (sn Cc), ai E (b 7) 8 (sb Cc), ai E (b 8) 8 (ss Cc), ob 4 x0 [.ref tc, .int (nI L), .int (nI ((prw t L ta3).2.1)), .int (nI br2_55), .int (nI (pl_ t L ta3)), .int (nI (pp_ t L ta3)), .int (nI (pv_ t L ta3))], ac E tc 60 t, ob 6 v0 [.int (nI ta3), .int (nI 2), .int (nI 0), .int (nI nn)], ob 7 g0 [.ref g1, .ref g2, .ref g3, .ref g4, .int (nI tdl)], ai E g1 3 ebl, ai E g2 3 esl, ai E g3 3 ecl, ai E g4 12 etl]) ?_ ?_
                · exact rpl_eq [0, 1, 2, 3, 4, 5, 6, 7, 8, 9, 10, 11, 12, 13, 14, 15, 16, 17, 18, 19, 20, 22, 23, 24, 25, 26] 27 (by decide) rfl rfl rfl (by decide) (by decide) rfl rfl
                exact hret _ _ _ dX8_tryText_119 ⟨((prw t L ta3).2.1), br2_55, (pl_ t L ta3), (pp_ t L ta3), (pv_ t L ta3), tdl, ebl, esl, ecl, etl, (by first | assumption | omega), (by rw [← htot, show 61 - rd = (60 - rd) + 1 by omega, trF_2 c40 c58 (fun h => by first | exact c92 h.1 | exact c106 h.2)])⟩
          · skip
            refine g_aload_n F 1 dX8_tryText_61 rfl rfl ?_
            refine g_get F 0 4 dX8_tryText_62 rfl rfl (by decide) (by decide +kernel) (by decide +kernel) rfl ?_
            refine g_iload_n F 0 dX8_tryText_65 rfl rfl ?_
            refine g_iconst (v := nI 1) F dX8_tryText_66 (by decide) ?_
            refine g_aload_n F 1 dX8_tryText_67 rfl rfl ?_
            refine g_get F 0 3 dX8_tryText_68 rfl rfl (by decide) (by decide +kernel) (by decide +kernel) rfl ?_
            refine g_callViR (n := 0) F [19] (c_X4_position l E x0 tc L ((prw t L ta3).2.1) br2_55 lf2_55 pl2_55 vl2_55 ) dX8_tryText_71 rfl (by decide) rfl rfl rfl (Nat.le_of_ble_eq_true rfl) ⟨Nat.le_of_ble_eq_true rfl, Nat.le_of_ble_eq_true rfl⟩ rfl rfl ⟨Nat.le_of_ble_eq_true rfl, Nat.le_of_ble_eq_true rfl⟩ 19 rfl rfl gX8_tryText_X4_position (by decide +kernel) (fun r u hp => by obtain ⟨-, h⟩ := hp; exact h) ?_
            rintro r_71 u_71 ⟨rfl, -⟩
            refine g_iload_n F 0 dX8_tryText_74 rfl rfl ?_
            refine g_isubN F dX8_tryText_75 (by exact hbd.1) ?_
            refine g_callVvW (n := 3) F [21] (c_X6_blame l E v0 0 0 (nI 0) nn ta3 1 (nI (((prw t L ta3).2.1) - ta3)) ) dX8_tryText_76 rfl (by decide) rfl rfl rfl (Nat.le_of_ble_eq_true rfl) ⟨Nat.le_of_ble_eq_true rfl, Nat.le_of_ble_eq_true rfl⟩ rfl rfl ⟨Nat.le_of_ble_eq_true rfl, Nat.le_of_ble_eq_true rfl⟩ 21 rfl rfl gX8_tryText_X6_blame (by decide +kernel) (fun u hp => by obtain rfl := hp; rfl) ?_
            rintro u_76 rfl
            refine g_ws (w2 := [ob 8 o [.ref (a 0), .ref (b 0), .ref y0, .ref x0, .ref v0, .ref g0, .ref k0, .ref m0], ob 5 (a 0) [.ref (a 1), .ref (a 2), .ref (a 3), .int (nI (sM C)), .int (nI (sW C))], ob 1 (a 1) [.ref (a 4)], ai E (a 4) 768 (sN C), ob 0 (a 2) [.ref (a 5)], az E (a 5) 96 (sU C), ob 3 (a 3) [.ref (a 6), .ref (a 7), .ref (a 8), .int (nI (sZ C))], ai E (a 6) 8 (sn C), ai E (a 7) 8 (sb C), ai E (a 8) 8 (ss C), ob 5 (b 0) [.ref (b 1), .ref (b 2), .ref (b 3), .int (nI (sM Cc)), .int (nI (sW Cc))], ob 1 (b 1) [.ref (b 4)], ai E (b 4) 768 (sN Cc), ob 0 (b 2) [.ref (b 5)], az E (b 5) 96 (sU Cc), ob 3 (b 3) [.ref (b 6), .ref (b 7), .ref (b 8), .int (nI (sZ Cc))], ai E (b 6) 8 (sn Cc), ai E (b 7) 8 (sb Cc), ai E (b 8) 8 (ss Cc), ob 4 x0 [.ref tc, .int (nI L), .int (nI ((prw t L ta3).2.1)), .int (nI br2_55), .int (nI lf2_55), .int (nI pl2_55), .int (nI vl2_55)], ac E tc 60 t, ob 6 v0 [.int (nI ta3), .int (nI 1), .int (nI (((prw t L ta3).2.1) - ta3)), .int (nI nn)], ob 7 g0 [.ref g1, .ref g2, .ref g3, .ref g4, .int (nI tdl)], ai E g1 3 ebl, ai E g2 3 esl, ai E g3 3 ecl, ai E g4 12 etl]) ?_ ?_
            · exact rpl_eq [0, 1, 2, 3, 4, 5, 6, 7, 8, 9, 10, 11, 12, 13, 14, 15, 16, 17, 18, 19, 20, 22, 23, 24, 25, 26] 27 (by decide) rfl rfl rfl (by decide) (by decide) rfl rfl
            exact hret _ _ _ dX8_tryText_79 ⟨((prw t L ta3).2.1), br2_55, lf2_55, pl2_55, vl2_55, tdl, ebl, esl, ecl, etl, (by first | assumption | omega), (by rw [← htot, show 61 - rd = (60 - rd) + 1 by omega, trF_1 c40 c58])⟩
  refine g_lv [1, 0] rfl ?_
  exact loop27 ((61 - 0) + 1) 0 C 0 0 br lf pl vl td eb es ec et (Nat.lt_succ_self _) (by omega) (by omega) (by exact hI) (by rfl) (by exact hbr)
