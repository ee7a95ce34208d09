/-! texts: a write of a text, and all of them -/
theorem nd0_0 (t : Nat → Nat) (L a m : Nat) : nd0 t L 0 a m = nd t L a m := if_pos rfl
theorem nd0_1 (t : Nat → Nat) (L a m : Nat) : nd0 t L 1 a m = 0 := if_neg (by decide)
theorem pB_1 (t : Nat → Nat) (L a m : Nat) : pB t L 1 a m = 1 := by unfold pB; rw [nd0_1]; rfl
theorem pB_0 (t : Nat → Nat) (L a m : Nat) : pB t L 0 a m = if nd t L a m = 0 then 1 else 0 := by unfold pB; rw [nd0_0]
theorem sA_1 (t : Nat → Nat) (L a c : Nat) : sA t L 1 a c = a := if_neg (fun h => absurd h.1 (by decide))
theorem sB_1 (t : Nat → Nat) (L a c : Nat) : sB t L 1 a c = 1 := if_neg (fun h => absurd h.1 (by decide))
theorem sA_0 (t : Nat → Nat) (L a c : Nat) : sA t L 0 a c = if a < L ∧ t a = c then a + 1 else a := by
  unfold sA
  by_cases h : a < L ∧ t a = c
  · rw [if_pos ⟨rfl, h⟩, if_pos h]
  · rw [if_neg (fun z => h z.2), if_neg h]
theorem sB_0 (t : Nat → Nat) (L a c : Nat) : sB t L 0 a c = if a < L ∧ t a = c then 0 else 1 := by
  unfold sB
  by_cases h : a < L ∧ t a = c
  · rw [if_pos ⟨rfl, h⟩, if_pos h]
  · rw [if_neg (fun z => h z.2), if_neg h]
theorem sA_in {t : Nat → Nat} {L br a c : Nat} (h : a ≤ L) : sA t L br a c ≤ L := by
  unfold sA; split
  · rename_i z; have := z.2.1; omega
  · exact h
theorem sB_le {t : Nat → Nat} {L br a c : Nat} (h : br ≤ 1) : sB t L br a c ≤ 1 := by
  unfold sB; split <;> omega
theorem pB_le {t : Nat → Nat} {L br a m : Nat} (h : br ≤ 1) : pB t L br a m ≤ 1 := by
  unfold pB; split <;> omega
theorem nd0_in {t : Nat → Nat} {L br a m : Nat} (h : a ≤ L) : a + nd0 t L br a m ≤ L := by
  unfold nd0; split
  · exact nd_in t L m a h
  · omega
theorem nd0_le {t : Nat → Nat} {L br a m : Nat} : nd0 t L br a m ≤ m := by
  unfold nd0; split
  · exact nd_le t L m a
  · omega
theorem prw_of {t : Nat → Nat} {L a a1 b1 a2 b2 a3 b3 a4 b4 a5 b5 a6 b6 v1 v2 v3 : Nat}
    (e1 : a1 = a + nd0 t L 0 a 2) (f1 : b1 = pB t L 0 a 2) (g1 : v1 = pv t a (nd0 t L 0 a 2))
    (e2 : a2 = sA t L b1 a1 46) (f2 : b2 = sB t L b1 a1 46)
    (e3 : a3 = a2 + nd0 t L b2 a2 1) (f3 : b3 = pB t L b2 a2 1) (g3 : v2 = pv t a2 (nd0 t L b2 a2 1))
    (e4 : a4 = sA t L b3 a3 61) (f4 : b4 = sB t L b3 a3 61)
    (e5 : a5 = a4 + nd0 t L b4 a4 3) (f5 : b5 = pB t L b4 a4 3) (g5 : v3 = pv t a4 (nd0 t L b4 a4 3))
    (e6 : a6 = sA t L b5 a5 59) (f6 : b6 = sB t L b5 a5 59) :
    a6 = (prw t L a).2.1 ∧ ((prw t L a).1 = 1 ↔ b6 = 0) ∧ ((prw t L a).1 = 1 → v1 = (prw t L a).2.2.1 ∧ v2 = (prw t L a).2.2.2.1 ∧ v3 = (prw t L a).2.2.2.2) := by
  unfold prw
  dsimp only
  rw [nd0_0] at e1 g1
  rw [pB_0] at f1
  by_cases h1 : nd t L a 2 = 0
  · rw [if_pos h1] at f1
    rw [h1] at e1
    subst f1
    rw [sA_1] at e2; rw [sB_1] at f2; subst f2
    rw [nd0_1] at e3; rw [pB_1] at f3; subst f3
    rw [sA_1] at e4; rw [sB_1] at f4; subst f4
    rw [nd0_1] at e5; rw [pB_1] at f5; subst f5
    rw [sA_1] at e6; rw [sB_1] at f6; subst f6
    simp only [h1, if_true]
    exact ⟨by omega, by decide, fun h => absurd h (by decide)⟩
  rw [if_neg h1] at f1
  subst f1
  rw [sA_0] at e2; rw [sB_0] at f2
  rw [← e1]
  by_cases h2 : a1 < L ∧ t a1 = 46
  rotate_left
  · rw [if_neg h2] at e2 f2
    subst f2
    rw [nd0_1] at e3; rw [pB_1] at f3; subst f3
    rw [sA_1] at e4; rw [sB_1] at f4; subst f4
    rw [nd0_1] at e5; rw [pB_1] at f5; subst f5
    rw [sA_1] at e6; rw [sB_1] at f6; subst f6
    simp only [if_neg h1, if_pos h2]
    exact ⟨by omega, by decide, fun h => absurd h (by decide)⟩
  rw [if_pos h2] at e2 f2
  subst f2
  rw [nd0_0] at e3 g3; rw [pB_0] at f3
  rw [← e2]
  by_cases h3 : nd t L a2 1 = 0
  · rw [if_pos h3] at f3
    subst f3
    rw [h3] at e3
    rw [sA_1] at e4; rw [sB_1] at f4; subst f4
    rw [nd0_1] at e5; rw [pB_1] at f5; subst f5
    rw [sA_1] at e6; rw [sB_1] at f6; subst f6
    simp only [if_neg h1, if_neg (fun z : ¬ (a1 < L ∧ t a1 = 46) => z h2), if_pos h3]
    exact ⟨by omega, by decide, fun h => absurd h (by decide)⟩
  rw [if_neg h3] at f3
  subst f3
  rw [sA_0] at e4; rw [sB_0] at f4
  rw [← e3]
  by_cases h4 : a3 < L ∧ t a3 = 61
  rotate_left
  · rw [if_neg h4] at e4 f4
    subst f4
    rw [nd0_1] at e5; rw [pB_1] at f5; subst f5
    rw [sA_1] at e6; rw [sB_1] at f6; subst f6
    simp only [if_neg h1, if_neg (fun z : ¬ (a1 < L ∧ t a1 = 46) => z h2), if_neg h3, if_pos h4]
    exact ⟨by omega, by decide, fun h => absurd h (by decide)⟩
  rw [if_pos h4] at e4 f4
  subst f4
  rw [nd0_0] at e5 g5; rw [pB_0] at f5
  rw [← e4]
  by_cases h5 : nd t L a4 3 = 0
  · rw [if_pos h5] at f5
    subst f5
    rw [h5] at e5
    rw [sA_1] at e6; rw [sB_1] at f6; subst f6
    simp only [if_neg h1, if_neg (fun z : ¬ (a1 < L ∧ t a1 = 46) => z h2), if_neg h3, if_neg (fun z : ¬ (a3 < L ∧ t a3 = 61) => z h4), if_pos h5]
    exact ⟨by omega, by decide, fun h => absurd h (by decide)⟩
  rw [if_neg h5] at f5
  subst f5
  rw [sA_0] at e6; rw [sB_0] at f6
  rw [← e5]
  by_cases h6 : a5 < L ∧ t a5 = 59
  · rw [if_pos h6] at e6 f6
    simp only [if_neg h1, if_neg (fun z : ¬ (a1 < L ∧ t a1 = 46) => z h2), if_neg h3, if_neg (fun z : ¬ (a3 < L ∧ t a3 = 61) => z h4), if_neg h5, if_neg (fun z : ¬ (a5 < L ∧ t a5 = 59) => z h6)]
    exact ⟨e6, by rw [f6]; simp, fun _ => ⟨g1, g3, g5⟩⟩
  · rw [if_neg h6] at e6 f6
    simp only [if_neg h1, if_neg (fun z : ¬ (a1 < L ∧ t a1 = 46) => z h2), if_neg h3, if_neg (fun z : ¬ (a3 < L ∧ t a3 = 61) => z h4), if_neg h5, if_pos h6]
    exact ⟨e6, by rw [f6]; decide, fun h => absurd h (by decide)⟩
set_option maxHeartbeats 4000000 in
set_option maxRecDepth 100000 in
theorem c_X4_parseWrite (l : Launch) (E : En) (x0 : Nat) (x1 : Nat) (L : Nat) (a : Nat) (br : Nat) (lf : Nat) (pl : Nat) (vl : Nat) (t : Nat → Nat) (hL : L ≤ 60) (ha : a ≤ L) (hbr : br ≤ 1) (ht : BT t) : CtI l yX4_parseWrite wsX4_parseWrite ({ frames := 3, cells := 0, slots := 0, locals := 64 } : Room) E [.ref x0] [ob 4 x0 [.ref x1, .int (nI L), .int (nI a), .int (nI br), .int (nI lf), .int (nI pl), .int (nI vl)], ac E x1 60 t] (fun rr uu => ∃ (br2 : Nat), ∃ (lf2 : Nat), ∃ (pl2 : Nat), ∃ (vl2 : Nat), (br2 ≤ 1) ∧ ((prw t L a).1 = 1 → lf2 = (prw t L a).2.2.1 ∧ pl2 = (prw t L a).2.2.2.1 ∧ vl2 = (prw t L a).2.2.2.2) ∧ rr = (bi ((prw t L a).1 = 1)) ∧ uu = [ob 4 x0 [.ref x1, .int (nI L), .int (nI ((prw t L a).2.1)), .int (nI br2), .int (nI lf2), .int (nI pl2), .int (nI vl2)], ac E x1 60 t]) := by
  refine CtI.of cX4_parseWrite 1 RX4 .boolean rfl (by decide) rfl (Or.inr rfl) (Nat.le_of_ble_eq_true rfl) (fun _ r u hp => by obtain ⟨_, _, _, _, -, -, rfl, -⟩ := hp; exact bi_narrow _) ?_
  intro Γ F hret
  show G Γ E 0 0 0 [(0, .ref x0)] [] [ob 4 x0 [.ref x1, .int (nI L), .int (nI a), .int (nI br), .int (nI lf), .int (nI pl), .int (nI vl)], ac E x1 60 t]
  refine g_aload_n F 0 dX4_parseWrite_0 rfl rfl ?_
  refine g_iconst (v := nI 0) F dX4_parseWrite_1 (by decide) ?_
  refine g_put F 0 3 dX4_parseWrite_2 rfl rfl (by decide) (by decide +kernel) (by decide +kernel) tyX4_ok nmX4 rfl (by decide +kernel) (by decide) (by decide) (Nat.le_of_ble_eq_true rfl) rfl (ty := .boolean) (w2 := [ob 4 x0 [.ref x1, .int (nI L), .int (nI a), .int (nI 0), .int (nI lf), .int (nI pl), .int (nI vl)], ac E x1 60 t]) rfl ?_
  refine g_aload_n F 0 dX4_parseWrite_5 rfl rfl ?_
  refine g_aload_n F 0 dX4_parseWrite_6 rfl rfl ?_
  refine g_iconst (v := nI 2) F dX4_parseWrite_7 (by decide) ?_
  refine g_callViW (n := 1) F [0, 1] (c_X4_parseNumber l E x0 x1 L a 0 lf pl vl t 2 (by exact hL) (by assumption) (by first | assumption | exact Nat.zero_le 1) (by omega) (by exact ht)) dX4_parseWrite_8 rfl (by decide) rfl rfl rfl (Nat.le_of_ble_eq_true rfl) ⟨Nat.le_of_ble_eq_true rfl, Nat.le_of_ble_eq_true rfl⟩ rfl rfl ⟨Nat.le_of_ble_eq_true rfl, Nat.le_of_ble_eq_true rfl⟩ 0 rfl rfl gX4_parseWrite_X4_parseNumber (by decide +kernel) (fun r u hp => by obtain ⟨-, rfl⟩ := hp; rfl) ?_
  rintro r_8 u_8 ⟨rfl, rfl⟩
  refine g_ws (w2 := [ob 4 x0 [.ref x1, .int (nI L), .int (nI (a + nd0 t L 0 a 2)), .int (nI (pB t L 0 a 2)), .int (nI lf), .int (nI pl), .int (nI vl)], ac E x1 60 t]) rfl ?_
  obtain ⟨a1, ea1⟩ : ∃ z : Nat, z = a + nd0 t L 0 a 2 := ⟨_, rfl⟩
  obtain ⟨b1, eb1⟩ : ∃ z : Nat, z = pB t L 0 a 2 := ⟨_, rfl⟩
  have la1 : a1 ≤ L := by rw [ea1]; exact nd0_in ha
  have lb1 : b1 ≤ 1 := by rw [eb1]; exact pB_le (Nat.zero_le 1)
  refine g_obC 0 rfl [.ref x1, .int (nI L), .int (nI a1), .int (nI b1), .int (nI lf), .int (nI pl), .int (nI vl)] (by rw [ea1, eb1]) (w2 := [ob 4 x0 [.ref x1, .int (nI L), .int (nI a1), .int (nI b1), .int (nI lf), .int (nI pl), .int (nI vl)], ac E x1 60 t]) rfl ?_
  refine g_put F 0 4 dX4_parseWrite_11 rfl rfl (by decide) (by decide +kernel) (by decide +kernel) tyX4_ok nmX4 rfl (by decide +kernel) rfl rfl (Nat.le_of_ble_eq_true rfl) rfl (ty := .int) (w2 := [ob 4 x0 [.ref x1, .int (nI L), .int (nI a1), .int (nI b1), .int (nI (pv t a (nd0 t L 0 a 2))), .int (nI pl), .int (nI vl)], ac E x1 60 t]) rfl ?_
  refine g_aload_n F 0 dX4_parseWrite_14 rfl rfl ?_
  refine g_bipush (v := nI 46) F dX4_parseWrite_15 (by decide) ?_
  refine g_callVvW (n := 1) F [0, 1] (c_X4_parseSign l E x0 x1 L a1 b1 (pv t a (nd0 t L 0 a 2)) pl vl t 46 (by exact hL) (by assumption) (by first | assumption | exact Nat.zero_le 1) (by omega) (by exact ht)) dX4_parseWrite_17 rfl (by decide) rfl rfl rfl (Nat.le_of_ble_eq_true rfl) ⟨Nat.le_of_ble_eq_true rfl, Nat.le_of_ble_eq_true rfl⟩ rfl rfl ⟨Nat.le_of_ble_eq_true rfl, Nat.le_of_ble_eq_true rfl⟩ 0 rfl rfl gX4_parseWrite_X4_parseSign (by decide +kernel) (fun u hp => by obtain rfl := hp; rfl) ?_
  rintro u_17 rfl
  refine g_ws (w2 := [ob 4 x0 [.ref x1, .int (nI L), .int (nI (sA t L b1 a1 46)), .int (nI (sB t L b1 a1 46)), .int (nI (pv t a (nd0 t L 0 a 2))), .int (nI pl), .int (nI vl)], ac E x1 60 t]) rfl ?_
  obtain ⟨a2, ea2⟩ : ∃ z : Nat, z = sA t L b1 a1 46 := ⟨_, rfl⟩
  obtain ⟨b2, eb2⟩ : ∃ z : Nat, z = sB t L b1 a1 46 := ⟨_, rfl⟩
  have la2 : a2 ≤ L := by rw [ea2]; exact sA_in la1
  have lb2 : b2 ≤ 1 := by rw [eb2]; exact sB_le lb1
  refine g_obC 0 rfl [.ref x1, .int (nI L), .int (nI a2), .int (nI b2), .int (nI (pv t a (nd0 t L 0 a 2))), .int (nI pl), .int (nI vl)] (by rw [ea2, eb2]) (w2 := [ob 4 x0 [.ref x1, .int (nI L), .int (nI a2), .int (nI b2), .int (nI (pv t a (nd0 t L 0 a 2))), .int (nI pl), .int (nI vl)], ac E x1 60 t]) rfl ?_
  refine g_aload_n F 0 dX4_parseWrite_20 rfl rfl ?_
  refine g_aload_n F 0 dX4_parseWrite_21 rfl rfl ?_
  refine g_iconst (v := nI 1) F dX4_parseWrite_22 (by decide) ?_
  refine g_callViW (n := 1) F [0, 1] (c_X4_parseNumber l E x0 x1 L a2 b2 (pv t a (nd0 t L 0 a 2)) pl vl t 1 (by exact hL) (by assumption) (by first | assumption | exact Nat.zero_le 1) (by omega) (by exact ht)) dX4_parseWrite_23 rfl (by decide) rfl rfl rfl (Nat.le_of_ble_eq_true rfl) ⟨Nat.le_of_ble_eq_true rfl, Nat.le_of_ble_eq_true rfl⟩ rfl rfl ⟨Nat.le_of_ble_eq_true rfl, Nat.le_of_ble_eq_true rfl⟩ 0 rfl rfl gX4_parseWrite_X4_parseNumber (by decide +kernel) (fun r u hp => by obtain ⟨-, rfl⟩ := hp; rfl) ?_
  rintro r_23 u_23 ⟨rfl, rfl⟩
  refine g_ws (w2 := [ob 4 x0 [.ref x1, .int (nI L), .int (nI (a2 + nd0 t L b2 a2 1)), .int (nI (pB t L b2 a2 1)), .int (nI (pv t a (nd0 t L 0 a 2))), .int (nI pl), .int (nI vl)], ac E x1 60 t]) rfl ?_
  obtain ⟨a3, ea3⟩ : ∃ z : Nat, z = a2 + nd0 t L b2 a2 1 := ⟨_, rfl⟩
  obtain ⟨b3, eb3⟩ : ∃ z : Nat, z = pB t L b2 a2 1 := ⟨_, rfl⟩
  have la3 : a3 ≤ L := by rw [ea3]; exact nd0_in la2
  have lb3 : b3 ≤ 1 := by rw [eb3]; exact pB_le lb2
  refine g_obC 0 rfl [.ref x1, .int (nI L), .int (nI a3), .int (nI b3), .int (nI (pv t a (nd0 t L 0 a 2))), .int (nI pl), .int (nI vl)] (by rw [ea3, eb3]) (w2 := [ob 4 x0 [.ref x1, .int (nI L), .int (nI a3), .int (nI b3), .int (nI (pv t a (nd0 t L 0 a 2))), .int (nI pl), .int (nI vl)], ac E x1 60 t]) rfl ?_
  refine g_put F 0 5 dX4_parseWrite_26 rfl rfl (by decide) (by decide +kernel) (by decide +kernel) tyX4_ok nmX4 rfl (by decide +kernel) rfl rfl (Nat.le_of_ble_eq_true rfl) rfl (ty := .int) (w2 := [ob 4 x0 [.ref x1, .int (nI L), .int (nI a3), .int (nI b3), .int (nI (pv t a (nd0 t L 0 a 2))), .int (nI (pv t a2 (nd0 t L b2 a2 1))), .int (nI vl)], ac E x1 60 t]) rfl ?_
  refine g_aload_n F 0 dX4_parseWrite_29 rfl rfl ?_
  refine g_bipush (v := nI 61) F dX4_parseWrite_30 (by decide) ?_
  refine g_callVvW (n := 1) F [0, 1] (c_X4_parseSign l E x0 x1 L a3 b3 (pv t a (nd0 t L 0 a 2)) (pv t a2 (nd0 t L b2 a2 1)) vl t 61 (by exact hL) (by assumption) (by first | assumption | exact Nat.zero_le 1) (by omega) (by exact ht)) dX4_parseWrite_32 rfl (by decide) rfl rfl rfl (Nat.le_of_ble_eq_true rfl) ⟨Nat.le_of_ble_eq_true rfl, Nat.le_of_ble_eq_true rfl⟩ rfl rfl ⟨Nat.le_of_ble_eq_true rfl, Nat.le_of_ble_eq_true rfl⟩ 0 rfl rfl gX4_parseWrite_X4_parseSign (by decide +kernel) (fun u hp => by obtain rfl := hp; rfl) ?_
  rintro u_32 rfl
  refine g_ws (w2 := [ob 4 x0 [.ref x1, .int (nI L), .int (nI (sA t L b3 a3 61)), .int (nI (sB t L b3 a3 61)), .int (nI (pv t a (nd0 t L 0 a 2))), .int (nI (pv t a2 (nd0 t L b2 a2 1))), .int (nI vl)], ac E x1 60 t]) rfl ?_
  obtain ⟨a4, ea4⟩ : ∃ z : Nat, z = sA t L b3 a3 61 := ⟨_, rfl⟩
  obtain ⟨b4, eb4⟩ : ∃ z : Nat, z = sB t L b3 a3 61 := ⟨_, rfl⟩
  have la4 : a4 ≤ L := by rw [ea4]; exact sA_in la3
  have lb4 : b4 ≤ 1 := by rw [eb4]; exact sB_le lb3
  refine g_obC 0 rfl [.ref x1, .int (nI L), .int (nI a4), .int (nI b4), .int (nI (pv t a (nd0 t L 0 a 2))), .int (nI (pv t a2 (nd0 t L b2 a2 1))), .int (nI vl)] (by rw [ea4, eb4]) (w2 := [ob 4 x0 [.ref x1, .int (nI L), .int (nI a4), .int (nI b4), .int (nI (pv t a (nd0 t L 0 a 2))), .int (nI (pv t a2 (nd0 t L b2 a2 1))), .int (nI vl)], ac E x1 60 t]) rfl ?_
  refine g_aload_n F 0 dX4_parseWrite_35 rfl rfl ?_
  refine g_aload_n F 0 dX4_parseWrite_36 rfl rfl ?_
  refine g_iconst (v := nI 3) F dX4_parseWrite_37 (by decide) ?_
  refine g_callViW (n := 1) F [0, 1] (c_X4_parseNumber l E x0 x1 L a4 b4 (pv t a (nd0 t L 0 a 2)) (pv t a2 (nd0 t L b2 a2 1)) vl t 3 (by exact hL) (by assumption) (by first | assumption | exact Nat.zero_le 1) (by omega) (by exact ht)) dX4_parseWrite_38 rfl (by decide) rfl rfl rfl (Nat.le_of_ble_eq_true rfl) ⟨Nat.le_of_ble_eq_true rfl, Nat.le_of_ble_eq_true rfl⟩ rfl rfl ⟨Nat.le_of_ble_eq_true rfl, Nat.le_of_ble_eq_true rfl⟩ 0 rfl rfl gX4_parseWrite_X4_parseNumber (by decide +kernel) (fun r u hp => by obtain ⟨-, rfl⟩ := hp; rfl) ?_
  rintro r_38 u_38 ⟨rfl, rfl⟩
  refine g_ws (w2 := [ob 4 x0 [.ref x1, .int (nI L), .int (nI (a4 + nd0 t L b4 a4 3)), .int (nI (pB t L b4 a4 3)), .int (nI (pv t a (nd0 t L 0 a 2))), .int (nI (pv t a2 (nd0 t L b2 a2 1))), .int (nI vl)], ac E x1 60 t]) rfl ?_
  obtain ⟨a5, ea5⟩ : ∃ z : Nat, z = a4 + nd0 t L b4 a4 3 := ⟨_, rfl⟩
  obtain ⟨b5, eb5⟩ : ∃ z : Nat, z = pB t L b4 a4 3 := ⟨_, rfl⟩
  have la5 : a5 ≤ L := by rw [ea5]; exact nd0_in la4
  have lb5 : b5 ≤ 1 := by rw [eb5]; exact pB_le lb4
  refine g_obC 0 rfl [.ref x1, .int (nI L), .int (nI a5), .int (nI b5), .int (nI (pv t a (nd0 t L 0 a 2))), .int (nI (pv t a2 (nd0 t L b2 a2 1))), .int (nI vl)] (by rw [ea5, eb5]) (w2 := [ob 4 x0 [.ref x1, .int (nI L), .int (nI a5), .int (nI b5), .int (nI (pv t a (nd0 t L 0 a 2))), .int (nI (pv t a2 (nd0 t L b2 a2 1))), .int (nI vl)], ac E x1 60 t]) rfl ?_
  refine g_put F 0 6 dX4_parseWrite_41 rfl rfl (by decide) (by decide +kernel) (by decide +kernel) tyX4_ok nmX4 rfl (by decide +kernel) rfl rfl (Nat.le_of_ble_eq_true rfl) rfl (ty := .int) (w2 := [ob 4 x0 [.ref x1, .int (nI L), .int (nI a5), .int (nI b5), .int (nI (pv t a (nd0 t L 0 a 2))), .int (nI (pv t a2 (nd0 t L b2 a2 1))), .int (nI (pv t a4 (nd0 t L b4 a4 3)))], ac E x1 60 t]) rfl ?_
  refine g_aload_n F 0 dX4_parseWrite_44 rfl rfl ?_
  refine g_bipush (v := nI 59) F dX4_parseWrite_45 (by decide) ?_
  refine g_callVvW (n := 1) F [0, 1] (c_X4_parseSign l E x0 x1 L a5 b5 (pv t a (nd0 t L 0 a 2)) (pv t a2 (nd0 t L b2 a2 1)) (pv t a4 (nd0 t L b4 a4 3)) t 59 (by exact hL) (by assumption) (by first | assumption | exact Nat.zero_le 1) (by omega) (by exact ht)) dX4_parseWrite_47 rfl (by decide) rfl rfl rfl (Nat.le_of_ble_eq_true rfl) ⟨Nat.le_of_ble_eq_true rfl, Nat.le_of_ble_eq_true rfl⟩ rfl rfl ⟨Nat.le_of_ble_eq_true rfl, Nat.le_of_ble_eq_true rfl⟩ 0 rfl rfl gX4_parseWrite_X4_parseSign (by decide +kernel) (fun u hp => by obtain rfl := hp; rfl) ?_
  rintro u_47 rfl
  refine g_ws (w2 := [ob 4 x0 [.ref x1, .int (nI L), .int (nI (sA t L b5 a5 59)), .int (nI (sB t L b5 a5 59)), .int (nI (pv t a (nd0 t L 0 a 2))), .int (nI (pv t a2 (nd0 t L b2 a2 1))), .int (nI (pv t a4 (nd0 t L b4 a4 3)))], ac E x1 60 t]) rfl ?_
  obtain ⟨a6, ea6⟩ : ∃ z : Nat, z = sA t L b5 a5 59 := ⟨_, rfl⟩
  obtain ⟨b6, eb6⟩ : ∃ z : Nat, z = sB t L b5 a5 59 := ⟨_, rfl⟩
  have la6 : a6 ≤ L := by rw [ea6]; exact sA_in la5
  have lb6 : b6 ≤ 1 := by rw [eb6]; exact sB_le lb5
  refine g_obC 0 rfl [.ref x1, .int (nI L), .int (nI a6), .int (nI b6), .int (nI (pv t a (nd0 t L 0 a 2))), .int (nI (pv t a2 (nd0 t L b2 a2 1))), .int (nI (pv t a4 (nd0 t L b4 a4 3)))] (by rw [ea6, eb6]) (w2 := [ob 4 x0 [.ref x1, .int (nI L), .int (nI a6), .int (nI b6), .int (nI (pv t a (nd0 t L 0 a 2))), .int (nI (pv t a2 (nd0 t L b2 a2 1))), .int (nI (pv t a4 (nd0 t L b4 a4 3)))], ac E x1 60 t]) rfl ?_
  refine g_aload_n F 0 dX4_parseWrite_50 rfl rfl ?_
  refine g_get F 0 3 dX4_parseWrite_51 rfl rfl (by decide) (by decide +kernel) (by decide +kernel) rfl ?_
  refine g_if_neN (tgt := 61) F dX4_parseWrite_54 (by decide) (by omega) (fun c54 => ?_) (fun c54 => ?_)
  · skip
    have hh := prw_of ea1 eb1 rfl ea2 eb2 ea3 eb3 rfl ea4 eb4 ea5 eb5 rfl ea6 eb6
    refine g_iconst (v := nI 0) F dX4_parseWrite_61 (by decide) ?_
    refine g_obC 0 rfl [.ref x1, .int (nI L), .int (nI ((prw t L a).2.1)), .int (nI b6), .int (nI (pv t a (nd0 t L 0 a 2))), .int (nI (pv t a2 (nd0 t L b2 a2 1))), .int (nI (pv t a4 (nd0 t L b4 a4 3)))] (by rw [hh.1]) (w2 := [ob 4 x0 [.ref x1, .int (nI L), .int (nI ((prw t L a).2.1)), .int (nI b6), .int (nI (pv t a (nd0 t L 0 a 2))), .int (nI (pv t a2 (nd0 t L b2 a2 1))), .int (nI (pv t a4 (nd0 t L b4 a4 3)))], ac E x1 60 t]) rfl ?_
    exact hret _ _ _ _ dX4_parseWrite_62 ⟨b6, (pv t a (nd0 t L 0 a 2)), (pv t a2 (nd0 t L b2 a2 1)), (pv t a4 (nd0 t L b4 a4 3)), (by exact lb6), (by exact hh.2.2), (bi_neg (by exact fun h => c54 (hh.2.1.mp h))).symm, (by rfl)⟩
  · skip
    have hh := prw_of ea1 eb1 rfl ea2 eb2 ea3 eb3 rfl ea4 eb4 ea5 eb5 rfl ea6 eb6
    refine g_iconst (v := nI 1) F dX4_parseWrite_57 (by decide) ?_
    refine g_goto (tgt := 62) F dX4_parseWrite_58 (by decide) ?_
    refine g_obC 0 rfl [.ref x1, .int (nI L), .int (nI ((prw t L a).2.1)), .int (nI b6), .int (nI (pv t a (nd0 t L 0 a 2))), .int (nI (pv t a2 (nd0 t L b2 a2 1))), .int (nI (pv t a4 (nd0 t L b4 a4 3)))] (by rw [hh.1]) (w2 := [ob 4 x0 [.ref x1, .int (nI L), .int (nI ((prw t L a).2.1)), .int (nI b6), .int (nI (pv t a (nd0 t L 0 a 2))), .int (nI (pv t a2 (nd0 t L b2 a2 1))), .int (nI (pv t a4 (nd0 t L b4 a4 3)))], ac E x1 60 t]) rfl ?_
    exact hret _ _ _ _ dX4_parseWrite_62 ⟨b6, (pv t a (nd0 t L 0 a 2)), (pv t a2 (nd0 t L b2 a2 1)), (pv t a4 (nd0 t L b4 a4 3)), (by exact lb6), (by exact hh.2.2), (bi_pos (by exact hh.2.1.mpr c54)).symm, (by rfl)⟩
