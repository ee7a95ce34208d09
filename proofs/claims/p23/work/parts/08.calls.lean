/-! the class itself: answers out of its state -/
theorem WO_td {N : Nat → Nat} {b s l td : Nat} {Wb Ws Wc Wt : Nat → Nat} (h : WO N b s l td Wb Ws Wc Wt) {v : Nat} (hv : v < 3) : v < td ↔ v ≤ gl N b s l := by
  obtain ⟨⟨h1, h2⟩, h3, h4, h5, h6⟩ := h
  have e : gl N b s l = if wd N b s l (td - 1) = 2 then td - 1 else td := by
    unfold gl
    rcases (show td = 1 ∨ td = 2 ∨ td = 3 by omega) with rfl | rfl | rfl
    · rw [if_pos (h5 (by omega)), if_pos (h5 (by omega))]
    · rw [if_neg (by have := h4 0 (by omega); omega), if_pos (h5 (by omega)), if_pos (h5 (by omega))]
    · rw [if_neg (by have := h4 0 (by omega); omega), if_neg (by have := h4 1 (by omega); omega)]
  rw [e]
  by_cases z : wd N b s l (td - 1) = 2
  · rw [if_pos z]; omega
  · rw [if_neg z]
    have : td = 3 := by
      by_cases y : td < 3
      · exact absurd (h5 y) z
      · omega
    omega
abbrev wBC (C : CS) (r l v : Nat) : Nat := wb (sN C) (sb C r) (ss C r) l v
abbrev wQC (C : CS) (r l v : Nat) : Nat := wq (sN C) (sb C r) (ss C r) l v
abbrev wDC (C : CS) (r l v : Nat) : Nat := wd (sN C) (sb C r) (ss C r) l v
abbrev spC (C : CS) (r l : Nat) : Nat := sp (sN C) (sb C r) (ss C r) l
abbrev glC (C : CS) (r l : Nat) : Nat := gl (sN C) (sb C r) (ss C r) l
noncomputable def p_read (C : CS) (x y z : Int32) : Int32 := cI (rng x (sZ C) ∧ rng y 16 ∧ rng z 4) (if spC C (dv x) (dv y) = 0 then nI (nu (sN C) (wDC C (dv x) (dv y) 2) (wBC C (dv x) (dv y) 2) (dv z)) else (-1000002)) (-1000001)
noncomputable def p_from (C : CS) (x y z : Int32) : Int32 := cI (rng x (sZ C) ∧ rng y 16 ∧ rng z 3) (if dv z ≤ glC C (dv x) (dv y) then nI (wDC C (dv x) (dv y) (dv z)) else (-1000004)) (-1000001)
noncomputable def p_way (C : CS) (x y z u : Int32) : Int32 := cI (rng x (sZ C) ∧ rng y 16 ∧ rng z 3 ∧ rng u 2) (if dv z ≤ glC C (dv x) (dv y) then (if dv u = 0 then nI (wBC C (dv x) (dv y) (dv z)) else nI (wQC C (dv x) (dv y) (dv z))) else (-1000004)) (-1000001)
noncomputable def p_content (C : CS) (x y z : Int32) : Int32 := cI (rng x 96 ∧ rng y 2 ∧ rng z 5) (if dv z = 4 then nI (sm (sN C) ((dv y * 96 + dv x) * 4)) else nI (nu (sN C) (dv y) (dv x) (dv z))) (-1000001)
def kd (C : CS) (r w l : Nat) : Prop := if w = 0 then ¬ spC C r l = 0 else if w = 1 then spC C r l = 0 ∧ ∃ v : Nat, v < 3 ∧ ¬ al (sN C) (wBC C r l v) else spC C r l = 0 ∧ ∃ v : Nat, v < 3 ∧ wDC C r l v = 1
noncomputable def lvs (C : CS) (r w : Nat) : Nat → Nat
  | 0 => 0
  | k + 1 => cI (kd C r w k) (lvs C r w k ||| 2 ^ k) (lvs C r w k)
noncomputable def p_leaves (C : CS) (x y : Int32) : Int32 := cI (rng x (sZ C) ∧ rng y 3) (nI (lvs C (dv x) (dv y) 16)) (-1000001)
noncomputable def p_unlike (C : CS) (x y : Int32) : Int32 := cI (rng x (sZ C) ∧ rng y (sZ C)) (ulI (uly (sN C) (sb C (dv x)) (ss C (dv x)) (sb C (dv y)) (ss C (dv y)))) (-1000001)
theorem IC.rb {C : CS} (h : IC C) {r : Nat} (hr : r < sZ C) : sb C r < 96 := h.2.2.2.2.2.1 r hr
theorem IC.rs {C : CS} (h : IC C) {r : Nat} (hr : r < sZ C) : ss C r < 251 := h.2.2.2.2.2.2 r hr
set_option maxHeartbeats 4000000 in
set_option maxRecDepth 100000 in
theorem c_X8_isRoot (l : Launch) (E : En) (o : Nat) (a : Nat → Nat) (b : Nat → Nat) (y0 : Nat) (x0 : Nat) (v0 : Nat) (g0 : Nat) (k0 : Nat) (m0 : Nat) (C : CS) (x1 : Int32)  : CtI l yX8_isRoot wsX8_isRoot ({ frames := 1, cells := 0, slots := 0, locals := 21 } : Room) E [.ref o, .int (x1)] [ob 8 o [.ref (a 0), .ref (b 0), .ref y0, .ref x0, .ref v0, .ref g0, .ref k0, .ref m0], ob 5 (a 0) [.ref (a 1), .ref (a 2), .ref (a 3), .int (nI (sM C)), .int (nI (sW C))], ob 1 (a 1) [.ref (a 4)], ai E (a 4) 768 (sN C), ob 0 (a 2) [.ref (a 5)], az E (a 5) 96 (sU C), ob 3 (a 3) [.ref (a 6), .ref (a 7), .ref (a 8), .int (nI (sZ C))], ai E (a 6) 8 (sn C), ai E (a 7) 8 (sb C), ai E (a 8) 8 (ss C)] (fun rr uu => rr = (bi (rng x1 (sZ C))) ∧ uu = [ob 8 o [.ref (a 0), .ref (b 0), .ref y0, .ref x0, .ref v0, .ref g0, .ref k0, .ref m0], ob 5 (a 0) [.ref (a 1), .ref (a 2), .ref (a 3), .int (nI (sM C)), .int (nI (sW C))], ob 1 (a 1) [.ref (a 4)], ai E (a 4) 768 (sN C), ob 0 (a 2) [.ref (a 5)], az E (a 5) 96 (sU C), ob 3 (a 3) [.ref (a 6), .ref (a 7), .ref (a 8), .int (nI (sZ C))], ai E (a 6) 8 (sn C), ai E (a 7) 8 (sb C), ai E (a 8) 8 (ss C)]) := by
  refine CtI.of cX8_isRoot 2 RX8 .boolean rfl (by decide) rfl (Or.inr rfl) (Nat.le_of_ble_eq_true rfl) (fun _ r u hp => by obtain ⟨rfl, -⟩ := hp; exact bi_narrow _) ?_
  intro Γ F hret
  show G Γ E 0 0 0 [(0, .ref o), (1, .int (x1))] [] [ob 8 o [.ref (a 0), .ref (b 0), .ref y0, .ref x0, .ref v0, .ref g0, .ref k0, .ref m0], ob 5 (a 0) [.ref (a 1), .ref (a 2), .ref (a 3), .int (nI (sM C)), .int (nI (sW C))], ob 1 (a 1) [.ref (a 4)], ai E (a 4) 768 (sN C), ob 0 (a 2) [.ref (a 5)], az E (a 5) 96 (sU C), ob 3 (a 3) [.ref (a 6), .ref (a 7), .ref (a 8), .int (nI (sZ C))], ai E (a 6) 8 (sn C), ai E (a 7) 8 (sb C), ai E (a 8) 8 (ss C)]
  refine g_iload_n F 1 dX8_isRoot_0 rfl rfl ?_
  refine g_aload_n F 0 dX8_isRoot_1 rfl rfl ?_
  refine g_get F 0 0 dX8_isRoot_2 rfl rfl (by decide) (by decide +kernel) (by decide +kernel) rfl ?_
  refine g_getN (host := "SummedParents") F 1 2 dX8_isRoot_5 rfl rfl (by decide) (by decide +kernel) (by decide +kernel) rfl ?_
  refine g_callViR (n := 0) F [6] (c_X3_size l E (a 3) (a 6) (a 7) (a 8) (sZ C) ) dX8_isRoot_8 rfl (by decide) rfl rfl rfl (Nat.le_of_ble_eq_true rfl) ⟨Nat.le_of_ble_eq_true rfl, Nat.le_of_ble_eq_true rfl⟩ rfl rfl ⟨Nat.le_of_ble_eq_true rfl, Nat.le_of_ble_eq_true rfl⟩ 6 rfl rfl gX8_isRoot_X3_size (by decide +kernel) (fun r u hp => by obtain ⟨-, h⟩ := hp; exact h) ?_
  rintro r_8 u_8 ⟨rfl, -⟩
  refine g_callSiR (n := 2) F [] (c_X8_below_x l E x1 (sZ C) ) dX8_isRoot_11 rfl (by decide) rfl rfl rfl (Nat.le_of_ble_eq_true rfl) ⟨Nat.le_of_ble_eq_true rfl, Nat.le_of_ble_eq_true rfl⟩ rfl rfl ⟨Nat.le_of_ble_eq_true rfl, Nat.le_of_ble_eq_true rfl⟩ ggX8_isRoot_X8_below (by decide +kernel) (by decide +kernel) (by decide +kernel) (by decide +kernel) (fun r u hp => by obtain ⟨-, h⟩ := hp; exact h) ?_
  rintro r_11 u_11 ⟨rfl, -⟩
  exact hret _ _ _ _ dX8_isRoot_14 ⟨rfl, rfl⟩
set_option maxHeartbeats 4000000 in
set_option maxRecDepth 100000 in
theorem c_X8_read (l : Launch) (E : En) (o : Nat) (a : Nat → Nat) (b : Nat → Nat) (y0 : Nat) (x0 : Nat) (v0 : Nat) (g0 : Nat) (k0 : Nat) (m0 : Nat) (g1 : Nat) (g2 : Nat) (g3 : Nat) (g4 : Nat) (td : Nat) (eb : Nat → Nat) (es : Nat → Nat) (ec : Nat → Nat) (et : Nat → Nat) (C : CS) (x1 : Int32) (x2 : Int32) (x3 : Int32) (hI : IC C) : CtI l yX8_read wsX8_read ({ frames := 4, cells := 0, slots := 0, locals := 94 } : Room) E [.ref o, .int (x1), .int (x2), .int (x3)] [ob 8 o [.ref (a 0), .ref (b 0), .ref y0, .ref x0, .ref v0, .ref g0, .ref k0, .ref m0], ob 5 (a 0) [.ref (a 1), .ref (a 2), .ref (a 3), .int (nI (sM C)), .int (nI (sW C))], ob 1 (a 1) [.ref (a 4)], ai E (a 4) 768 (sN C), ob 0 (a 2) [.ref (a 5)], az E (a 5) 96 (sU C), ob 3 (a 3) [.ref (a 6), .ref (a 7), .ref (a 8), .int (nI (sZ C))], ai E (a 6) 8 (sn C), ai E (a 7) 8 (sb C), ai E (a 8) 8 (ss C), ob 7 g0 [.ref g1, .ref g2, .ref g3, .ref g4, .int (nI td)], ai E g1 3 eb, ai E g2 3 es, ai E g3 3 ec, ai E g4 12 et] (fun rr uu => ∃ (td2 : Nat), ∃ (Wb : Nat → Nat), ∃ (Ws : Nat → Nat), ∃ (Wc : Nat → Nat), ∃ (Wt : Nat → Nat), rr = (p_read C x1 x2 x3) ∧ uu = [ob 8 o [.ref (a 0), .ref (b 0), .ref y0, .ref x0, .ref v0, .ref g0, .ref k0, .ref m0], ob 5 (a 0) [.ref (a 1), .ref (a 2), .ref (a 3), .int (nI (sM C)), .int (nI (sW C))], ob 1 (a 1) [.ref (a 4)], ai E (a 4) 768 (sN C), ob 0 (a 2) [.ref (a 5)], az E (a 5) 96 (sU C), ob 3 (a 3) [.ref (a 6), .ref (a 7), .ref (a 8), .int (nI (sZ C))], ai E (a 6) 8 (sn C), ai E (a 7) 8 (sb C), ai E (a 8) 8 (ss C), ob 7 g0 [.ref g1, .ref g2, .ref g3, .ref g4, .int (nI td2)], ai E g1 3 Wb, ai E g2 3 Ws, ai E g3 3 Wc, ai E g4 12 Wt]) := by
  refine CtI.of cX8_read 4 RX8 .int rfl (by decide) rfl (Or.inl rfl) (Nat.le_of_ble_eq_true rfl) (fun h => by cases h) ?_
  intro Γ F hret
  show G Γ E 0 0 0 [(0, .ref o), (1, .int (x1)), (2, .int (x2)), (3, .int (x3))] [] [ob 8 o [.ref (a 0), .ref (b 0), .ref y0, .ref x0, .ref v0, .ref g0, .ref k0, .ref m0], ob 5 (a 0) [.ref (a 1), .ref (a 2), .ref (a 3), .int (nI (sM C)), .int (nI (sW C))], ob 1 (a 1) [.ref (a 4)], ai E (a 4) 768 (sN C), ob 0 (a 2) [.ref (a 5)], az E (a 5) 96 (sU C), ob 3 (a 3) [.ref (a 6), .ref (a 7), .ref (a 8), .int (nI (sZ C))], ai E (a 6) 8 (sn C), ai E (a 7) 8 (sb C), ai E (a 8) 8 (ss C), ob 7 g0 [.ref g1, .ref g2, .ref g3, .ref g4, .int (nI td)], ai E g1 3 eb, ai E g2 3 es, ai E g3 3 ec, ai E g4 12 et]
  refine g_aload_n F 0 dX8_read_0 rfl rfl ?_
  refine g_iload_n F 1 dX8_read_1 rfl rfl ?_
  refine g_callViR (n := 1) F [0, 1, 2, 3, 4, 5, 6, 7, 8, 9] (c_X8_isRoot l E o a b y0 x0 v0 g0 k0 m0 C x1 ) dX8_read_2 rfl (by decide) rfl rfl rfl (Nat.le_of_ble_eq_true rfl) ⟨Nat.le_of_ble_eq_true rfl, Nat.le_of_ble_eq_true rfl⟩ rfl rfl ⟨Nat.le_of_ble_eq_true rfl, Nat.le_of_ble_eq_true rfl⟩ 0 rfl rfl gX8_read_X8_isRoot (by decide +kernel) (fun r u hp => by obtain ⟨-, h⟩ := hp; exact h) ?_
  rintro r_2 u_2 ⟨rfl, -⟩
  refine g_if_eqB (tgt := 25) F dX8_read_5 (by decide) (fun c5 => ?_) (fun c5 => ?_)
  · skip
    refine g_ldc (v := (-1000001)) F dX8_read_25 (by decide +kernel) ?_
    exact hret _ _ _ _ dX8_read_27 ⟨td, eb, es, ec, et, (by unfold p_read; rw [cI_neg]; intro h; first | exact c5 h.1 | exact c14 h.2.1 | exact c22 h.2.2), (by rfl)⟩
  · skip
    obtain ⟨r1, hr1, rfl⟩ := rng_of (by have := hI.2.2.2.1; omega) (c5)
    refine g_iload_n F 2 dX8_read_8 rfl rfl ?_
    refine g_bipush (v := nI 16) F dX8_read_9 (by decide) ?_
    refine g_callSiR (n := 2) F [] (c_X8_below_x l E x2 16 ) dX8_read_11 rfl (by decide) rfl rfl rfl (Nat.le_of_ble_eq_true rfl) ⟨Nat.le_of_ble_eq_true rfl, Nat.le_of_ble_eq_true rfl⟩ rfl rfl ⟨Nat.le_of_ble_eq_true rfl, Nat.le_of_ble_eq_true rfl⟩ ggX8_read_X8_below (by decide +kernel) (by decide +kernel) (by decide +kernel) (by decide +kernel) (fun r u hp => by obtain ⟨-, h⟩ := hp; exact h) ?_
    rintro r_11 u_11 ⟨rfl, -⟩
    refine g_if_eqB (tgt := 25) F dX8_read_14 (by decide) (fun c14 => ?_) (fun c14 => ?_)
    · skip
      refine g_ldc (v := (-1000001)) F dX8_read_25 (by decide +kernel) ?_
      exact hret _ _ _ _ dX8_read_27 ⟨td, eb, es, ec, et, (by unfold p_read; rw [cI_neg]; intro h; first | exact c5 h.1 | exact c14 h.2.1 | exact c22 h.2.2), (by rfl)⟩
    · skip
      obtain ⟨l1, hl1, rfl⟩ := rng_of (by first | decide | omega) (c14)
      refine g_iload_n F 3 dX8_read_17 rfl rfl ?_
      refine g_iconst (v := nI 4) F dX8_read_18 (by decide) ?_
      refine g_callSiR (n := 2) F [] (c_X8_below_x l E x3 4 ) dX8_read_19 rfl (by decide) rfl rfl rfl (Nat.le_of_ble_eq_true rfl) ⟨Nat.le_of_ble_eq_true rfl, Nat.le_of_ble_eq_true rfl⟩ rfl rfl ⟨Nat.le_of_ble_eq_true rfl, Nat.le_of_ble_eq_true rfl⟩ ggX8_read_X8_below (by decide +kernel) (by decide +kernel) (by decide +kernel) (by decide +kernel) (fun r u hp => by obtain ⟨-, h⟩ := hp; exact h) ?_
      rintro r_19 u_19 ⟨rfl, -⟩
      refine g_if_neB (tgt := 28) F dX8_read_22 (by decide) (fun c22 => ?_) (fun c22 => ?_)
      · skip
        obtain ⟨p1, hp1, rfl⟩ := rng_of (by first | decide | omega) (c22)
        have hz8 := hI.2.2.2.1
        have hr8 : r1 < 8 := Nat.lt_of_lt_of_le hr1 hI.2.2.2.1
        have hrb := hI.rb hr1
        have hrs := hI.rs hr1
        refine g_aload_n F 0 dX8_read_28 rfl rfl ?_
        refine g_get F 0 0 dX8_read_29 rfl rfl (by decide) (by decide +kernel) (by decide +kernel) rfl ?_
        refine g_aload_n F 0 dX8_read_32 rfl rfl ?_
        refine g_get F 0 5 dX8_read_33 rfl rfl (by decide) (by decide +kernel) (by decide +kernel) rfl ?_
        refine g_iload_n F 1 dX8_read_36 rfl rfl ?_
        refine g_iload_n F 2 dX8_read_37 rfl rfl ?_
        refine g_callVvW (n := 3) F [1, 2, 3, 6, 8, 9, 10, 11, 12, 13, 14] (c_X5_findWay l E (a 0) (a 1) (a 2) (a 3) (a 4) (a 6) (a 7) (a 8) (sM C) (sW C) (sZ C) (sN C) (sb C) (ss C) g0 g1 g2 g3 g4 td eb es ec et r1 l1 (by exact hr8) (by omega) (by exact hI.1) (by omega) (by omega)) dX8_read_38 rfl (by decide) rfl rfl rfl (Nat.le_of_ble_eq_true rfl) ⟨Nat.le_of_ble_eq_true rfl, Nat.le_of_ble_eq_true rfl⟩ rfl rfl ⟨Nat.le_of_ble_eq_true rfl, Nat.le_of_ble_eq_true rfl⟩ 1 rfl rfl gX8_read_X5_findWay (by decide +kernel) (fun u hp => by obtain ⟨_, _, _, _, _, -, rfl⟩ := hp; rfl) ?_
        rintro u_38 ⟨td2_38, Wb_38, Ws_38, Wc_38, Wt_38, hWO_38, rfl⟩
        refine g_ws (w2 := [ob 8 o [.ref (a 0), .ref (b 0), .ref y0, .ref x0, .ref v0, .ref g0, .ref k0, .ref m0], ob 5 (a 0) [.ref (a 1), .ref (a 2), .ref (a 3), .int (nI (sM C)), .int (nI (sW C))], ob 1 (a 1) [.ref (a 4)], ai E (a 4) 768 (sN C), ob 0 (a 2) [.ref (a 5)], az E (a 5) 96 (sU C), ob 3 (a 3) [.ref (a 6), .ref (a 7), .ref (a 8), .int (nI (sZ C))], ai E (a 6) 8 (sn C), ai E (a 7) 8 (sb C), ai E (a 8) 8 (ss C), ob 7 g0 [.ref g1, .ref g2, .ref g3, .ref g4, .int (nI td2_38)], ai E g1 3 Wb_38, ai E g2 3 Ws_38, ai E g3 3 Wc_38, ai E g4 12 Wt_38]) rfl ?_
        refine g_aload_n F 0 dX8_read_41 rfl rfl ?_
        refine g_get F 0 5 dX8_read_42 rfl rfl (by decide) (by decide +kernel) (by decide +kernel) rfl ?_
        refine g_callViR (n := 0) F [10, 13] (c_X7_isSpoiled l E g0 g1 g2 g3 g4 td2_38 Wc_38 (by exact hWO_38.1.2) (by exact WO_cpa hWO_38 2)) dX8_read_45 rfl (by decide) rfl rfl rfl (Nat.le_of_ble_eq_true rfl) ⟨Nat.le_of_ble_eq_true rfl, Nat.le_of_ble_eq_true rfl⟩ rfl rfl ⟨Nat.le_of_ble_eq_true rfl, Nat.le_of_ble_eq_true rfl⟩ 10 rfl rfl gX8_read_X7_isSpoiled (by decide +kernel) (fun r u hp => by obtain ⟨-, h⟩ := hp; exact h) ?_
        rintro r_45 u_45 ⟨rfl, -⟩
        refine g_if_eqB (tgt := 56) F dX8_read_48 (by decide) (fun c48 => ?_) (fun c48 => ?_)
        · skip
          refine g_aload_n F 0 dX8_read_56 rfl rfl ?_
          refine g_get F 0 5 dX8_read_57 rfl rfl (by decide) (by decide +kernel) (by decide +kernel) rfl ?_
          refine g_iconst (v := nI 2) F dX8_read_60 (by decide) ?_
          refine g_iload_n F 3 dX8_read_61 rfl rfl ?_
          refine g_callViR (n := 2) F [10, 14] (c_X7_numberAt l E g0 g1 g2 g3 g4 td2_38 Wt_38 2 p1 (by omega) (by omega)) dX8_read_62 rfl (by decide) rfl rfl rfl (Nat.le_of_ble_eq_true rfl) ⟨Nat.le_of_ble_eq_true rfl, Nat.le_of_ble_eq_true rfl⟩ rfl rfl ⟨Nat.le_of_ble_eq_true rfl, Nat.le_of_ble_eq_true rfl⟩ 10 rfl rfl gX8_read_X7_numberAt (by decide +kernel) (fun r u hp => by obtain ⟨-, h⟩ := hp; exact h) ?_
          rintro r_62 u_62 ⟨rfl, -⟩
          refine g_top (nI (wn Wt_38 2 p1)) (nI (nu (sN C) (wDC C r1 l1 2) (wBC C r1 l1 2) p1)) (by have h9 := WO.good hWO_38 (Classical.not_not.mp (fun z => c48 (hWO_38.td3.mpr z))); exact congrArg nI (hWO_38.2.2.2.2 2 p1 (by omega) (h9.2 2 (by omega)) hp1)) ?_
          exact hret _ _ _ _ dX8_read_65 ⟨td2_38, Wb_38, Ws_38, Wc_38, Wt_38, (by unfold p_read; rw [cI_pos ⟨(rng_nI (by omega) (by omega)).mpr hr1, (rng_nI (by decide) (by omega)).mpr hl1, (rng_nI (by decide) (by omega)).mpr hp1⟩, dv_nI (by omega), dv_nI (by omega), dv_nI (by omega)]; first | rw [if_pos (Classical.not_not.mp (fun z => c48 (hWO_38.td3.mpr z)))] | rw [if_neg (hWO_38.td3.mp c48)]), (by rfl)⟩
        · skip
          refine g_ldc (v := (-1000002)) F dX8_read_51 (by decide +kernel) ?_
          refine g_goto (tgt := 65) F dX8_read_53 (by decide) ?_
          exact hret _ _ _ _ dX8_read_65 ⟨td2_38, Wb_38, Ws_38, Wc_38, Wt_38, (by unfold p_read; rw [cI_pos ⟨(rng_nI (by omega) (by omega)).mpr hr1, (rng_nI (by decide) (by omega)).mpr hl1, (rng_nI (by decide) (by omega)).mpr hp1⟩, dv_nI (by omega), dv_nI (by omega), dv_nI (by omega)]; first | rw [if_pos (Classical.not_not.mp (fun z => c48 (hWO_38.td3.mpr z)))] | rw [if_neg (hWO_38.td3.mp c48)]), (by rfl)⟩
      · skip
        refine g_ldc (v := (-1000001)) F dX8_read_25 (by decide +kernel) ?_
        exact hret _ _ _ _ dX8_read_27 ⟨td, eb, es, ec, et, (by unfold p_read; rw [cI_neg]; intro h; first | exact c5 h.1 | exact c14 h.2.1 | exact c22 h.2.2), (by rfl)⟩
set_option maxHeartbeats 4000000 in
set_option maxRecDepth 100000 in
theorem c_X8_from (l : Launch) (E : En) (o : Nat) (a : Nat → Nat) (b : Nat → Nat) (y0 : Nat) (x0 : Nat) (v0 : Nat) (g0 : Nat) (k0 : Nat) (m0 : Nat) (g1 : Nat) (g2 : Nat) (g3 : Nat) (g4 : Nat) (td : Nat) (eb : Nat → Nat) (es : Nat → Nat) (ec : Nat → Nat) (et : Nat → Nat) (C : CS) (x1 : Int32) (x2 : Int32) (x3 : Int32) (hI : IC C) : CtI l yX8_from wsX8_from ({ frames := 4, cells := 0, slots := 0, locals := 94 } : Room) E [.ref o, .int (x1), .int (x2), .int (x3)] [ob 8 o [.ref (a 0), .ref (b 0), .ref y0, .ref x0, .ref v0, .ref g0, .ref k0, .ref m0], ob 5 (a 0) [.ref (a 1), .ref (a 2), .ref (a 3), .int (nI (sM C)), .int (nI (sW C))], ob 1 (a 1) [.ref (a 4)], ai E (a 4) 768 (sN C), ob 0 (a 2) [.ref (a 5)], az E (a 5) 96 (sU C), ob 3 (a 3) [.ref (a 6), .ref (a 7), .ref (a 8), .int (nI (sZ C))], ai E (a 6) 8 (sn C), ai E (a 7) 8 (sb C), ai E (a 8) 8 (ss C), ob 7 g0 [.ref g1, .ref g2, .ref g3, .ref g4, .int (nI td)], ai E g1 3 eb, ai E g2 3 es, ai E g3 3 ec, ai E g4 12 et] (fun rr uu => ∃ (td2 : Nat), ∃ (Wb : Nat → Nat), ∃ (Ws : Nat → Nat), ∃ (Wc : Nat → Nat), ∃ (Wt : Nat → Nat), rr = (p_from C x1 x2 x3) ∧ uu = [ob 8 o [.ref (a 0), .ref (b 0), .ref y0, .ref x0, .ref v0, .ref g0, .ref k0, .ref m0], ob 5 (a 0) [.ref (a 1), .ref (a 2), .ref (a 3), .int (nI (sM C)), .int (nI (sW C))], ob 1 (a 1) [.ref (a 4)], ai E (a 4) 768 (sN C), ob 0 (a 2) [.ref (a 5)], az E (a 5) 96 (sU C), ob 3 (a 3) [.ref (a 6), .ref (a 7), .ref (a 8), .int (nI (sZ C))], ai E (a 6) 8 (sn C), ai E (a 7) 8 (sb C), ai E (a 8) 8 (ss C), ob 7 g0 [.ref g1, .ref g2, .ref g3, .ref g4, .int (nI td2)], ai E g1 3 Wb, ai E g2 3 Ws, ai E g3 3 Wc, ai E g4 12 Wt]) := by
  refine CtI.of cX8_from 4 RX8 .int rfl (by decide) rfl (Or.inl rfl) (Nat.le_of_ble_eq_true rfl) (fun h => by cases h) ?_
  intro Γ F hret
  show G Γ E 0 0 0 [(0, .ref o), (1, .int (x1)), (2, .int (x2)), (3, .int (x3))] [] [ob 8 o [.ref (a 0), .ref (b 0), .ref y0, .ref x0, .ref v0, .ref g0, .ref k0, .ref m0], ob 5 (a 0) [.ref (a 1), .ref (a 2), .ref (a 3), .int (nI (sM C)), .int (nI (sW C))], ob 1 (a 1) [.ref (a 4)], ai E (a 4) 768 (sN C), ob 0 (a 2) [.ref (a 5)], az E (a 5) 96 (sU C), ob 3 (a 3) [.ref (a 6), .ref (a 7), .ref (a 8), .int (nI (sZ C))], ai E (a 6) 8 (sn C), ai E (a 7) 8 (sb C), ai E (a 8) 8 (ss C), ob 7 g0 [.ref g1, .ref g2, .ref g3, .ref g4, .int (nI td)], ai E g1 3 eb, ai E g2 3 es, ai E g3 3 ec, ai E g4 12 et]
  refine g_aload_n F 0 dX8_from_0 rfl rfl ?_
  refine g_iload_n F 1 dX8_from_1 rfl rfl ?_
  refine g_callViR (n := 1) F [0, 1, 2, 3, 4, 5, 6, 7, 8, 9] (c_X8_isRoot l E o a b y0 x0 v0 g0 k0 m0 C x1 ) dX8_from_2 rfl (by decide) rfl rfl rfl (Nat.le_of_ble_eq_true rfl) ⟨Nat.le_of_ble_eq_true rfl, Nat.le_of_ble_eq_true rfl⟩ rfl rfl ⟨Nat.le_of_ble_eq_true rfl, Nat.le_of_ble_eq_true rfl⟩ 0 rfl rfl gX8_from_X8_isRoot (by decide +kernel) (fun r u hp => by obtain ⟨-, h⟩ := hp; exact h) ?_
  rintro r_2 u_2 ⟨rfl, -⟩
  refine g_if_eqB (tgt := 25) F dX8_from_5 (by decide) (fun c5 => ?_) (fun c5 => ?_)
  · skip
    refine g_ldc (v := (-1000001)) F dX8_from_25 (by decide +kernel) ?_
    exact hret _ _ _ _ dX8_from_27 ⟨td, eb, es, ec, et, (by unfold p_from; rw [cI_neg]; intro h; first | exact c5 h.1 | exact c14 h.2.1 | exact c22 h.2.2), (by rfl)⟩
  · skip
    obtain ⟨r1, hr1, rfl⟩ := rng_of (by have := hI.2.2.2.1; omega) (c5)
    refine g_iload_n F 2 dX8_from_8 rfl rfl ?_
    refine g_bipush (v := nI 16) F dX8_from_9 (by decide) ?_
    refine g_callSiR (n := 2) F [] (c_X8_below_x l E x2 16 ) dX8_from_11 rfl (by decide) rfl rfl rfl (Nat.le_of_ble_eq_true rfl) ⟨Nat.le_of_ble_eq_true rfl, Nat.le_of_ble_eq_true rfl⟩ rfl rfl ⟨Nat.le_of_ble_eq_true rfl, Nat.le_of_ble_eq_true rfl⟩ ggX8_from_X8_below (by decide +kernel) (by decide +kernel) (by decide +kernel) (by decide +kernel) (fun r u hp => by obtain ⟨-, h⟩ := hp; exact h) ?_
    rintro r_11 u_11 ⟨rfl, -⟩
    refine g_if_eqB (tgt := 25) F dX8_from_14 (by decide) (fun c14 => ?_) (fun c14 => ?_)
    · skip
      refine g_ldc (v := (-1000001)) F dX8_from_25 (by decide +kernel) ?_
      exact hret _ _ _ _ dX8_from_27 ⟨td, eb, es, ec, et, (by unfold p_from; rw [cI_neg]; intro h; first | exact c5 h.1 | exact c14 h.2.1 | exact c22 h.2.2), (by rfl)⟩
    · skip
      obtain ⟨l1, hl1, rfl⟩ := rng_of (by first | decide | omega) (c14)
      refine g_iload_n F 3 dX8_from_17 rfl rfl ?_
      refine g_iconst (v := nI 3) F dX8_from_18 (by decide) ?_
      refine g_callSiR (n := 2) F [] (c_X8_below_x l E x3 3 ) dX8_from_19 rfl (by decide) rfl rfl rfl (Nat.le_of_ble_eq_true rfl) ⟨Nat.le_of_ble_eq_true rfl, Nat.le_of_ble_eq_true rfl⟩ rfl rfl ⟨Nat.le_of_ble_eq_true rfl, Nat.le_of_ble_eq_true rfl⟩ ggX8_from_X8_below (by decide +kernel) (by decide +kernel) (by decide +kernel) (by decide +kernel) (fun r u hp => by obtain ⟨-, h⟩ := hp; exact h) ?_
      rintro r_19 u_19 ⟨rfl, -⟩
      refine g_if_neB (tgt := 28) F dX8_from_22 (by decide) (fun c22 => ?_) (fun c22 => ?_)
      · skip
        obtain ⟨p1, hp1, rfl⟩ := rng_of (by first | decide | omega) (c22)
        have hz8 := hI.2.2.2.1
        have hr8 : r1 < 8 := Nat.lt_of_lt_of_le hr1 hI.2.2.2.1
        have hrb := hI.rb hr1
        have hrs := hI.rs hr1
        refine g_aload_n F 0 dX8_from_28 rfl rfl ?_
        refine g_get F 0 0 dX8_from_29 rfl rfl (by decide) (by decide +kernel) (by decide +kernel) rfl ?_
        refine g_aload_n F 0 dX8_from_32 rfl rfl ?_
        refine g_get F 0 5 dX8_from_33 rfl rfl (by decide) (by decide +kernel) (by decide +kernel) rfl ?_
        refine g_iload_n F 1 dX8_from_36 rfl rfl ?_
        refine g_iload_n F 2 dX8_from_37 rfl rfl ?_
        refine g_callVvW (n := 3) F [1, 2, 3, 6, 8, 9, 10, 11, 12, 13, 14] (c_X5_findWay l E (a 0) (a 1) (a 2) (a 3) (a 4) (a 6) (a 7) (a 8) (sM C) (sW C) (sZ C) (sN C) (sb C) (ss C) g0 g1 g2 g3 g4 td eb es ec et r1 l1 (by exact hr8) (by omega) (by exact hI.1) (by omega) (by omega)) dX8_from_38 rfl (by decide) rfl rfl rfl (Nat.le_of_ble_eq_true rfl) ⟨Nat.le_of_ble_eq_true rfl, Nat.le_of_ble_eq_true rfl⟩ rfl rfl ⟨Nat.le_of_ble_eq_true rfl, Nat.le_of_ble_eq_true rfl⟩ 1 rfl rfl gX8_from_X5_findWay (by decide +kernel) (fun u hp => by obtain ⟨_, _, _, _, _, -, rfl⟩ := hp; rfl) ?_
        rintro u_38 ⟨td2_38, Wb_38, Ws_38, Wc_38, Wt_38, hWO_38, rfl⟩
        refine g_ws (w2 := [ob 8 o [.ref (a 0), .ref (b 0), .ref y0, .ref x0, .ref v0, .ref g0, .ref k0, .ref m0], ob 5 (a 0) [.ref (a 1), .ref (a 2), .ref (a 3), .int (nI (sM C)), .int (nI (sW C))], ob 1 (a 1) [.ref (a 4)], ai E (a 4) 768 (sN C), ob 0 (a 2) [.ref (a 5)], az E (a 5) 96 (sU C), ob 3 (a 3) [.ref (a 6), .ref (a 7), .ref (a 8), .int (nI (sZ C))], ai E (a 6) 8 (sn C), ai E (a 7) 8 (sb C), ai E (a 8) 8 (ss C), ob 7 g0 [.ref g1, .ref g2, .ref g3, .ref g4, .int (nI td2_38)], ai E g1 3 Wb_38, ai E g2 3 Ws_38, ai E g3 3 Wc_38, ai E g4 12 Wt_38]) rfl ?_
        refine g_aload_n F 0 dX8_from_41 rfl rfl ?_
        refine g_get F 0 5 dX8_from_42 rfl rfl (by decide) (by decide +kernel) (by decide +kernel) rfl ?_
        refine g_iload_n F 3 dX8_from_45 rfl rfl ?_
        refine g_callViR (n := 1) F [10] (c_X7_tells l E g0 g1 g2 g3 g4 td2_38 p1 (by exact hWO_38.1.2) (by omega)) dX8_from_46 rfl (by decide) rfl rfl rfl (Nat.le_of_ble_eq_true rfl) ⟨Nat.le_of_ble_eq_true rfl, Nat.le_of_ble_eq_true rfl⟩ rfl rfl ⟨Nat.le_of_ble_eq_true rfl, Nat.le_of_ble_eq_true rfl⟩ 10 rfl rfl gX8_from_X7_tells (by decide +kernel) (fun r u hp => by obtain ⟨-, h⟩ := hp; exact h) ?_
        rintro r_46 u_46 ⟨rfl, -⟩
        refine g_if_eqB (tgt := 63) F dX8_from_49 (by decide) (fun c49 => ?_) (fun c49 => ?_)
        · skip
          refine g_ldc (v := (-1000004)) F dX8_from_63 (by decide +kernel) ?_
          exact hret _ _ _ _ dX8_from_65 ⟨td2_38, Wb_38, Ws_38, Wc_38, Wt_38, (by unfold p_from; rw [cI_pos ⟨(rng_nI (by omega) (by omega)).mpr hr1, (rng_nI (by decide) (by omega)).mpr hl1, (rng_nI (by decide) (by omega)).mpr hp1⟩, dv_nI (by omega), dv_nI (by omega), dv_nI (by omega)]; first | rw [if_pos ((WO_td hWO_38 hp1).mp c49)] | rw [if_neg (fun z => c49 ((WO_td hWO_38 hp1).mpr z))]), (by rfl)⟩
        · skip
          refine g_aload_n F 0 dX8_from_52 rfl rfl ?_
          refine g_get F 0 5 dX8_from_53 rfl rfl (by decide) (by decide +kernel) (by decide +kernel) rfl ?_
          refine g_iload_n F 3 dX8_from_56 rfl rfl ?_
          refine g_callViR (n := 1) F [10, 13] (c_X7_copyAt l E g0 g1 g2 g3 g4 td2_38 Wc_38 p1 (by exact hWO_38.1.2) (by omega)) dX8_from_57 rfl (by decide) rfl rfl rfl (Nat.le_of_ble_eq_true rfl) ⟨Nat.le_of_ble_eq_true rfl, Nat.le_of_ble_eq_true rfl⟩ rfl rfl ⟨Nat.le_of_ble_eq_true rfl, Nat.le_of_ble_eq_true rfl⟩ 10 rfl rfl gX8_from_X7_copyAt (by decide +kernel) (fun r u hp => by obtain ⟨-, h⟩ := hp; exact h) ?_
          rintro r_57 u_57 ⟨rfl, -⟩
          refine g_top (nI (cpa td2_38 Wc_38 p1)) (nI (wDC C r1 l1 p1)) (by unfold cpa; rw [if_pos c49, (hWO_38.2.1 p1 c49).2.2]) ?_
          refine g_goto (tgt := 65) F dX8_from_60 (by decide) ?_
          exact hret _ _ _ _ dX8_from_65 ⟨td2_38, Wb_38, Ws_38, Wc_38, Wt_38, (by unfold p_from; rw [cI_pos ⟨(rng_nI (by omega) (by omega)).mpr hr1, (rng_nI (by decide) (by omega)).mpr hl1, (rng_nI (by decide) (by omega)).mpr hp1⟩, dv_nI (by omega), dv_nI (by omega), dv_nI (by omega)]; first | rw [if_pos ((WO_td hWO_38 hp1).mp c49)] | rw [if_neg (fun z => c49 ((WO_td hWO_38 hp1).mpr z))]), (by rfl)⟩
      · skip
        refine g_ldc (v := (-1000001)) F dX8_from_25 (by decide +kernel) ?_
        exact hret _ _ _ _ dX8_from_27 ⟨td, eb, es, ec, et, (by unfold p_from; rw [cI_neg]; intro h; first | exact c5 h.1 | exact c14 h.2.1 | exact c22 h.2.2), (by rfl)⟩
set_option maxHeartbeats 4000000 in
set_option maxRecDepth 100000 in
theorem c_X8_way (l : Launch) (E : En) (o : Nat) (a : Nat → Nat) (b : Nat → Nat) (y0 : Nat) (x0 : Nat) (v0 : Nat) (g0 : Nat) (k0 : Nat) (m0 : Nat) (g1 : Nat) (g2 : Nat) (g3 : Nat) (g4 : Nat) (td : Nat) (eb : Nat → Nat) (es : Nat → Nat) (ec : Nat → Nat) (et : Nat → Nat) (C : CS) (x1 : Int32) (x2 : Int32) (x3 : Int32) (x4 : Int32) (hI : IC C) : CtI l yX8_way wsX8_way ({ frames := 4, cells := 0, slots := 0, locals := 94 } : Room) E [.ref o, .int (x1), .int (x2), .int (x3), .int (x4)] [ob 8 o [.ref (a 0), .ref (b 0), .ref y0, .ref x0, .ref v0, .ref g0, .ref k0, .ref m0], ob 5 (a 0) [.ref (a 1), .ref (a 2), .ref (a 3), .int (nI (sM C)), .int (nI (sW C))], ob 1 (a 1) [.ref (a 4)], ai E (a 4) 768 (sN C), ob 0 (a 2) [.ref (a 5)], az E (a 5) 96 (sU C), ob 3 (a 3) [.ref (a 6), .ref (a 7), .ref (a 8), .int (nI (sZ C))], ai E (a 6) 8 (sn C), ai E (a 7) 8 (sb C), ai E (a 8) 8 (ss C), ob 7 g0 [.ref g1, .ref g2, .ref g3, .ref g4, .int (nI td)], ai E g1 3 eb, ai E g2 3 es, ai E g3 3 ec, ai E g4 12 et] (fun rr uu => ∃ (td2 : Nat), ∃ (Wb : Nat → Nat), ∃ (Ws : Nat → Nat), ∃ (Wc : Nat → Nat), ∃ (Wt : Nat → Nat), rr = (p_way C x1 x2 x3 x4) ∧ uu = [ob 8 o [.ref (a 0), .ref (b 0), .ref y0, .ref x0, .ref v0, .ref g0, .ref k0, .ref m0], ob 5 (a 0) [.ref (a 1), .ref (a 2), .ref (a 3), .int (nI (sM C)), .int (nI (sW C))], ob 1 (a 1) [.ref (a 4)], ai E (a 4) 768 (sN C), ob 0 (a 2) [.ref (a 5)], az E (a 5) 96 (sU C), ob 3 (a 3) [.ref (a 6), .ref (a 7), .ref (a 8), .int (nI (sZ C))], ai E (a 6) 8 (sn C), ai E (a 7) 8 (sb C), ai E (a 8) 8 (ss C), ob 7 g0 [.ref g1, .ref g2, .ref g3, .ref g4, .int (nI td2)], ai E g1 3 Wb, ai E g2 3 Ws, ai E g3 3 Wc, ai E g4 12 Wt]) := by
  refine CtI.of cX8_way 5 RX8 .int rfl (by decide) rfl (Or.inl rfl) (Nat.le_of_ble_eq_true rfl) (fun h => by cases h) ?_
  intro Γ F hret
  show G Γ E 0 0 0 [(0, .ref o), (1, .int (x1)), (2, .int (x2)), (3, .int (x3)), (4, .int (x4))] [] [ob 8 o [.ref (a 0), .ref (b 0), .ref y0, .ref x0, .ref v0, .ref g0, .ref k0, .ref m0], ob 5 (a 0) [.ref (a 1), .ref (a 2), .ref (a 3), .int (nI (sM C)), .int (nI (sW C))], ob 1 (a 1) [.ref (a 4)], ai E (a 4) 768 (sN C), ob 0 (a 2) [.ref (a 5)], az E (a 5) 96 (sU C), ob 3 (a 3) [.ref (a 6), .ref (a 7), .ref (a 8), .int (nI (sZ C))], ai E (a 6) 8 (sn C), ai E (a 7) 8 (sb C), ai E (a 8) 8 (ss C), ob 7 g0 [.ref g1, .ref g2, .ref g3, .ref g4, .int (nI td)], ai E g1 3 eb, ai E g2 3 es, ai E g3 3 ec, ai E g4 12 et]
  refine g_aload_n F 0 dX8_way_0 rfl rfl ?_
  refine g_iload_n F 1 dX8_way_1 rfl rfl ?_
  refine g_callViR (n := 1) F [0, 1, 2, 3, 4, 5, 6, 7, 8, 9] (c_X8_isRoot l E o a b y0 x0 v0 g0 k0 m0 C x1 ) dX8_way_2 rfl (by decide) rfl rfl rfl (Nat.le_of_ble_eq_true rfl) ⟨Nat.le_of_ble_eq_true rfl, Nat.le_of_ble_eq_true rfl⟩ rfl rfl ⟨Nat.le_of_ble_eq_true rfl, Nat.le_of_ble_eq_true rfl⟩ 0 rfl rfl gX8_way_X8_isRoot (by decide +kernel) (fun r u hp => by obtain ⟨-, h⟩ := hp; exact h) ?_
  rintro r_2 u_2 ⟨rfl, -⟩
  refine g_if_eqB (tgt := 34) F dX8_way_5 (by decide) (fun c5 => ?_) (fun c5 => ?_)
  · skip
    refine g_ldc (v := (-1000001)) F dX8_way_34 (by decide +kernel) ?_
    exact hret _ _ _ _ dX8_way_36 ⟨td, eb, es, ec, et, (by unfold p_way; rw [cI_neg]; intro h; first | exact c5 h.1 | exact c14 h.2.1 | exact c22 h.2.2.1 | exact c31 h.2.2.2), (by rfl)⟩
  · skip
    obtain ⟨r1, hr1, rfl⟩ := rng_of (by have := hI.2.2.2.1; omega) (c5)
    refine g_iload_n F 2 dX8_way_8 rfl rfl ?_
    refine g_bipush (v := nI 16) F dX8_way_9 (by decide) ?_
    refine g_callSiR (n := 2) F [] (c_X8_below_x l E x2 16 ) dX8_way_11 rfl (by decide) rfl rfl rfl (Nat.le_of_ble_eq_true rfl) ⟨Nat.le_of_ble_eq_true rfl, Nat.le_of_ble_eq_true rfl⟩ rfl rfl ⟨Nat.le_of_ble_eq_true rfl, Nat.le_of_ble_eq_true rfl⟩ ggX8_way_X8_below (by decide +kernel) (by decide +kernel) (by decide +kernel) (by decide +kernel) (fun r u hp => by obtain ⟨-, h⟩ := hp; exact h) ?_
    rintro r_11 u_11 ⟨rfl, -⟩
    refine g_if_eqB (tgt := 34) F dX8_way_14 (by decide) (fun c14 => ?_) (fun c14 => ?_)
    · skip
      refine g_ldc (v := (-1000001)) F dX8_way_34 (by decide +kernel) ?_
      exact hret _ _ _ _ dX8_way_36 ⟨td, eb, es, ec, et, (by unfold p_way; rw [cI_neg]; intro h; first | exact c5 h.1 | exact c14 h.2.1 | exact c22 h.2.2.1 | exact c31 h.2.2.2), (by rfl)⟩
    · skip
      obtain ⟨l1, hl1, rfl⟩ := rng_of (by first | decide | omega) (c14)
      refine g_iload_n F 3 dX8_way_17 rfl rfl ?_
      refine g_iconst (v := nI 3) F dX8_way_18 (by decide) ?_
      refine g_callSiR (n := 2) F [] (c_X8_below_x l E x3 3 ) dX8_way_19 rfl (by decide) rfl rfl rfl (Nat.le_of_ble_eq_true rfl) ⟨Nat.le_of_ble_eq_true rfl, Nat.le_of_ble_eq_true rfl⟩ rfl rfl ⟨Nat.le_of_ble_eq_true rfl, Nat.le_of_ble_eq_true rfl⟩ ggX8_way_X8_below (by decide +kernel) (by decide +kernel) (by decide +kernel) (by decide +kernel) (fun r u hp => by obtain ⟨-, h⟩ := hp; exact h) ?_
      rintro r_19 u_19 ⟨rfl, -⟩
      refine g_if_eqB (tgt := 34) F dX8_way_22 (by decide) (fun c22 => ?_) (fun c22 => ?_)
      · skip
        refine g_ldc (v := (-1000001)) F dX8_way_34 (by decide +kernel) ?_
        exact hret _ _ _ _ dX8_way_36 ⟨td, eb, es, ec, et, (by unfold p_way; rw [cI_neg]; intro h; first | exact c5 h.1 | exact c14 h.2.1 | exact c22 h.2.2.1 | exact c31 h.2.2.2), (by rfl)⟩
      · skip
        obtain ⟨p1, hp1, rfl⟩ := rng_of (by first | decide | omega) (c22)
        refine g_iload F 4 dX8_way_25 rfl ?_
        refine g_iconst (v := nI 2) F dX8_way_27 (by decide) ?_
        refine g_callSiR (n := 2) F [] (c_X8_below_x l E x4 2 ) dX8_way_28 rfl (by decide) rfl rfl rfl (Nat.le_of_ble_eq_true rfl) ⟨Nat.le_of_ble_eq_true rfl, Nat.le_of_ble_eq_true rfl⟩ rfl rfl ⟨Nat.le_of_ble_eq_true rfl, Nat.le_of_ble_eq_true rfl⟩ ggX8_way_X8_below (by decide +kernel) (by decide +kernel) (by decide +kernel) (by decide +kernel) (fun r u hp => by obtain ⟨-, h⟩ := hp; exact h) ?_
        rintro r_28 u_28 ⟨rfl, -⟩
        refine g_if_neB (tgt := 37) F dX8_way_31 (by decide) (fun c31 => ?_) (fun c31 => ?_)
        · skip
          obtain ⟨u1, hu1, rfl⟩ := rng_of (by first | decide | omega) (c31)
          have hz8 := hI.2.2.2.1
          have hr8 : r1 < 8 := Nat.lt_of_lt_of_le hr1 hI.2.2.2.1
          have hrb := hI.rb hr1
          have hrs := hI.rs hr1
          refine g_aload_n F 0 dX8_way_37 rfl rfl ?_
          refine g_get F 0 0 dX8_way_38 rfl rfl (by decide) (by decide +kernel) (by decide +kernel) rfl ?_
          refine g_aload_n F 0 dX8_way_41 rfl rfl ?_
          refine g_get F 0 5 dX8_way_42 rfl rfl (by decide) (by decide +kernel) (by decide +kernel) rfl ?_
          refine g_iload_n F 1 dX8_way_45 rfl rfl ?_
          refine g_iload_n F 2 dX8_way_46 rfl rfl ?_
          refine g_callVvW (n := 3) F [1, 2, 3, 6, 8, 9, 10, 11, 12, 13, 14] (c_X5_findWay l E (a 0) (a 1) (a 2) (a 3) (a 4) (a 6) (a 7) (a 8) (sM C) (sW C) (sZ C) (sN C) (sb C) (ss C) g0 g1 g2 g3 g4 td eb es ec et r1 l1 (by exact hr8) (by omega) (by exact hI.1) (by omega) (by omega)) dX8_way_47 rfl (by decide) rfl rfl rfl (Nat.le_of_ble_eq_true rfl) ⟨Nat.le_of_ble_eq_true rfl, Nat.le_of_ble_eq_true rfl⟩ rfl rfl ⟨Nat.le_of_ble_eq_true rfl, Nat.le_of_ble_eq_true rfl⟩ 1 rfl rfl gX8_way_X5_findWay (by decide +kernel) (fun u hp => by obtain ⟨_, _, _, _, _, -, rfl⟩ := hp; rfl) ?_
          rintro u_47 ⟨td2_47, Wb_47, Ws_47, Wc_47, Wt_47, hWO_47, rfl⟩
          refine g_ws (w2 := [ob 8 o [.ref (a 0), .ref (b 0), .ref y0, .ref x0, .ref v0, .ref g0, .ref k0, .ref m0], ob 5 (a 0) [.ref (a 1), .ref (a 2), .ref (a 3), .int (nI (sM C)), .int (nI (sW C))], ob 1 (a 1) [.ref (a 4)], ai E (a 4) 768 (sN C), ob 0 (a 2) [.ref (a 5)], az E (a 5) 96 (sU C), ob 3 (a 3) [.ref (a 6), .ref (a 7), .ref (a 8), .int (nI (sZ C))], ai E (a 6) 8 (sn C), ai E (a 7) 8 (sb C), ai E (a 8) 8 (ss C), ob 7 g0 [.ref g1, .ref g2, .ref g3, .ref g4, .int (nI td2_47)], ai E g1 3 Wb_47, ai E g2 3 Ws_47, ai E g3 3 Wc_47, ai E g4 12 Wt_47]) rfl ?_
          refine g_aload_n F 0 dX8_way_50 rfl rfl ?_
          refine g_get F 0 5 dX8_way_51 rfl rfl (by decide) (by decide +kernel) (by decide +kernel) rfl ?_
          refine g_iload_n F 3 dX8_way_54 rfl rfl ?_
          refine g_callViR (n := 1) F [10] (c_X7_tells l E g0 g1 g2 g3 g4 td2_47 p1 (by exact hWO_47.1.2) (by omega)) dX8_way_55 rfl (by decide) rfl rfl rfl (Nat.le_of_ble_eq_true rfl) ⟨Nat.le_of_ble_eq_true rfl, Nat.le_of_ble_eq_true rfl⟩ rfl rfl ⟨Nat.le_of_ble_eq_true rfl, Nat.le_of_ble_eq_true rfl⟩ 10 rfl rfl gX8_way_X7_tells (by decide +kernel) (fun r u hp => by obtain ⟨-, h⟩ := hp; exact h) ?_
          rintro r_55 u_55 ⟨rfl, -⟩
          refine g_if_neB (tgt := 64) F dX8_way_58 (by decide) (fun c58 => ?_) (fun c58 => ?_)
          · skip
            refine g_iload F 4 dX8_way_64 rfl ?_
            refine g_if_neN (tgt := 80) F dX8_way_66 (by decide) (by omega) (fun c66 => ?_) (fun c66 => ?_)
            · skip
              refine g_aload_n F 0 dX8_way_80 rfl rfl ?_
              refine g_get F 0 5 dX8_way_81 rfl rfl (by decide) (by decide +kernel) (by decide +kernel) rfl ?_
              refine g_iload_n F 3 dX8_way_84 rfl rfl ?_
              refine g_callViR (n := 1) F [10, 12] (c_X7_sumAt l E g0 g1 g2 g3 g4 td2_47 Ws_47 p1 (by exact hWO_47.1.2) (by exact c58)) dX8_way_85 rfl (by decide) rfl rfl rfl (Nat.le_of_ble_eq_true rfl) ⟨Nat.le_of_ble_eq_true rfl, Nat.le_of_ble_eq_true rfl⟩ rfl rfl ⟨Nat.le_of_ble_eq_true rfl, Nat.le_of_ble_eq_true rfl⟩ 10 rfl rfl gX8_way_X7_sumAt (by decide +kernel) (fun r u hp => by obtain ⟨-, h⟩ := hp; exact h) ?_
              rintro r_85 u_85 ⟨rfl, -⟩
              refine g_top (nI (Ws_47 p1)) (nI (wQC C r1 l1 p1)) (by rw [(hWO_47.2.1 p1 c58).2.1]) ?_
              exact hret _ _ _ _ dX8_way_88 ⟨td2_47, Wb_47, Ws_47, Wc_47, Wt_47, (by unfold p_way; rw [cI_pos ⟨(rng_nI (by omega) (by omega)).mpr hr1, (rng_nI (by decide) (by omega)).mpr hl1, (rng_nI (by decide) (by omega)).mpr hp1, (rng_nI (by decide) (by omega)).mpr hu1⟩, dv_nI (by omega), dv_nI (by omega), dv_nI (by omega), dv_nI (by omega)]; rw [if_pos ((WO_td hWO_47 hp1).mp c58)]; first | rw [if_pos c66] | rw [if_neg c66]), (by rfl)⟩
            · skip
              refine g_aload_n F 0 dX8_way_69 rfl rfl ?_
              refine g_get F 0 5 dX8_way_70 rfl rfl (by decide) (by decide +kernel) (by decide +kernel) rfl ?_
              refine g_iload_n F 3 dX8_way_73 rfl rfl ?_
              refine g_callViR (n := 1) F [10, 11] (c_X7_blockAt l E g0 g1 g2 g3 g4 td2_47 Wb_47 p1 (by exact hWO_47.1.2) (by exact c58)) dX8_way_74 rfl (by decide) rfl rfl rfl (Nat.le_of_ble_eq_true rfl) ⟨Nat.le_of_ble_eq_true rfl, Nat.le_of_ble_eq_true rfl⟩ rfl rfl ⟨Nat.le_of_ble_eq_true rfl, Nat.le_of_ble_eq_true rfl⟩ 10 rfl rfl gX8_way_X7_blockAt (by decide +kernel) (fun r u hp => by obtain ⟨-, h⟩ := hp; exact h) ?_
              rintro r_74 u_74 ⟨rfl, -⟩
              refine g_top (nI (Wb_47 p1)) (nI (wBC C r1 l1 p1)) (by rw [(hWO_47.2.1 p1 c58).1]) ?_
              refine g_goto (tgt := 88) F dX8_way_77 (by decide) ?_
              exact hret _ _ _ _ dX8_way_88 ⟨td2_47, Wb_47, Ws_47, Wc_47, Wt_47, (by unfold p_way; rw [cI_pos ⟨(rng_nI (by omega) (by omega)).mpr hr1, (rng_nI (by decide) (by omega)).mpr hl1, (rng_nI (by decide) (by omega)).mpr hp1, (rng_nI (by decide) (by omega)).mpr hu1⟩, dv_nI (by omega), dv_nI (by omega), dv_nI (by omega), dv_nI (by omega)]; rw [if_pos ((WO_td hWO_47 hp1).mp c58)]; first | rw [if_pos c66] | rw [if_neg c66]), (by rfl)⟩
          · skip
            refine g_ldc (v := (-1000004)) F dX8_way_61 (by decide +kernel) ?_
            exact hret _ _ _ _ dX8_way_63 ⟨td2_47, Wb_47, Ws_47, Wc_47, Wt_47, (by unfold p_way; rw [cI_pos ⟨(rng_nI (by omega) (by omega)).mpr hr1, (rng_nI (by decide) (by omega)).mpr hl1, (rng_nI (by decide) (by omega)).mpr hp1, (rng_nI (by decide) (by omega)).mpr hu1⟩, dv_nI (by omega), dv_nI (by omega), dv_nI (by omega), dv_nI (by omega)]; rw [if_neg (fun z => c58 ((WO_td hWO_47 hp1).mpr z))]), (by rfl)⟩
        · skip
          refine g_ldc (v := (-1000001)) F dX8_way_34 (by decide +kernel) ?_
          exact hret _ _ _ _ dX8_way_36 ⟨td, eb, es, ec, et, (by unfold p_way; rw [cI_neg]; intro h; first | exact c5 h.1 | exact c14 h.2.1 | exact c22 h.2.2.1 | exact c31 h.2.2.2), (by rfl)⟩
set_option maxHeartbeats 4000000 in
set_option maxRecDepth 100000 in
theorem c_X8_content (l : Launch) (E : En) (o : Nat) (a : Nat → Nat) (b : Nat → Nat) (y0 : Nat) (x0 : Nat) (v0 : Nat) (g0 : Nat) (k0 : Nat) (m0 : Nat) (C : CS) (x1 : Int32) (x2 : Int32) (x3 : Int32) (hI : IC C) : CtI l yX8_content wsX8_content ({ frames := 2, cells := 0, slots := 0, locals := 46 } : Room) E [.ref o, .int (x1), .int (x2), .int (x3)] [ob 8 o [.ref (a 0), .ref (b 0), .ref y0, .ref x0, .ref v0, .ref g0, .ref k0, .ref m0], ob 5 (a 0) [.ref (a 1), .ref (a 2), .ref (a 3), .int (nI (sM C)), .int (nI (sW C))], ob 1 (a 1) [.ref (a 4)], ai E (a 4) 768 (sN C)] (fun rr uu => rr = (p_content C x1 x2 x3) ∧ uu = [ob 8 o [.ref (a 0), .ref (b 0), .ref y0, .ref x0, .ref v0, .ref g0, .ref k0, .ref m0], ob 5 (a 0) [.ref (a 1), .ref (a 2), .ref (a 3), .int (nI (sM C)), .int (nI (sW C))], ob 1 (a 1) [.ref (a 4)], ai E (a 4) 768 (sN C)]) := by
  refine CtI.of cX8_content 4 RX8 .int rfl (by decide) rfl (Or.inl rfl) (Nat.le_of_ble_eq_true rfl) (fun h => by cases h) ?_
  intro Γ F hret
  show G Γ E 0 0 0 [(0, .ref o), (1, .int (x1)), (2, .int (x2)), (3, .int (x3))] [] [ob 8 o [.ref (a 0), .ref (b 0), .ref y0, .ref x0, .ref v0, .ref g0, .ref k0, .ref m0], ob 5 (a 0) [.ref (a 1), .ref (a 2), .ref (a 3), .int (nI (sM C)), .int (nI (sW C))], ob 1 (a 1) [.ref (a 4)], ai E (a 4) 768 (sN C)]
  refine g_iload_n F 1 dX8_content_0 rfl rfl ?_
  refine g_bipush (v := nI 96) F dX8_content_1 (by decide) ?_
  refine g_callSiR (n := 2) F [] (c_X8_below_x l E x1 96 ) dX8_content_3 rfl (by decide) rfl rfl rfl (Nat.le_of_ble_eq_true rfl) ⟨Nat.le_of_ble_eq_true rfl, Nat.le_of_ble_eq_true rfl⟩ rfl rfl ⟨Nat.le_of_ble_eq_true rfl, Nat.le_of_ble_eq_true rfl⟩ ggX8_content_X8_below (by decide +kernel) (by decide +kernel) (by decide +kernel) (by decide +kernel) (fun r u hp => by obtain ⟨-, h⟩ := hp; exact h) ?_
  rintro r_3 u_3 ⟨rfl, -⟩
  refine g_if_eqB (tgt := 25) F dX8_content_6 (by decide) (fun c6 => ?_) (fun c6 => ?_)
  · skip
    refine g_ldc (v := (-1000001)) F dX8_content_25 (by decide +kernel) ?_
    exact hret _ _ _ _ dX8_content_27 ⟨(by unfold p_content; rw [cI_neg]; intro h; first | exact c6 h.1 | exact c14 h.2.1 | exact c22 h.2.2), rfl⟩
  · skip
    obtain ⟨r1, hr1, rfl⟩ := rng_of (by first | decide | omega) (c6)
    refine g_iload_n F 2 dX8_content_9 rfl rfl ?_
    refine g_iconst (v := nI 2) F dX8_content_10 (by decide) ?_
    refine g_callSiR (n := 2) F [] (c_X8_below_x l E x2 2 ) dX8_content_11 rfl (by decide) rfl rfl rfl (Nat.le_of_ble_eq_true rfl) ⟨Nat.le_of_ble_eq_true rfl, Nat.le_of_ble_eq_true rfl⟩ rfl rfl ⟨Nat.le_of_ble_eq_true rfl, Nat.le_of_ble_eq_true rfl⟩ ggX8_content_X8_below (by decide +kernel) (by decide +kernel) (by decide +kernel) (by decide +kernel) (fun r u hp => by obtain ⟨-, h⟩ := hp; exact h) ?_
    rintro r_11 u_11 ⟨rfl, -⟩
    refine g_if_eqB (tgt := 25) F dX8_content_14 (by decide) (fun c14 => ?_) (fun c14 => ?_)
    · skip
      refine g_ldc (v := (-1000001)) F dX8_content_25 (by decide +kernel) ?_
      exact hret _ _ _ _ dX8_content_27 ⟨(by unfold p_content; rw [cI_neg]; intro h; first | exact c6 h.1 | exact c14 h.2.1 | exact c22 h.2.2), rfl⟩
    · skip
      obtain ⟨l1, hl1, rfl⟩ := rng_of (by first | decide | omega) (c14)
      refine g_iload_n F 3 dX8_content_17 rfl rfl ?_
      refine g_iconst (v := nI 5) F dX8_content_18 (by decide) ?_
      refine g_callSiR (n := 2) F [] (c_X8_below_x l E x3 5 ) dX8_content_19 rfl (by decide) rfl rfl rfl (Nat.le_of_ble_eq_true rfl) ⟨Nat.le_of_ble_eq_true rfl, Nat.le_of_ble_eq_true rfl⟩ rfl rfl ⟨Nat.le_of_ble_eq_true rfl, Nat.le_of_ble_eq_true rfl⟩ ggX8_content_X8_below (by decide +kernel) (by decide +kernel) (by decide +kernel) (by decide +kernel) (fun r u hp => by obtain ⟨-, h⟩ := hp; exact h) ?_
      rintro r_19 u_19 ⟨rfl, -⟩
      refine g_if_neB (tgt := 28) F dX8_content_22 (by decide) (fun c22 => ?_) (fun c22 => ?_)
      · skip
        obtain ⟨p1, hp1, rfl⟩ := rng_of (by first | decide | omega) (c22)
        refine g_iload_n F 3 dX8_content_28 rfl rfl ?_
        refine g_iconst (v := nI 4) F dX8_content_29 (by decide) ?_
        refine g_icmp_neN (tgt := 46) F dX8_content_30 (by decide) (by omega) (by omega) (fun c30 => ?_) (fun c30 => ?_)
        · skip
          refine g_aload_n F 0 dX8_content_46 rfl rfl ?_
          refine g_get F 0 0 dX8_content_47 rfl rfl (by decide) (by decide +kernel) (by decide +kernel) rfl ?_
          refine g_getN (host := "SummedParents") F 1 0 dX8_content_50 rfl rfl (by decide) (by decide +kernel) (by decide +kernel) rfl ?_
          refine g_iload_n F 2 dX8_content_53 rfl rfl ?_
          refine g_iload_n F 1 dX8_content_54 rfl rfl ?_
          refine g_iload_n F 3 dX8_content_55 rfl rfl ?_
          refine g_callViR (n := 3) F [2, 3] (c_X1_numberAt l E (a 1) (a 4) (sN C) l1 r1 p1 (by omega) (by omega) (by omega)) dX8_content_56 rfl (by decide) rfl rfl rfl (Nat.le_of_ble_eq_true rfl) ⟨Nat.le_of_ble_eq_true rfl, Nat.le_of_ble_eq_true rfl⟩ rfl rfl ⟨Nat.le_of_ble_eq_true rfl, Nat.le_of_ble_eq_true rfl⟩ 2 rfl rfl gX8_content_X1_numberAt (by decide +kernel) (fun r u hp => by obtain ⟨-, h⟩ := hp; exact h) ?_
          rintro r_56 u_56 ⟨rfl, -⟩
          exact hret _ _ _ _ dX8_content_59 ⟨(by unfold p_content; rw [cI_pos ⟨(rng_nI (by decide) (by omega)).mpr hr1, (rng_nI (by decide) (by omega)).mpr hl1, (rng_nI (by decide) (by omega)).mpr hp1⟩, dv_nI (by omega), dv_nI (by omega), dv_nI (by omega)]; rw [if_neg c30]), rfl⟩
        · skip
          refine g_aload_n F 0 dX8_content_33 rfl rfl ?_
          refine g_get F 0 0 dX8_content_34 rfl rfl (by decide) (by decide +kernel) (by decide +kernel) rfl ?_
          refine g_getN (host := "SummedParents") F 1 0 dX8_content_37 rfl rfl (by decide) (by decide +kernel) (by decide +kernel) rfl ?_
          refine g_iload_n F 2 dX8_content_40 rfl rfl ?_
          refine g_iload_n F 1 dX8_content_41 rfl rfl ?_
          refine g_callViR (n := 2) F [2, 3] (c_X1_sumOf l E (a 1) (a 4) (sN C) l1 r1 (by omega) (by omega) (by exact hI.1)) dX8_content_42 rfl (by decide) rfl rfl rfl (Nat.le_of_ble_eq_true rfl) ⟨Nat.le_of_ble_eq_true rfl, Nat.le_of_ble_eq_true rfl⟩ rfl rfl ⟨Nat.le_of_ble_eq_true rfl, Nat.le_of_ble_eq_true rfl⟩ 2 rfl rfl gX8_content_X1_sumOf (by decide +kernel) (fun r u hp => by obtain ⟨-, h⟩ := hp; exact h) ?_
          rintro r_42 u_42 ⟨rfl, -⟩
          exact hret _ _ _ _ dX8_content_45 ⟨(by unfold p_content; rw [cI_pos ⟨(rng_nI (by decide) (by omega)).mpr hr1, (rng_nI (by decide) (by omega)).mpr hl1, (rng_nI (by decide) (by omega)).mpr hp1⟩, dv_nI (by omega), dv_nI (by omega), dv_nI (by omega)]; rw [if_pos c30]), rfl⟩
      · skip
        refine g_ldc (v := (-1000001)) F dX8_content_25 (by decide +kernel) ?_
        exact hret _ _ _ _ dX8_content_27 ⟨(by unfold p_content; rw [cI_neg]; intro h; first | exact c6 h.1 | exact c14 h.2.1 | exact c22 h.2.2), rfl⟩
set_option maxHeartbeats 4000000 in
set_option maxRecDepth 100000 in
theorem c_X8_unlike (l : Launch) (E : En) (o : Nat) (a : Nat → Nat) (b : Nat → Nat) (y0 : Nat) (x0 : Nat) (v0 : Nat) (g0 : Nat) (k0 : Nat) (m0 : Nat) (C : CS) (x1 : Int32) (x2 : Int32) (hI : IC C) : CtI l yX8_unlike wsX8_unlike ({ frames := 5, cells := 0, slots := 0, locals := 125 } : Room) E [.ref o, .int (x1), .int (x2)] [ob 8 o [.ref (a 0), .ref (b 0), .ref y0, .ref x0, .ref v0, .ref g0, .ref k0, .ref m0], ob 5 (a 0) [.ref (a 1), .ref (a 2), .ref (a 3), .int (nI (sM C)), .int (nI (sW C))], ob 1 (a 1) [.ref (a 4)], ai E (a 4) 768 (sN C), ob 0 (a 2) [.ref (a 5)], az E (a 5) 96 (sU C), ob 3 (a 3) [.ref (a 6), .ref (a 7), .ref (a 8), .int (nI (sZ C))], ai E (a 6) 8 (sn C), ai E (a 7) 8 (sb C), ai E (a 8) 8 (ss C)] (fun rr uu => rr = (p_unlike C x1 x2) ∧ uu = [ob 8 o [.ref (a 0), .ref (b 0), .ref y0, .ref x0, .ref v0, .ref g0, .ref k0, .ref m0], ob 5 (a 0) [.ref (a 1), .ref (a 2), .ref (a 3), .int (nI (sM C)), .int (nI (sW C))], ob 1 (a 1) [.ref (a 4)], ai E (a 4) 768 (sN C), ob 0 (a 2) [.ref (a 5)], az E (a 5) 96 (sU C), ob 3 (a 3) [.ref (a 6), .ref (a 7), .ref (a 8), .int (nI (sZ C))], ai E (a 6) 8 (sn C), ai E (a 7) 8 (sb C), ai E (a 8) 8 (ss C)]) := by
  refine CtI.of cX8_unlike 3 RX8 .int rfl (by decide) rfl (Or.inl rfl) (Nat.le_of_ble_eq_true rfl) (fun h => by cases h) ?_
  intro Γ F hret
  show G Γ E 0 0 0 [(0, .ref o), (1, .int (x1)), (2, .int (x2))] [] [ob 8 o [.ref (a 0), .ref (b 0), .ref y0, .ref x0, .ref v0, .ref g0, .ref k0, .ref m0], ob 5 (a 0) [.ref (a 1), .ref (a 2), .ref (a 3), .int (nI (sM C)), .int (nI (sW C))], ob 1 (a 1) [.ref (a 4)], ai E (a 4) 768 (sN C), ob 0 (a 2) [.ref (a 5)], az E (a 5) 96 (sU C), ob 3 (a 3) [.ref (a 6), .ref (a 7), .ref (a 8), .int (nI (sZ C))], ai E (a 6) 8 (sn C), ai E (a 7) 8 (sb C), ai E (a 8) 8 (ss C)]
  refine g_aload_n F 0 dX8_unlike_0 rfl rfl ?_
  refine g_iload_n F 1 dX8_unlike_1 rfl rfl ?_
  refine g_callViR (n := 1) F [0, 1, 2, 3, 4, 5, 6, 7, 8, 9] (c_X8_isRoot l E o a b y0 x0 v0 g0 k0 m0 C x1 ) dX8_unlike_2 rfl (by decide) rfl rfl rfl (Nat.le_of_ble_eq_true rfl) ⟨Nat.le_of_ble_eq_true rfl, Nat.le_of_ble_eq_true rfl⟩ rfl rfl ⟨Nat.le_of_ble_eq_true rfl, Nat.le_of_ble_eq_true rfl⟩ 0 rfl rfl gX8_unlike_X8_isRoot (by decide +kernel) (fun r u hp => by obtain ⟨-, h⟩ := hp; exact h) ?_
  rintro r_2 u_2 ⟨rfl, -⟩
  refine g_if_eqB (tgt := 16) F dX8_unlike_5 (by decide) (fun c5 => ?_) (fun c5 => ?_)
  · skip
    refine g_ldc (v := (-1000001)) F dX8_unlike_16 (by decide +kernel) ?_
    exact hret _ _ _ _ dX8_unlike_18 ⟨(by unfold p_unlike; rw [cI_neg]; intro h; first | exact c5 h.1 | exact c13 h.2), rfl⟩
  · skip
    obtain ⟨r1, hr1, rfl⟩ := rng_of (by have := hI.2.2.2.1; omega) (c5)
    refine g_aload_n F 0 dX8_unlike_8 rfl rfl ?_
    refine g_iload_n F 2 dX8_unlike_9 rfl rfl ?_
    refine g_callViR (n := 1) F [0, 1, 2, 3, 4, 5, 6, 7, 8, 9] (c_X8_isRoot l E o a b y0 x0 v0 g0 k0 m0 C x2 ) dX8_unlike_10 rfl (by decide) rfl rfl rfl (Nat.le_of_ble_eq_true rfl) ⟨Nat.le_of_ble_eq_true rfl, Nat.le_of_ble_eq_true rfl⟩ rfl rfl ⟨Nat.le_of_ble_eq_true rfl, Nat.le_of_ble_eq_true rfl⟩ 0 rfl rfl gX8_unlike_X8_isRoot (by decide +kernel) (fun r u hp => by obtain ⟨-, h⟩ := hp; exact h) ?_
    rintro r_10 u_10 ⟨rfl, -⟩
    refine g_if_neB (tgt := 19) F dX8_unlike_13 (by decide) (fun c13 => ?_) (fun c13 => ?_)
    · skip
      obtain ⟨l1, hl1, rfl⟩ := rng_of (by have := hI.2.2.2.1; omega) (c13)
      have hz8 := hI.2.2.2.1
      have hr8 : r1 < 8 := Nat.lt_of_lt_of_le hr1 hI.2.2.2.1
      have hrb := hI.rb hr1
      have hrs := hI.rs hr1
      have hl8 : l1 < 8 := Nat.lt_of_lt_of_le hl1 hI.2.2.2.1
      have hrb2 := hI.rb hl1
      have hrs2 := hI.rs hl1
      refine g_aload_n F 0 dX8_unlike_19 rfl rfl ?_
      refine g_get F 0 0 dX8_unlike_20 rfl rfl (by decide) (by decide +kernel) (by decide +kernel) rfl ?_
      refine g_iload_n F 1 dX8_unlike_23 rfl rfl ?_
      refine g_iload_n F 2 dX8_unlike_24 rfl rfl ?_
      refine g_callViR (n := 2) F [1, 2, 3, 6, 8, 9] (c_X5_unlikeLeaves l E (a 0) (a 1) (a 2) (a 3) (a 4) (a 6) (a 7) (a 8) (sM C) (sW C) (sZ C) (sN C) (sb C) (ss C) r1 l1 (by omega) (by omega) (by exact hI.1) (by omega) (by omega) (by omega) (by omega)) dX8_unlike_25 rfl (by decide) rfl rfl rfl (Nat.le_of_ble_eq_true rfl) ⟨Nat.le_of_ble_eq_true rfl, Nat.le_of_ble_eq_true rfl⟩ rfl rfl ⟨Nat.le_of_ble_eq_true rfl, Nat.le_of_ble_eq_true rfl⟩ 1 rfl rfl gX8_unlike_X5_unlikeLeaves (by decide +kernel) (fun r u hp => by obtain ⟨-, h⟩ := hp; exact h) ?_
      rintro r_25 u_25 ⟨rfl, -⟩
      exact hret _ _ _ _ dX8_unlike_28 ⟨(by have hz8 := hI.2.2.2.1; unfold p_unlike; rw [cI_pos ⟨(rng_nI (by omega) (by omega)).mpr hr1, (rng_nI (by omega) (by omega)).mpr hl1⟩, dv_nI (by omega), dv_nI (by omega)]), rfl⟩
    · skip
      refine g_ldc (v := (-1000001)) F dX8_unlike_16 (by decide +kernel) ?_
      exact hret _ _ _ _ dX8_unlike_18 ⟨(by unfold p_unlike; rw [cI_neg]; intro h; first | exact c5 h.1 | exact c13 h.2), rfl⟩
set_option maxHeartbeats 4000000 in
set_option maxRecDepth 100000 in
theorem c_X8_isWayOfKind (l : Launch) (E : En) (o : Nat) (a : Nat → Nat) (b : Nat → Nat) (y0 : Nat) (x0 : Nat) (v0 : Nat) (g0 : Nat) (k0 : Nat) (m0 : Nat) (g1 : Nat) (g2 : Nat) (g3 : Nat) (g4 : Nat) (td : Nat) (eb : Nat → Nat) (es : Nat → Nat) (ec : Nat → Nat) (et : Nat → Nat) (C : CS) (w1 : Nat) (r1 : Nat) (l1 : Nat) (hI : IC C) (hw : w1 < 3) (hWO : WO (sN C) (sb C r1) (ss C r1) l1 td eb es ec et) : CtI l yX8_isWayOfKind wsX8_isWayOfKind ({ frames := 4, cells := 0, slots := 0, locals := 90 } : Room) E [.ref o, .int (nI w1)] [ob 8 o [.ref (a 0), .ref (b 0), .ref y0, .ref x0, .ref v0, .ref g0, .ref k0, .ref m0], ob 5 (a 0) [.ref (a 1), .ref (a 2), .ref (a 3), .int (nI (sM C)), .int (nI (sW C))], ob 1 (a 1) [.ref (a 4)], ai E (a 4) 768 (sN C), ob 0 (a 2) [.ref (a 5)], az E (a 5) 96 (sU C), ob 3 (a 3) [.ref (a 6), .ref (a 7), .ref (a 8), .int (nI (sZ C))], ai E (a 6) 8 (sn C), ai E (a 7) 8 (sb C), ai E (a 8) 8 (ss C), ob 7 g0 [.ref g1, .ref g2, .ref g3, .ref g4, .int (nI td)], ai E g1 3 eb, ai E g2 3 es, ai E g3 3 ec, ai E g4 12 et] (fun rr uu => rr = (bi (kd C r1 w1 l1)) ∧ uu = [ob 8 o [.ref (a 0), .ref (b 0), .ref y0, .ref x0, .ref v0, .ref g0, .ref k0, .ref m0], ob 5 (a 0) [.ref (a 1), .ref (a 2), .ref (a 3), .int (nI (sM C)), .int (nI (sW C))], ob 1 (a 1) [.ref (a 4)], ai E (a 4) 768 (sN C), ob 0 (a 2) [.ref (a 5)], az E (a 5) 96 (sU C), ob 3 (a 3) [.ref (a 6), .ref (a 7), .ref (a 8), .int (nI (sZ C))], ai E (a 6) 8 (sn C), ai E (a 7) 8 (sb C), ai E (a 8) 8 (ss C), ob 7 g0 [.ref g1, .ref g2, .ref g3, .ref g4, .int (nI td)], ai E g1 3 eb, ai E g2 3 es, ai E g3 3 ec, ai E g4 12 et]) := by
  refine CtI.of cX8_isWayOfKind 2 RX8 .boolean rfl (by decide) rfl (Or.inr rfl) (Nat.le_of_ble_eq_true rfl) (fun _ r u hp => by obtain ⟨rfl, -⟩ := hp; exact bi_narrow _) ?_
  intro Γ F hret
  show G Γ E 0 0 0 [(0, .ref o), (1, .int (nI w1))] [] [ob 8 o [.ref (a 0), .ref (b 0), .ref y0, .ref x0, .ref v0, .ref g0, .ref k0, .ref m0], ob 5 (a 0) [.ref (a 1), .ref (a 2), .ref (a 3), .int (nI (sM C)), .int (nI (sW C))], ob 1 (a 1) [.ref (a 4)], ai E (a 4) 768 (sN C), ob 0 (a 2) [.ref (a 5)], az E (a 5) 96 (sU C), ob 3 (a 3) [.ref (a 6), .ref (a 7), .ref (a 8), .int (nI (sZ C))], ai E (a 6) 8 (sn C), ai E (a 7) 8 (sb C), ai E (a 8) 8 (ss C), ob 7 g0 [.ref g1, .ref g2, .ref g3, .ref g4, .int (nI td)], ai E g1 3 eb, ai E g2 3 es, ai E g3 3 ec, ai E g4 12 et]
  refine g_iload_n F 1 dX8_isWayOfKind_0 rfl rfl ?_
  refine g_if_neN (tgt := 12) F dX8_isWayOfKind_1 (by decide) (by omega) (fun c1 => ?_) (fun c1 => ?_)
  · skip
    refine g_aload_n F 0 dX8_isWayOfKind_12 rfl rfl ?_
    refine g_get F 0 5 dX8_isWayOfKind_13 rfl rfl (by decide) (by decide +kernel) (by decide +kernel) rfl ?_
    refine g_callViR (n := 0) F [10, 13] (c_X7_isSpoiled l E g0 g1 g2 g3 g4 td ec (by exact hWO.1.2) (by exact WO_cpa hWO 2)) dX8_isWayOfKind_16 rfl (by decide) rfl rfl rfl (Nat.le_of_ble_eq_true rfl) ⟨Nat.le_of_ble_eq_true rfl, Nat.le_of_ble_eq_true rfl⟩ rfl rfl ⟨Nat.le_of_ble_eq_true rfl, Nat.le_of_ble_eq_true rfl⟩ 10 rfl rfl gX8_isWayOfKind_X7_isSpoiled (by decide +kernel) (fun r u hp => by obtain ⟨-, h⟩ := hp; exact h) ?_
    rintro r_16 u_16 ⟨rfl, -⟩
    refine g_if_eqB (tgt := 24) F dX8_isWayOfKind_19 (by decide) (fun c19 => ?_) (fun c19 => ?_)
    · skip
      have h0 : spC C r1 l1 = 0 := Classical.not_not.mp (fun z => c19 (hWO.td3.mpr z))
      have h9 := WO.good hWO h0
      have hb9 : ∀ v : Nat, v < 3 → eb v = wBC C r1 l1 v := fun v hv => (hWO.2.1 v (by omega)).1
      have hc9 : ∀ v : Nat, v < 3 → cpa td ec v = wDC C r1 l1 v := fun v hv => by
        unfold cpa
        rw [if_pos (by omega), (hWO.2.1 v (by omega)).2.2]
      refine g_iload_n F 1 dX8_isWayOfKind_24 rfl rfl ?_
      refine g_iconst (v := nI 1) F dX8_isWayOfKind_25 (by decide) ?_
      refine g_icmp_neN (tgt := 43) F dX8_isWayOfKind_26 (by decide) (by omega) (by omega) (fun c26 => ?_) (fun c26 => ?_)
      · skip
        refine g_aload_n F 0 dX8_isWayOfKind_43 rfl rfl ?_
        refine g_get F 0 5 dX8_isWayOfKind_44 rfl rfl (by decide) (by decide +kernel) (by decide +kernel) rfl ?_
        refine g_iconst (v := nI 1) F dX8_isWayOfKind_47 (by decide) ?_
        refine g_callViR (n := 1) F [10, 13] (c_X7_takesFrom l E g0 g1 g2 g3 g4 td ec 1 (by exact hWO.1.2) (by exact WO_cpa hWO) (by omega)) dX8_isWayOfKind_48 rfl (by decide) rfl rfl rfl (Nat.le_of_ble_eq_true rfl) ⟨Nat.le_of_ble_eq_true rfl, Nat.le_of_ble_eq_true rfl⟩ rfl rfl ⟨Nat.le_of_ble_eq_true rfl, Nat.le_of_ble_eq_true rfl⟩ 10 rfl rfl gX8_isWayOfKind_X7_takesFrom (by decide +kernel) (fun r u hp => by obtain ⟨-, h⟩ := hp; exact h) ?_
        rintro r_48 u_48 ⟨rfl, -⟩
        exact hret _ _ _ _ dX8_isWayOfKind_51 ⟨(bi_congr (by unfold kd; rw [if_neg c1]; first | (rw [if_pos c26]; exact ⟨fun ⟨v, h1, h2⟩ => ⟨h0, v, h1, by rw [← hb9 v h1]; exact h2⟩, fun ⟨_, v, h1, h2⟩ => ⟨v, h1, by rw [hb9 v h1]; exact h2⟩⟩) | (rw [if_neg c26]; exact ⟨fun ⟨v, h1, h2⟩ => ⟨h0, v, h1, by rw [← hc9 v h1]; exact h2⟩, fun ⟨_, v, h1, h2⟩ => ⟨v, h1, by rw [hc9 v h1]; exact h2⟩⟩))), rfl⟩
      · skip
        refine g_aload_n F 0 dX8_isWayOfKind_29 rfl rfl ?_
        refine g_get F 0 0 dX8_isWayOfKind_30 rfl rfl (by decide) (by decide +kernel) (by decide +kernel) rfl ?_
        refine g_aload_n F 0 dX8_isWayOfKind_33 rfl rfl ?_
        refine g_get F 0 5 dX8_isWayOfKind_34 rfl rfl (by decide) (by decide +kernel) (by decide +kernel) rfl ?_
        refine g_callViR (n := 1) F [1, 2, 3, 10, 11] (c_X5_hasUnlikeCopies l E (a 0) (a 1) (a 2) (a 3) (a 4) (sM C) (sW C) (sN C) g0 g1 g2 g3 g4 td eb (by exact h9.1) (by intro v hv; rw [hb9 v hv]; exact tk_in (N := sN C) (s := wQC C r1 l1 v) (Nat.ne_of_lt (h9.2 v hv))) (by exact hI.1)) dX8_isWayOfKind_37 rfl (by decide) rfl rfl rfl (Nat.le_of_ble_eq_true rfl) ⟨Nat.le_of_ble_eq_true rfl, Nat.le_of_ble_eq_true rfl⟩ rfl rfl ⟨Nat.le_of_ble_eq_true rfl, Nat.le_of_ble_eq_true rfl⟩ 1 rfl rfl gX8_isWayOfKind_X5_hasUnlikeCopies (by decide +kernel) (fun r u hp => by obtain ⟨-, h⟩ := hp; exact h) ?_
        rintro r_37 u_37 ⟨rfl, -⟩
        refine g_goto (tgt := 51) F dX8_isWayOfKind_40 (by decide) ?_
        exact hret _ _ _ _ dX8_isWayOfKind_51 ⟨(bi_congr (by unfold kd; rw [if_neg c1]; first | (rw [if_pos c26]; exact ⟨fun ⟨v, h1, h2⟩ => ⟨h0, v, h1, by rw [← hb9 v h1]; exact h2⟩, fun ⟨_, v, h1, h2⟩ => ⟨v, h1, by rw [hb9 v h1]; exact h2⟩⟩) | (rw [if_neg c26]; exact ⟨fun ⟨v, h1, h2⟩ => ⟨h0, v, h1, by rw [← hc9 v h1]; exact h2⟩, fun ⟨_, v, h1, h2⟩ => ⟨v, h1, by rw [hc9 v h1]; exact h2⟩⟩))), rfl⟩
    · skip
      refine g_iconst (v := nI 0) F dX8_isWayOfKind_22 (by decide) ?_
      exact hret _ _ _ _ dX8_isWayOfKind_23 ⟨(bi_neg (by have hs := hWO.td3.mp c19; unfold kd; rw [if_neg c1]; split; (exact fun h => hs h.1); (exact fun h => hs h.1))).symm, rfl⟩
  · skip
    refine g_aload_n F 0 dX8_isWayOfKind_4 rfl rfl ?_
    refine g_get F 0 5 dX8_isWayOfKind_5 rfl rfl (by decide) (by decide +kernel) (by decide +kernel) rfl ?_
    refine g_callViR (n := 0) F [10, 13] (c_X7_isSpoiled l E g0 g1 g2 g3 g4 td ec (by exact hWO.1.2) (by exact WO_cpa hWO 2)) dX8_isWayOfKind_8 rfl (by decide) rfl rfl rfl (Nat.le_of_ble_eq_true rfl) ⟨Nat.le_of_ble_eq_true rfl, Nat.le_of_ble_eq_true rfl⟩ rfl rfl ⟨Nat.le_of_ble_eq_true rfl, Nat.le_of_ble_eq_true rfl⟩ 10 rfl rfl gX8_isWayOfKind_X7_isSpoiled (by decide +kernel) (fun r u hp => by obtain ⟨-, h⟩ := hp; exact h) ?_
    rintro r_8 u_8 ⟨rfl, -⟩
    exact hret _ _ _ _ dX8_isWayOfKind_11 ⟨(bi_congr (by rw [show kd C r1 w1 l1 = ¬ spC C r1 l1 = 0 from if_pos c1]; exact hWO.td3)), rfl⟩
set_option maxHeartbeats 4000000 in
set_option maxRecDepth 100000 in
theorem c_X8_leaves (l : Launch) (E : En) (o : Nat) (a : Nat → Nat) (b : Nat → Nat) (y0 : Nat) (x0 : Nat) (v0 : Nat) (g0 : Nat) (k0 : Nat) (m0 : Nat) (g1 : Nat) (g2 : Nat) (g3 : Nat) (g4 : Nat) (td : Nat) (eb : Nat → Nat) (es : Nat → Nat) (ec : Nat → Nat) (et : Nat → Nat) (C : CS) (x1 : Int32) (x2 : Int32) (hI : IC C) : CtI l yX8_leaves wsX8_leaves ({ frames := 5, cells := 0, slots := 0, locals := 111 } : Room) E [.ref o, .int (x1), .int (x2)] [ob 8 o [.ref (a 0), .ref (b 0), .ref y0, .ref x0, .ref v0, .ref g0, .ref k0, .ref m0], ob 5 (a 0) [.ref (a 1), .ref (a 2), .ref (a 3), .int (nI (sM C)), .int (nI (sW C))], ob 1 (a 1) [.ref (a 4)], ai E (a 4) 768 (sN C), ob 0 (a 2) [.ref (a 5)], az E (a 5) 96 (sU C), ob 3 (a 3) [.ref (a 6), .ref (a 7), .ref (a 8), .int (nI (sZ C))], ai E (a 6) 8 (sn C), ai E (a 7) 8 (sb C), ai E (a 8) 8 (ss C), ob 7 g0 [.ref g1, .ref g2, .ref g3, .ref g4, .int (nI td)], ai E g1 3 eb, ai E g2 3 es, ai E g3 3 ec, ai E g4 12 et] (fun rr uu => ∃ (td2 : Nat), ∃ (Wb : Nat → Nat), ∃ (Ws : Nat → Nat), ∃ (Wc : Nat → Nat), ∃ (Wt : Nat → Nat), rr = (p_leaves C x1 x2) ∧ uu = [ob 8 o [.ref (a 0), .ref (b 0), .ref y0, .ref x0, .ref v0, .ref g0, .ref k0, .ref m0], ob 5 (a 0) [.ref (a 1), .ref (a 2), .ref (a 3), .int (nI (sM C)), .int (nI (sW C))], ob 1 (a 1) [.ref (a 4)], ai E (a 4) 768 (sN C), ob 0 (a 2) [.ref (a 5)], az E (a 5) 96 (sU C), ob 3 (a 3) [.ref (a 6), .ref (a 7), .ref (a 8), .int (nI (sZ C))], ai E (a 6) 8 (sn C), ai E (a 7) 8 (sb C), ai E (a 8) 8 (ss C), ob 7 g0 [.ref g1, .ref g2, .ref g3, .ref g4, .int (nI td2)], ai E g1 3 Wb, ai E g2 3 Ws, ai E g3 3 Wc, ai E g4 12 Wt]) := by
  refine CtI.of cX8_leaves 5 RX8 .int rfl (by decide) rfl (Or.inl rfl) (Nat.le_of_ble_eq_true rfl) (fun h => by cases h) ?_
  intro Γ F hret
  show G Γ E 0 0 0 [(0, .ref o), (1, .int (x1)), (2, .int (x2))] [] [ob 8 o [.ref (a 0), .ref (b 0), .ref y0, .ref x0, .ref v0, .ref g0, .ref k0, .ref m0], ob 5 (a 0) [.ref (a 1), .ref (a 2), .ref (a 3), .int (nI (sM C)), .int (nI (sW C))], ob 1 (a 1) [.ref (a 4)], ai E (a 4) 768 (sN C), ob 0 (a 2) [.ref (a 5)], az E (a 5) 96 (sU C), ob 3 (a 3) [.ref (a 6), .ref (a 7), .ref (a 8), .int (nI (sZ C))], ai E (a 6) 8 (sn C), ai E (a 7) 8 (sb C), ai E (a 8) 8 (ss C), ob 7 g0 [.ref g1, .ref g2, .ref g3, .ref g4, .int (nI td)], ai E g1 3 eb, ai E g2 3 es, ai E g3 3 ec, ai E g4 12 et]
  refine g_aload_n F 0 dX8_leaves_0 rfl rfl ?_
  refine g_iload_n F 1 dX8_leaves_1 rfl rfl ?_
  refine g_callViR (n := 1) F [0, 1, 2, 3, 4, 5, 6, 7, 8, 9] (c_X8_isRoot l E o a b y0 x0 v0 g0 k0 m0 C x1 ) dX8_leaves_2 rfl (by decide) rfl rfl rfl (Nat.le_of_ble_eq_true rfl) ⟨Nat.le_of_ble_eq_true rfl, Nat.le_of_ble_eq_true rfl⟩ rfl rfl ⟨Nat.le_of_ble_eq_true rfl, Nat.le_of_ble_eq_true rfl⟩ 0 rfl rfl gX8_leaves_X8_isRoot (by decide +kernel) (fun r u hp => by obtain ⟨-, h⟩ := hp; exact h) ?_
  rintro r_2 u_2 ⟨rfl, -⟩
  refine g_if_eqB (tgt := 16) F dX8_leaves_5 (by decide) (fun c5 => ?_) (fun c5 => ?_)
  · skip
    refine g_ldc (v := (-1000001)) F dX8_leaves_16 (by decide +kernel) ?_
    exact hret _ _ _ _ dX8_leaves_18 ⟨td, eb, es, ec, et, (by unfold p_leaves; rw [cI_neg]; intro h; first | exact c5 h.1 | exact c13 h.2), (by rfl)⟩
  · skip
    obtain ⟨r1, hr1, rfl⟩ := rng_of (by have := hI.2.2.2.1; omega) (c5)
    refine g_iload_n F 2 dX8_leaves_8 rfl rfl ?_
    refine g_iconst (v := nI 3) F dX8_leaves_9 (by decide) ?_
    refine g_callSiR (n := 2) F [] (c_X8_below_x l E x2 3 ) dX8_leaves_10 rfl (by decide) rfl rfl rfl (Nat.le_of_ble_eq_true rfl) ⟨Nat.le_of_ble_eq_true rfl, Nat.le_of_ble_eq_true rfl⟩ rfl rfl ⟨Nat.le_of_ble_eq_true rfl, Nat.le_of_ble_eq_true rfl⟩ ggX8_leaves_X8_below (by decide +kernel) (by decide +kernel) (by decide +kernel) (by decide +kernel) (fun r u hp => by obtain ⟨-, h⟩ := hp; exact h) ?_
    rintro r_10 u_10 ⟨rfl, -⟩
    refine g_if_neB (tgt := 19) F dX8_leaves_13 (by decide) (fun c13 => ?_) (fun c13 => ?_)
    · skip
      obtain ⟨w1, hw1, rfl⟩ := rng_of (by first | decide | omega) (c13)
      have hz8 := hI.2.2.2.1
      have hr8 : r1 < 8 := Nat.lt_of_lt_of_le hr1 hI.2.2.2.1
      have hrb := hI.rb hr1
      have hrs := hI.rs hr1
      refine g_iconst (v := nI 0) F dX8_leaves_19 (by decide) ?_
      refine g_istore_n (lv2 := [(3, .int (nI 0)), (0, .ref o), (1, .int (nI r1)), (2, .int (nI w1))]) F dX8_leaves_20 rfl (by decide) rfl ?_
      refine g_iconst (v := nI 0) F dX8_leaves_21 (by decide) ?_
      refine g_istore (lv2 := [(4, .int (nI 0)), (3, .int (nI 0)), (0, .ref o), (1, .int (nI r1)), (2, .int (nI w1))]) F dX8_leaves_22 (by decide) rfl ?_
      have loop24 : ∀ (n : Nat) (i : Nat) (zz : Nat) (tdl : Nat) (ebl : Nat → Nat) (esl : Nat → Nat) (ecl : Nat → Nat) (etl : Nat → Nat), 16 - i < n → (i ≤ 16) → (zz = lvs C r1 w1 i) → G Γ E (0) (0) 24 [(0, .ref o), (1, .int (nI r1)), (2, .int (nI w1)), (3, .int (nI zz)), (4, .int (nI i))] [] [ob 8 o [.ref (a 0), .ref (b 0), .ref y0, .ref x0, .ref v0, .ref g0, .ref k0, .ref m0], ob 5 (a 0) [.ref (a 1), .ref (a 2), .ref (a 3), .int (nI (sM C)), .int (nI (sW C))], ob 1 (a 1) [.ref (a 4)], ai E (a 4) 768 (sN C), ob 0 (a 2) [.ref (a 5)], az E (a 5) 96 (sU C), ob 3 (a 3) [.ref (a 6), .ref (a 7), .ref (a 8), .int (nI (sZ C))], ai E (a 6) 8 (sn C), ai E (a 7) 8 (sb C), ai E (a 8) 8 (ss C), ob 7 g0 [.ref g1, .ref g2, .ref g3, .ref g4, .int (nI tdl)], ai E g1 3 ebl, ai E g2 3 esl, ai E g3 3 ecl, ai E g4 12 etl] := by
        intro n
        induction n with
        | zero => intro i zz tdl ebl esl ecl etl hz; exact absurd hz (Nat.not_lt_zero _)
        | succ n ih24 =>
          intro i zz tdl ebl esl ecl etl hz24 hi hz
          refine g_iload F 4 dX8_leaves_24 rfl ?_
          refine g_bipush (v := nI 16) F dX8_leaves_26 (by decide) ?_
          refine g_icmp_geN (tgt := 66) F dX8_leaves_28 (by decide) (by omega) (by omega) (fun c28 => ?_) (fun c28 => ?_)
          · skip
            refine g_iload_n F 3 dX8_leaves_66 rfl rfl ?_
            exact hret _ _ _ _ dX8_leaves_67 ⟨tdl, ebl, esl, ecl, etl, (by have hz8 := hI.2.2.2.1; unfold p_leaves; rw [cI_pos ⟨(rng_nI (by omega) (by omega)).mpr hr1, (rng_nI (by decide) (by omega)).mpr hw1⟩, dv_nI (by omega), dv_nI (by omega), hz, show i = 16 by omega]), (by rfl)⟩
          · skip
            refine g_aload_n F 0 dX8_leaves_31 rfl rfl ?_
            refine g_get F 0 0 dX8_leaves_32 rfl rfl (by decide) (by decide +kernel) (by decide +kernel) rfl ?_
            refine g_aload_n F 0 dX8_leaves_35 rfl rfl ?_
            refine g_get F 0 5 dX8_leaves_36 rfl rfl (by decide) (by decide +kernel) (by decide +kernel) rfl ?_
            refine g_iload_n F 1 dX8_leaves_39 rfl rfl ?_
            refine g_iload F 4 dX8_leaves_40 rfl ?_
            refine g_callVvW (n := 3) F [1, 2, 3, 6, 8, 9, 10, 11, 12, 13, 14] (c_X5_findWay l E (a 0) (a 1) (a 2) (a 3) (a 4) (a 6) (a 7) (a 8) (sM C) (sW C) (sZ C) (sN C) (sb C) (ss C) g0 g1 g2 g3 g4 tdl ebl esl ecl etl r1 i (by exact hr8) (by omega) (by exact hI.1) (by omega) (by omega)) dX8_leaves_42 rfl (by decide) rfl rfl rfl (Nat.le_of_ble_eq_true rfl) ⟨Nat.le_of_ble_eq_true rfl, Nat.le_of_ble_eq_true rfl⟩ rfl rfl ⟨Nat.le_of_ble_eq_true rfl, Nat.le_of_ble_eq_true rfl⟩ 1 rfl rfl gX8_leaves_X5_findWay (by decide +kernel) (fun u hp => by obtain ⟨_, _, _, _, _, -, rfl⟩ := hp; rfl) ?_
            rintro u_42 ⟨td2_42, Wb_42, Ws_42, Wc_42, Wt_42, hWO_42, rfl⟩
            refine g_ws (w2 := [ob 8 o [.ref (a 0), .ref (b 0), .ref y0, .ref x0, .ref v0, .ref g0, .ref k0, .ref m0], ob 5 (a 0) [.ref (a 1), .ref (a 2), .ref (a 3), .int (nI (sM C)), .int (nI (sW C))], ob 1 (a 1) [.ref (a 4)], ai E (a 4) 768 (sN C), ob 0 (a 2) [.ref (a 5)], az E (a 5) 96 (sU C), ob 3 (a 3) [.ref (a 6), .ref (a 7), .ref (a 8), .int (nI (sZ C))], ai E (a 6) 8 (sn C), ai E (a 7) 8 (sb C), ai E (a 8) 8 (ss C), ob 7 g0 [.ref g1, .ref g2, .ref g3, .ref g4, .int (nI td2_42)], ai E g1 3 Wb_42, ai E g2 3 Ws_42, ai E g3 3 Wc_42, ai E g4 12 Wt_42]) rfl ?_
            refine g_aload_n F 0 dX8_leaves_45 rfl rfl ?_
            refine g_iload_n F 2 dX8_leaves_46 rfl rfl ?_
            refine g_callViR (n := 1) F [0, 1, 2, 3, 4, 5, 6, 7, 8, 9, 10, 11, 12, 13, 14] (c_X8_isWayOfKind l E o a b y0 x0 v0 g0 k0 m0 g1 g2 g3 g4 td2_42 Wb_42 Ws_42 Wc_42 Wt_42 C w1 r1 i (by first | assumption | exact hI.1 | exact hI.2.1) (by omega) (by exact hWO_42)) dX8_leaves_47 rfl (by decide) rfl rfl rfl (Nat.le_of_ble_eq_true rfl) ⟨Nat.le_of_ble_eq_true rfl, Nat.le_of_ble_eq_true rfl⟩ rfl rfl ⟨Nat.le_of_ble_eq_true rfl, Nat.le_of_ble_eq_true rfl⟩ 0 rfl rfl gX8_leaves_X8_isWayOfKind (by decide +kernel) (fun r u hp => by obtain ⟨-, h⟩ := hp; exact h) ?_
            rintro r_47 u_47 ⟨rfl, -⟩
            refine g_if_eqB (tgt := 60) F dX8_leaves_50 (by decide) (fun c50 => ?_) (fun c50 => ?_)
            · skip
              refine g_iinc (k := 4) (v := nI (i + 1)) (lv2 := [(4, .int (nI (i + 1))), (0, .ref o), (1, .int (nI r1)), (2, .int (nI w1)), (3, .int (nI zz))]) F dX8_leaves_60 rfl (nI_1 _) (by decide) rfl ?_
              refine g_goto (tgt := 24) F dX8_leaves_63 (by decide) ?_
              refine g_lv [1, 2, 3, 4, 0] rfl ?_
              exact ih24 (i + 1) zz td2_42 Wb_42 Ws_42 Wc_42 Wt_42 (by omega) (by omega) (by show _ = cI _ _ _; first | rw [cI_pos c50, hz] | rw [cI_neg c50, hz])
            · skip
              refine g_iload_n F 3 dX8_leaves_53 rfl rfl ?_
              refine g_iconst (v := nI 1) F dX8_leaves_54 (by decide) ?_
              refine g_iload F 4 dX8_leaves_55 rfl ?_
              refine g_ishl F dX8_leaves_57 ?_
              refine g_ior F dX8_leaves_58 ?_
              refine g_top ((nI zz) ||| ((nI 1) <<< ((nI i) &&& 31))) (nI (zz ||| 2 ^ i)) (by rw [shl1 i (by omega), nI_or]) ?_
              refine g_istore_n (lv2 := [(3, .int (nI (zz ||| 2 ^ i))), (0, .ref o), (1, .int (nI r1)), (2, .int (nI w1)), (4, .int (nI i))]) F dX8_leaves_59 rfl (by decide) rfl ?_
              refine g_iinc (k := 4) (v := nI (i + 1)) (lv2 := [(4, .int (nI (i + 1))), (3, .int (nI (zz ||| 2 ^ i))), (0, .ref o), (1, .int (nI r1)), (2, .int (nI w1))]) F dX8_leaves_60 rfl (nI_1 _) (by decide) rfl ?_
              refine g_goto (tgt := 24) F dX8_leaves_63 (by decide) ?_
              refine g_lv [2, 3, 4, 1, 0] rfl ?_
              exact ih24 (i + 1) (zz ||| 2 ^ i) td2_42 Wb_42 Ws_42 Wc_42 Wt_42 (by omega) (by omega) (by show _ = cI _ _ _; first | rw [cI_pos c50, hz] | rw [cI_neg c50, hz])
      refine g_lv [2, 3, 4, 1, 0] rfl ?_
      exact loop24 ((16 - 0) + 1) 0 0 td eb es ec et (Nat.lt_succ_self _) (by omega) (by rfl)
    · skip
      refine g_ldc (v := (-1000001)) F dX8_leaves_16 (by decide +kernel) ?_
      exact hret _ _ _ _ dX8_leaves_18 ⟨td, eb, es, ec, et, (by unfold p_leaves; rw [cI_neg]; intro h; first | exact c5 h.1 | exact c13 h.2), (by rfl)⟩
