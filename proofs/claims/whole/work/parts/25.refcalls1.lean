/-! the reference's calls -/
theorem wge {C : CS} {P : Prop} {l : Nat} (h : (0 : Int32) ≤ cI P (wrE C l) (-1000001)) : P ∧ wrE C l = 0 := by
  by_cases z : P
  · rw [cI_pos z] at h
    refine ⟨z, ?_⟩
    unfold wrE pw at h ⊢
    (repeat' split) <;> first | rfl | (exfalso; simp_all; done) | (exfalso; revert h; simp_all)
  · rw [cI_neg z] at h
    exact absurd h (by decide)
theorem wge0 {C : CS} {P : Prop} {l : Nat} (h : P ∧ wrE C l = 0) : (0 : Int32) ≤ cI P (wrE C l) (-1000001) := by
  rw [cI_pos h.1, h.2]; decide
theorem Rel.mi {S : Nat → Nat} {C : CS} (h : Rel S C) (k : Nat) : Rel (up S 866 k) (miS C k) := by
  obtain ⟨h1, h2, h3, h4, h5, h6, h7⟩ := h
  refine ⟨fun j hj => by rw [up_n S k (by omega)]; exact h1 j hj, fun j hj => by rw [up_n S k (by omega)]; exact h2 j hj, by rw [up_n S k (by decide)]; exact h3, by rw [up_n S k (by decide)]; exact h4, up_s _ _ _, by rw [up_n S k (by decide)]; exact h6, fun i hi => ?_⟩
  rw [up_n S k (by omega), up_n S k (by omega), up_n S k (by omega)]
  exact h7 i hi
theorem WR9.m1 {C : CS} {r l n v : Nat} {B Q : Nat → Nat} {K : Nat → Int32} (h : WR9 C r l n B Q K) (hv : v < n) : K v = -1 ↔ glC C r l < v := by
  have h6 : wDC C r l v ≤ 2 := wd_le _ _ _ _ _
  constructor
  · intro z
    apply Nat.not_le.mp
    intro hg
    rw [((h v hv).1 hg).2.2] at z
    have : (nI (wDC C r l v)) < 0 := by rw [z]; decide
    exact nI_pos (by omega) this
  · exact (h v hv).2
set_option maxHeartbeats 4000000 in
set_option maxRecDepth 100000 in
theorem c_X9_write (l : Launch) (E : En) (q : Nat) (r : Nat → Nat) (rc : Nat) (tl : Nat) (at9 : Nat) (lf9 : Int32) (pl9 : Int32) (vl9 : Int32) (fa : Nat) (rs9 : Nat) (cs : Int32) (dn : Nat) (S : Nat → Nat) (C : CS) (B : Nat → Nat) (Q : Nat → Nat) (K : Nat → Int32) (La : Nat → Nat) (Pa : Nat → Nat) (Ra : Nat → Nat) (Mo : Nat → Nat) (HH : Nat → Nat) (H : Nat → CS) (x1 : Int32) (x2 : Int32) (x3 : Int32) (hR : Rel S C) (hI : IC C) (hRH : RelH HH H rc) (hrc : rc ≤ 3) : CtI l yX9_write wsX9_write ({ frames := 5, cells := 0, slots := 0, locals := 115 } : Room) E [.ref q, .int (x1), .int (x2), .int (x3)] [ob 9 q [.ref (r 0), .ref (r 1), .ref (r 2), .int (nI rc), .ref (r 3), .int (nI tl), .ref (r 4), .ref (r 5), .ref (r 6), .ref (r 7), .ref (r 8), .ref (r 9), .ref (r 10), .ref (r 11), .ref (r 12), .int (nI at9), .int (lf9), .int (pl9), .int (vl9), .int (nI fa), .int (nI rs9), .int (cs), .int (nI dn)], ai E (r 0) 892 S, ai E (r 4) 3 B, ai E (r 5) 3 Q, ax E (r 6) 3 K, ai E (r 8) 4 La, ai E (r 9) 4 Pa, ai E (r 10) 4 Ra, ai E (r 11) 4 Mo, ai E (r 2) 2676 HH] (fun rr uu => ∃ (S2 : Nat → Nat), ∃ (B2 : Nat → Nat), ∃ (Q2 : Nat → Nat), ∃ (K2 : Nat → Int32), ∃ (La2 : Nat → Nat), ∃ (Pa2 : Nat → Nat), ∃ (Ra2 : Nat → Nat), ∃ (Mo2 : Nat → Nat), ∃ (H2 : Nat → Nat), (Rel S2 (cI (okW C x1 x2 x3) (wrS C (dv x1) (dv x2) (dv x3)) C)) ∧ (RelH H2 (cI (okW C x1 x2 x3) (rcH C H rc) H) (cI (okW C x1 x2 x3) (rcn rc) rc)) ∧ rr = (p_write C x1 x2 x3) ∧ uu = [ob 9 q [.ref (r 0), .ref (r 1), .ref (r 2), .int (nI (cI (okW C x1 x2 x3) (rcn rc) rc)), .ref (r 3), .int (nI tl), .ref (r 4), .ref (r 5), .ref (r 6), .ref (r 7), .ref (r 8), .ref (r 9), .ref (r 10), .ref (r 11), .ref (r 12), .int (nI at9), .int (lf9), .int (pl9), .int (vl9), .int (nI fa), .int (nI rs9), .int (cs), .int (nI dn)], ai E (r 0) 892 S2, ai E (r 4) 3 B2, ai E (r 5) 3 Q2, ax E (r 6) 3 K2, ai E (r 8) 4 La2, ai E (r 9) 4 Pa2, ai E (r 10) 4 Ra2, ai E (r 11) 4 Mo2, ai E (r 2) 2676 H2]) := by
  refine CtI.of cX9_write 5 RX9 .int rfl (by decide) rfl (Or.inl rfl) (Nat.le_of_ble_eq_true rfl) (fun h => by cases h) ?_
  intro Γ F hret
  show G Γ E 0 0 0 [(0, .ref q), (1, .int (x1)), (2, .int (x2)), (3, .int (x3))] [] [ob 9 q [.ref (r 0), .ref (r 1), .ref (r 2), .int (nI rc), .ref (r 3), .int (nI tl), .ref (r 4), .ref (r 5), .ref (r 6), .ref (r 7), .ref (r 8), .ref (r 9), .ref (r 10), .ref (r 11), .ref (r 12), .int (nI at9), .int (lf9), .int (pl9), .int (vl9), .int (nI fa), .int (nI rs9), .int (cs), .int (nI dn)], ai E (r 0) 892 S, ai E (r 4) 3 B, ai E (r 5) 3 Q, ax E (r 6) 3 K, ai E (r 8) 4 La, ai E (r 9) 4 Pa, ai E (r 10) 4 Ra, ai E (r 11) 4 Mo, ai E (r 2) 2676 HH]
  refine g_aload_n F 0 dX9_write_0 rfl rfl ?_
  refine g_iload_n F 1 dX9_write_1 rfl rfl ?_
  refine g_iload_n F 2 dX9_write_2 rfl rfl ?_
  refine g_iload_n F 3 dX9_write_3 rfl rfl ?_
  refine g_callViW (n := 3) F [0, 1, 2, 3, 4] (c_X9_whyNotWritten l E q r rc tl at9 lf9 pl9 vl9 fa rs9 cs dn S C B Q K x1 x2 x3 (by assumption) (by assumption)) dX9_write_4 rfl (by decide) rfl rfl rfl (Nat.le_of_ble_eq_true rfl) ⟨Nat.le_of_ble_eq_true rfl, Nat.le_of_ble_eq_true rfl⟩ rfl rfl ⟨Nat.le_of_ble_eq_true rfl, Nat.le_of_ble_eq_true rfl⟩ 0 rfl rfl gX9_write_X9_whyNotWritten (by decide +kernel) (fun r u hp => by obtain ⟨_, _, _, -, -, rfl⟩ := hp; rfl) ?_
  rintro r_4 u_4 ⟨B2_4, Q2_4, K2_4, hW_4, rfl, rfl⟩
  refine g_ws (w2 := [ob 9 q [.ref (r 0), .ref (r 1), .ref (r 2), .int (nI rc), .ref (r 3), .int (nI tl), .ref (r 4), .ref (r 5), .ref (r 6), .ref (r 7), .ref (r 8), .ref (r 9), .ref (r 10), .ref (r 11), .ref (r 12), .int (nI at9), .int (lf9), .int (pl9), .int (vl9), .int (nI fa), .int (nI rs9), .int (cs), .int (nI dn)], ai E (r 0) 892 S, ai E (r 4) 3 B2_4, ai E (r 5) 3 Q2_4, ax E (r 6) 3 K2_4, ai E (r 8) 4 La, ai E (r 9) 4 Pa, ai E (r 10) 4 Ra, ai E (r 11) 4 Mo, ai E (r 2) 2676 HH]) rfl ?_
  refine g_istore (lv2 := [(4, .int (cI (rng x1 16 ∧ rng x2 4 ∧ rng x3 1000) (wrE C (dv x1)) (-1000001))), (0, .ref q), (1, .int (x1)), (2, .int (x2)), (3, .int (x3))]) F dX9_write_7 (by decide) rfl ?_
  refine g_iload F 0 dX9_write_9 rfl ?_
  refine g_if_ge (tgt := 17) F dX9_write_11 (by decide) (fun c11 => ?_) (fun c11 => ?_)
  · skip
    obtain ⟨hP1, hE⟩ := wge c11
    have hP := And.intro hP1 hE
    obtain ⟨l1, hl1, rfl⟩ := rng_of (by decide) hP1.1
    obtain ⟨p1, hp1, rfl⟩ := rng_of (by decide) hP1.2.1
    obtain ⟨v1, hv1, rfl⟩ := rng_of (by decide) hP1.2.2
    have hW9 := hW_4 hP1 hE
    rw [dv_nI (by omega)] at hE hW9
    refine g_aload_n F 1 dX9_write_17 rfl rfl ?_
    refine g_callVvW (n := 0) F [0, 1, 9] (c_X9_record l E q r rc tl at9 lf9 pl9 vl9 fa rs9 cs dn S C HH H (by assumption) (by assumption) (by assumption) (by omega)) dX9_write_18 rfl (by decide) rfl rfl rfl (Nat.le_of_ble_eq_true rfl) ⟨Nat.le_of_ble_eq_true rfl, Nat.le_of_ble_eq_true rfl⟩ rfl rfl ⟨Nat.le_of_ble_eq_true rfl, Nat.le_of_ble_eq_true rfl⟩ 0 rfl rfl gX9_write_X9_record (by decide +kernel) (fun u hp => by obtain ⟨_, -, rfl⟩ := hp; rfl) ?_
    rintro u_18 ⟨H2_18, hRH2_18, rfl⟩
    refine g_ws (w2 := [ob 9 q [.ref (r 0), .ref (r 1), .ref (r 2), .int (nI (rcn rc)), .ref (r 3), .int (nI tl), .ref (r 4), .ref (r 5), .ref (r 6), .ref (r 7), .ref (r 8), .ref (r 9), .ref (r 10), .ref (r 11), .ref (r 12), .int (nI at9), .int (lf9), .int (pl9), .int (vl9), .int (nI fa), .int (nI rs9), .int (cs), .int (nI dn)], ai E (r 0) 892 S, ai E (r 4) 3 B2_4, ai E (r 5) 3 Q2_4, ax E (r 6) 3 K2_4, ai E (r 8) 4 La, ai E (r 9) 4 Pa, ai E (r 10) 4 Ra, ai E (r 11) 4 Mo, ai E (r 2) 2676 H2_18]) rfl ?_
    refine g_aload_n F 1 dX9_write_21 rfl rfl ?_
    refine g_iload_n F 2 dX9_write_22 rfl rfl ?_
    refine g_iload_n F 3 dX9_write_23 rfl rfl ?_
    refine g_iload_n F 4 dX9_write_24 rfl rfl ?_
    refine g_callViW (n := 3) F [0, 1, 2, 3, 4, 5, 6, 7, 8] (c_X9_written l E q r (rcn rc) tl at9 lf9 pl9 vl9 fa rs9 cs dn S C B2_4 Q2_4 K2_4 La Pa Ra Mo l1 p1 v1 (by assumption) (by assumption) (by exact hl1) (by exact hp1) (by exact hv1) (by exact hE) (by exact hW9)) dX9_write_25 rfl (by decide) rfl rfl rfl (Nat.le_of_ble_eq_true rfl) ⟨Nat.le_of_ble_eq_true rfl, Nat.le_of_ble_eq_true rfl⟩ rfl rfl ⟨Nat.le_of_ble_eq_true rfl, Nat.le_of_ble_eq_true rfl⟩ 0 rfl rfl gX9_write_X9_written (by decide +kernel) (fun r u hp => by obtain ⟨_, _, _, _, _, -, -, rfl⟩ := hp; rfl) ?_
    rintro r_25 u_25 ⟨S2_25, La2_25, Pa2_25, Ra2_25, Mo2_25, hR2_25, rfl, rfl⟩
    refine g_ws (w2 := [ob 9 q [.ref (r 0), .ref (r 1), .ref (r 2), .int (nI (rcn rc)), .ref (r 3), .int (nI tl), .ref (r 4), .ref (r 5), .ref (r 6), .ref (r 7), .ref (r 8), .ref (r 9), .ref (r 10), .ref (r 11), .ref (r 12), .int (nI at9), .int (lf9), .int (pl9), .int (vl9), .int (nI fa), .int (nI rs9), .int (cs), .int (nI dn)], ai E (r 0) 892 S2_25, ai E (r 4) 3 B2_4, ai E (r 5) 3 Q2_4, ax E (r 6) 3 K2_4, ai E (r 8) 4 La2_25, ai E (r 9) 4 Pa2_25, ai E (r 10) 4 Ra2_25, ai E (r 11) 4 Mo2_25, ai E (r 2) 2676 H2_18]) rfl ?_
    exact hret _ _ _ _ dX9_write_28 ⟨S2_25, B2_4, Q2_4, K2_4, La2_25, Pa2_25, Ra2_25, Mo2_25, H2_18, (by rw [cI_pos hP]; rw [dv_nI (by omega), dv_nI (by omega), dv_nI (by omega)]; exact hR2_25), (by rw [cI_pos hP, cI_pos hP]; exact hRH2_18), (by unfold p_write; rw [cI_pos hP1, cI_pos hP.2, dv_nI (by omega), dv_nI (by omega)]), (by first | (rw [cI_pos hP]; done) | (rw [cI_pos hP]; rfl))⟩
  · skip
    refine g_iload F 0 dX9_write_14 rfl ?_
    exact hret _ _ _ _ dX9_write_16 ⟨S, B2_4, Q2_4, K2_4, La, Pa, Ra, Mo, HH, (by rw [cI_neg (fun h => c11 (wge0 h))]; exact hR), (by rw [cI_neg (fun h => c11 (wge0 h)), cI_neg (fun h => c11 (wge0 h))]; exact hRH), (by unfold p_write; by_cases h9 : rng x1 16 ∧ rng x2 4 ∧ rng x3 1000; (rw [cI_pos h9, cI_pos h9, cI_neg (fun h => c11 (wge0 ⟨h9, h⟩))]); (rw [cI_neg h9, cI_neg h9])), (by first | (rw [cI_neg (fun h => c11 (wge0 h))]; done) | (rw [cI_neg (fun h => c11 (wge0 h))]; rfl))⟩
set_option maxHeartbeats 4000000 in
set_option maxRecDepth 100000 in
theorem c_X9_mishap (l : Launch) (E : En) (q : Nat) (r : Nat → Nat) (rc : Nat) (tl : Nat) (at9 : Nat) (lf9 : Int32) (pl9 : Int32) (vl9 : Int32) (fa : Nat) (rs9 : Nat) (cs : Int32) (dn : Nat) (S : Nat → Nat) (C : CS) (HH : Nat → Nat) (H : Nat → CS) (x1 : Int32) (hR : Rel S C) (hI : IC C) (hRH : RelH HH H rc) (hrc : rc ≤ 3) : CtI l yX9_mishap wsX9_mishap ({ frames := 2, cells := 0, slots := 0, locals := 45 } : Room) E [.ref q, .int (x1)] [ob 9 q [.ref (r 0), .ref (r 1), .ref (r 2), .int (nI rc), .ref (r 3), .int (nI tl), .ref (r 4), .ref (r 5), .ref (r 6), .ref (r 7), .ref (r 8), .ref (r 9), .ref (r 10), .ref (r 11), .ref (r 12), .int (nI at9), .int (lf9), .int (pl9), .int (vl9), .int (nI fa), .int (nI rs9), .int (cs), .int (nI dn)], ai E (r 0) 892 S, ai E (r 2) 2676 HH] (fun rr uu => ∃ (S2 : Nat → Nat), ∃ (H2 : Nat → Nat), (Rel S2 (cI (rng x1 4) (miS C (dv x1)) C)) ∧ (RelH H2 (cI (rng x1 4) (rcH C H rc) H) (cI (rng x1 4) (rcn rc) rc)) ∧ rr = (p_mishap C x1) ∧ uu = [ob 9 q [.ref (r 0), .ref (r 1), .ref (r 2), .int (nI (cI (rng x1 4) (rcn rc) rc)), .ref (r 3), .int (nI tl), .ref (r 4), .ref (r 5), .ref (r 6), .ref (r 7), .ref (r 8), .ref (r 9), .ref (r 10), .ref (r 11), .ref (r 12), .int (nI at9), .int (lf9), .int (pl9), .int (vl9), .int (nI fa), .int (nI rs9), .int (cs), .int (nI dn)], ai E (r 0) 892 S2, ai E (r 2) 2676 H2]) := by
  refine CtI.of cX9_mishap 3 RX9 .int rfl (by decide) rfl (Or.inl rfl) (Nat.le_of_ble_eq_true rfl) (fun h => by cases h) ?_
  intro Γ F hret
  show G Γ E 0 0 0 [(0, .ref q), (1, .int (x1))] [] [ob 9 q [.ref (r 0), .ref (r 1), .ref (r 2), .int (nI rc), .ref (r 3), .int (nI tl), .ref (r 4), .ref (r 5), .ref (r 6), .ref (r 7), .ref (r 8), .ref (r 9), .ref (r 10), .ref (r 11), .ref (r 12), .int (nI at9), .int (lf9), .int (pl9), .int (vl9), .int (nI fa), .int (nI rs9), .int (cs), .int (nI dn)], ai E (r 0) 892 S, ai E (r 2) 2676 HH]
  refine g_iload_n F 1 dX9_mishap_0 rfl rfl ?_
  refine g_iconst (v := nI 0) F dX9_mishap_1 (by decide) ?_
  refine g_iconst (v := nI 3) F dX9_mishap_2 (by decide) ?_
  refine g_callSiR (n := 3) F [] (c_X9_within_x l E x1 3 (by omega)) dX9_mishap_3 rfl (by decide) rfl rfl rfl (Nat.le_of_ble_eq_true rfl) ⟨Nat.le_of_ble_eq_true rfl, Nat.le_of_ble_eq_true rfl⟩ rfl rfl ⟨Nat.le_of_ble_eq_true rfl, Nat.le_of_ble_eq_true rfl⟩ ggX9_mishap_X9_within (by decide +kernel) (by decide +kernel) (by decide +kernel) (by decide +kernel) (fun r u hp => by obtain ⟨-, h⟩ := hp; exact h) ?_
  rintro r_3 u_3 ⟨rfl, -⟩
  refine g_if_neB (tgt := 12) F dX9_mishap_6 (by decide) (fun c6 => ?_) (fun c6 => ?_)
  · skip
    obtain ⟨k1, hk1, rfl⟩ := rng_of (by decide) (c6)
    have hP : rng (nI k1) 4 := (rng_nI (by decide) (by omega)).mpr hk1
    refine g_aload_n F 0 dX9_mishap_12 rfl rfl ?_
    refine g_callVvW (n := 0) F [0, 1, 2] (c_X9_record l E q r rc tl at9 lf9 pl9 vl9 fa rs9 cs dn S C HH H (by assumption) (by assumption) (by assumption) (by omega)) dX9_mishap_13 rfl (by decide) rfl rfl rfl (Nat.le_of_ble_eq_true rfl) ⟨Nat.le_of_ble_eq_true rfl, Nat.le_of_ble_eq_true rfl⟩ rfl rfl ⟨Nat.le_of_ble_eq_true rfl, Nat.le_of_ble_eq_true rfl⟩ 0 rfl rfl gX9_mishap_X9_record (by decide +kernel) (fun u hp => by obtain ⟨_, -, rfl⟩ := hp; rfl) ?_
    rintro u_13 ⟨H2_13, hRH2_13, rfl⟩
    refine g_ws (w2 := [ob 9 q [.ref (r 0), .ref (r 1), .ref (r 2), .int (nI (rcn rc)), .ref (r 3), .int (nI tl), .ref (r 4), .ref (r 5), .ref (r 6), .ref (r 7), .ref (r 8), .ref (r 9), .ref (r 10), .ref (r 11), .ref (r 12), .int (nI at9), .int (lf9), .int (pl9), .int (vl9), .int (nI fa), .int (nI rs9), .int (cs), .int (nI dn)], ai E (r 0) 892 S, ai E (r 2) 2676 H2_13]) rfl ?_
    refine g_aload_n F 0 dX9_mishap_16 rfl rfl ?_
    refine g_get F 0 0 dX9_mishap_17 rfl rfl (by decide) (by decide +kernel) (by decide +kernel) rfl ?_
    refine g_sipush (v := nI 866) F dX9_mishap_20 (by decide) ?_
    refine g_iald F 1 dX9_mishap_23 rfl (by omega) (by decide) ?_
    refine g_top (nI (S 866)) (nI (sM C)) (by rw [hR.2.2.2.2.1]) ?_
    refine g_istore_n (lv2 := [(2, .int (nI (sM C))), (0, .ref q), (1, .int (nI k1))]) F dX9_mishap_24 rfl (by decide) rfl ?_
    refine g_aload_n F 1 dX9_mishap_25 rfl rfl ?_
    refine g_get F 0 0 dX9_mishap_26 rfl rfl (by decide) (by decide +kernel) (by decide +kernel) rfl ?_
    refine g_sipush (v := nI 866) F dX9_mishap_29 (by decide) ?_
    refine g_iload_n F 2 dX9_mishap_32 rfl rfl ?_
    refine g_iast F 1 dX9_mishap_33 rfl (by omega) (by decide) (w2 := [ob 9 q [.ref (r 0), .ref (r 1), .ref (r 2), .int (nI (rcn rc)), .ref (r 3), .int (nI tl), .ref (r 4), .ref (r 5), .ref (r 6), .ref (r 7), .ref (r 8), .ref (r 9), .ref (r 10), .ref (r 11), .ref (r 12), .int (nI at9), .int (lf9), .int (pl9), .int (vl9), .int (nI fa), .int (nI rs9), .int (cs), .int (nI dn)], ai E (r 0) 892 (up S 866 k1), ai E (r 2) 2676 H2_13]) rfl ?_
    refine g_iload_n F 0 dX9_mishap_34 rfl rfl ?_
    exact hret _ _ _ _ dX9_mishap_35 ⟨(up S 866 k1), H2_13, (by rw [cI_pos hP]; rw [dv_nI (by omega)]; exact hR.mi _), (by rw [cI_pos hP, cI_pos hP]; exact hRH2_13), (by unfold p_mishap; rw [cI_pos hP]), (by first | (rw [cI_pos hP]; done) | (rw [cI_pos hP]; rfl))⟩
  · skip
    refine g_ldc (v := (-1000001)) F dX9_mishap_9 (by decide +kernel) ?_
    exact hret _ _ _ _ dX9_mishap_11 ⟨S, HH, (by rw [cI_neg c6]; exact hR), (by rw [cI_neg c6, cI_neg c6]; exact hRH), (by unfold p_mishap; rw [cI_neg (show ¬ rng x1 4 from c6)]), (by first | (rw [cI_neg c6]; done) | (rw [cI_neg c6]; rfl))⟩
set_option maxHeartbeats 4000000 in
set_option maxRecDepth 100000 in
theorem c_X9_isPlace (l : Launch) (E : En) (x1 : Int32) (x2 : Int32) (x3 : Int32) (n : Nat) (hn : n + 1 < 2 ^ 31) : CtI l yX9_isPlace wsX9_isPlace ({ frames := 1, cells := 0, slots := 0, locals := 22 } : Room) E [.int (x1), .int (x2), .int (x3), .int (nI n)] [] (fun rr uu => rr = (bi (rng x1 96 ∧ rng x2 2 ∧ rng x3 (n + 1))) ∧ uu = []) := by
  refine CtI.of cX9_isPlace 4 RX9 .boolean rfl (by decide) rfl (Or.inr rfl) (Nat.le_of_ble_eq_true rfl) (fun _ r u hp => by obtain ⟨rfl, -⟩ := hp; exact bi_narrow _) ?_
  intro Γ F hret
  show G Γ E 0 0 0 [(0, .int (x1)), (1, .int (x2)), (2, .int (x3)), (3, .int (nI n))] [] []
  refine g_iload_n F 0 dX9_isPlace_0 rfl rfl ?_
  refine g_iconst (v := nI 0) F dX9_isPlace_1 (by decide) ?_
  refine g_bipush (v := nI 95) F dX9_isPlace_2 (by decide) ?_
  refine g_callSiR (n := 3) F [] (c_X9_within_x l E x1 95 (by omega)) dX9_isPlace_4 rfl (by decide) rfl rfl rfl (Nat.le_of_ble_eq_true rfl) ⟨Nat.le_of_ble_eq_true rfl, Nat.le_of_ble_eq_true rfl⟩ rfl rfl ⟨Nat.le_of_ble_eq_true rfl, Nat.le_of_ble_eq_true rfl⟩ ggX9_isPlace_X9_within (by decide +kernel) (by decide +kernel) (by decide +kernel) (by decide +kernel) (fun r u hp => by obtain ⟨-, h⟩ := hp; exact h) ?_
  rintro r_4 u_4 ⟨rfl, -⟩
  refine g_if_eqB (tgt := 32) F dX9_isPlace_7 (by decide) (fun c7 => ?_) (fun c7 => ?_)
  · skip
    refine g_iconst (v := nI 0) F dX9_isPlace_32 (by decide) ?_
    exact hret _ _ _ _ dX9_isPlace_33 ⟨(bi_neg (by first | exact fun h => c7 h.1 | exact fun h => c16 h.2.1 | exact fun h => c25 h.2.2)).symm, rfl⟩
  · skip
    refine g_iload_n F 1 dX9_isPlace_10 rfl rfl ?_
    refine g_iconst (v := nI 0) F dX9_isPlace_11 (by decide) ?_
    refine g_iconst (v := nI 1) F dX9_isPlace_12 (by decide) ?_
    refine g_callSiR (n := 3) F [] (c_X9_within_x l E x2 1 (by omega)) dX9_isPlace_13 rfl (by decide) rfl rfl rfl (Nat.le_of_ble_eq_true rfl) ⟨Nat.le_of_ble_eq_true rfl, Nat.le_of_ble_eq_true rfl⟩ rfl rfl ⟨Nat.le_of_ble_eq_true rfl, Nat.le_of_ble_eq_true rfl⟩ ggX9_isPlace_X9_within (by decide +kernel) (by decide +kernel) (by decide +kernel) (by decide +kernel) (fun r u hp => by obtain ⟨-, h⟩ := hp; exact h) ?_
    rintro r_13 u_13 ⟨rfl, -⟩
    refine g_if_eqB (tgt := 32) F dX9_isPlace_16 (by decide) (fun c16 => ?_) (fun c16 => ?_)
    · skip
      refine g_iconst (v := nI 0) F dX9_isPlace_32 (by decide) ?_
      exact hret _ _ _ _ dX9_isPlace_33 ⟨(bi_neg (by first | exact fun h => c7 h.1 | exact fun h => c16 h.2.1 | exact fun h => c25 h.2.2)).symm, rfl⟩
    · skip
      refine g_iload_n F 2 dX9_isPlace_19 rfl rfl ?_
      refine g_iconst (v := nI 0) F dX9_isPlace_20 (by decide) ?_
      refine g_iload_n F 3 dX9_isPlace_21 rfl rfl ?_
      refine g_callSiR (n := 3) F [] (c_X9_within_x l E x3 n (by omega)) dX9_isPlace_22 rfl (by decide) rfl rfl rfl (Nat.le_of_ble_eq_true rfl) ⟨Nat.le_of_ble_eq_true rfl, Nat.le_of_ble_eq_true rfl⟩ rfl rfl ⟨Nat.le_of_ble_eq_true rfl, Nat.le_of_ble_eq_true rfl⟩ ggX9_isPlace_X9_within (by decide +kernel) (by decide +kernel) (by decide +kernel) (by decide +kernel) (fun r u hp => by obtain ⟨-, h⟩ := hp; exact h) ?_
      rintro r_22 u_22 ⟨rfl, -⟩
      refine g_if_eqB (tgt := 32) F dX9_isPlace_25 (by decide) (fun c25 => ?_) (fun c25 => ?_)
      · skip
        refine g_iconst (v := nI 0) F dX9_isPlace_32 (by decide) ?_
        exact hret _ _ _ _ dX9_isPlace_33 ⟨(bi_neg (by first | exact fun h => c7 h.1 | exact fun h => c16 h.2.1 | exact fun h => c25 h.2.2)).symm, rfl⟩
      · skip
        refine g_iconst (v := nI 1) F dX9_isPlace_28 (by decide) ?_
        refine g_goto (tgt := 33) F dX9_isPlace_29 (by decide) ?_
        exact hret _ _ _ _ dX9_isPlace_33 ⟨(bi_pos (by exact ⟨c7, c16, c25⟩)).symm, rfl⟩
set_option maxHeartbeats 4000000 in
set_option maxRecDepth 100000 in
theorem c_X9_rot (l : Launch) (E : En) (q : Nat) (r : Nat → Nat) (rc : Nat) (tl : Nat) (at9 : Nat) (lf9 : Int32) (pl9 : Int32) (vl9 : Int32) (fa : Nat) (rs9 : Nat) (cs : Int32) (dn : Nat) (S : Nat → Nat) (C : CS) (HH : Nat → Nat) (H : Nat → CS) (x1 : Int32) (x2 : Int32) (x3 : Int32) (x4 : Int32) (hR : Rel S C) (hI : IC C) (hRH : RelH HH H rc) (hrc : rc ≤ 3) : CtI l yX9_rot wsX9_rot ({ frames := 2, cells := 0, slots := 0, locals := 45 } : Room) E [.ref q, .int (x1), .int (x2), .int (x3), .int (x4)] [ob 9 q [.ref (r 0), .ref (r 1), .ref (r 2), .int (nI rc), .ref (r 3), .int (nI tl), .ref (r 4), .ref (r 5), .ref (r 6), .ref (r 7), .ref (r 8), .ref (r 9), .ref (r 10), .ref (r 11), .ref (r 12), .int (nI at9), .int (lf9), .int (pl9), .int (vl9), .int (nI fa), .int (nI rs9), .int (cs), .int (nI dn)], ai E (r 0) 892 S, ai E (r 2) 2676 HH] (fun rr uu => ∃ (S2 : Nat → Nat), ∃ (H2 : Nat → Nat), (Rel S2 (cI (okR x1 x2 x3 x4) (nS C (pn (sN C) (dv x2) (dv x1) (dv x3) (dv x4))) C)) ∧ (RelH H2 (cI (okR x1 x2 x3 x4) (rcH C H rc) H) (cI (okR x1 x2 x3 x4) (rcn rc) rc)) ∧ rr = (p_rot C x1 x2 x3 x4) ∧ uu = [ob 9 q [.ref (r 0), .ref (r 1), .ref (r 2), .int (nI (cI (okR x1 x2 x3 x4) (rcn rc) rc)), .ref (r 3), .int (nI tl), .ref (r 4), .ref (r 5), .ref (r 6), .ref (r 7), .ref (r 8), .ref (r 9), .ref (r 10), .ref (r 11), .ref (r 12), .int (nI at9), .int (lf9), .int (pl9), .int (vl9), .int (nI fa), .int (nI rs9), .int (cs), .int (nI dn)], ai E (r 0) 892 S2, ai E (r 2) 2676 H2]) := by
  refine CtI.of cX9_rot 6 RX9 .int rfl (by decide) rfl (Or.inl rfl) (Nat.le_of_ble_eq_true rfl) (fun h => by cases h) ?_
  intro Γ F hret
  show G Γ E 0 0 0 [(0, .ref q), (1, .int (x1)), (2, .int (x2)), (3, .int (x3)), (4, .int (x4))] [] [ob 9 q [.ref (r 0), .ref (r 1), .ref (r 2), .int (nI rc), .ref (r 3), .int (nI tl), .ref (r 4), .ref (r 5), .ref (r 6), .ref (r 7), .ref (r 8), .ref (r 9), .ref (r 10), .ref (r 11), .ref (r 12), .int (nI at9), .int (lf9), .int (pl9), .int (vl9), .int (nI fa), .int (nI rs9), .int (cs), .int (nI dn)], ai E (r 0) 892 S, ai E (r 2) 2676 HH]
  refine g_iload_n F 1 dX9_rot_0 rfl rfl ?_
  refine g_iload_n F 2 dX9_rot_1 rfl rfl ?_
  refine g_iload_n F 3 dX9_rot_2 rfl rfl ?_
  refine g_iconst (v := nI 3) F dX9_rot_3 (by decide) ?_
  refine g_callSiR (n := 4) F [] (c_X9_isPlace l E x1 x2 x3 3 (by omega)) dX9_rot_4 rfl (by decide) rfl rfl rfl (Nat.le_of_ble_eq_true rfl) ⟨Nat.le_of_ble_eq_true rfl, Nat.le_of_ble_eq_true rfl⟩ rfl rfl ⟨Nat.le_of_ble_eq_true rfl, Nat.le_of_ble_eq_true rfl⟩ ggX9_rot_X9_isPlace (by decide +kernel) (by decide +kernel) (by decide +kernel) (by decide +kernel) (fun r u hp => by obtain ⟨-, h⟩ := hp; exact h) ?_
  rintro r_4 u_4 ⟨rfl, -⟩
  refine g_if_eqB (tgt := 21) F dX9_rot_7 (by decide) (fun c7 => ?_) (fun c7 => ?_)
  · skip
    refine g_ldc (v := (-1000001)) F dX9_rot_21 (by decide +kernel) ?_
    exact hret _ _ _ _ dX9_rot_23 ⟨S, HH, (by rw [cI_neg (fun h : okR x1 x2 x3 x4 => by first | exact c18 h.2.2.2 | exact c7 ⟨h.1, h.2.1, h.2.2.1⟩)]; exact hR), (by rw [cI_neg (fun h : okR x1 x2 x3 x4 => by first | exact c18 h.2.2.2 | exact c7 ⟨h.1, h.2.1, h.2.2.1⟩), cI_neg (fun h : okR x1 x2 x3 x4 => by first | exact c18 h.2.2.2 | exact c7 ⟨h.1, h.2.1, h.2.2.1⟩)]; exact hRH), (by unfold p_rot; rw [cI_neg (fun h : okR x1 x2 x3 x4 => by first | exact c18 h.2.2.2 | exact c7 ⟨h.1, h.2.1, h.2.2.1⟩)]), (by first | (rw [cI_neg (fun h : okR x1 x2 x3 x4 => by first | exact c18 h.2.2.2 | exact c7 ⟨h.1, h.2.1, h.2.2.1⟩)]; done) | (rw [cI_neg (fun h : okR x1 x2 x3 x4 => by first | exact c18 h.2.2.2 | exact c7 ⟨h.1, h.2.1, h.2.2.1⟩)]; rfl))⟩
  · skip
    refine g_iload F 4 dX9_rot_10 rfl ?_
    refine g_iconst (v := nI 0) F dX9_rot_12 (by decide) ?_
    refine g_ldc (v := 65535) F dX9_rot_13 (by decide +kernel) ?_
    refine g_top (65535) (nI 65535) (by decide) ?_
    refine g_callSiR (n := 3) F [] (c_X9_within_x l E x4 65535 (by omega)) dX9_rot_15 rfl (by decide) rfl rfl rfl (Nat.le_of_ble_eq_true rfl) ⟨Nat.le_of_ble_eq_true rfl, Nat.le_of_ble_eq_true rfl⟩ rfl rfl ⟨Nat.le_of_ble_eq_true rfl, Nat.le_of_ble_eq_true rfl⟩ ggX9_rot_X9_within (by decide +kernel) (by decide +kernel) (by decide +kernel) (by decide +kernel) (fun r u hp => by obtain ⟨-, h⟩ := hp; exact h) ?_
    rintro r_15 u_15 ⟨rfl, -⟩
    refine g_if_neB (tgt := 24) F dX9_rot_18 (by decide) (fun c18 => ?_) (fun c18 => ?_)
    · skip
      have hP : okR x1 x2 x3 x4 := ⟨c7.1, c7.2.1, c7.2.2, c18⟩
      obtain ⟨b1, hb1, rfl⟩ := rng_of (by decide) hP.1
      obtain ⟨q1, hq1, rfl⟩ := rng_of (by decide) hP.2.1
      obtain ⟨k1, hk1, rfl⟩ := rng_of (by decide) hP.2.2.1
      obtain ⟨v1, hv1, rfl⟩ := rng_of (by decide) hP.2.2.2
      refine g_aload_n F 0 dX9_rot_24 rfl rfl ?_
      refine g_callVvW (n := 0) F [0, 1, 2] (c_X9_record l E q r rc tl at9 lf9 pl9 vl9 fa rs9 cs dn S C HH H (by assumption) (by assumption) (by assumption) (by omega)) dX9_rot_25 rfl (by decide) rfl rfl rfl (Nat.le_of_ble_eq_true rfl) ⟨Nat.le_of_ble_eq_true rfl, Nat.le_of_ble_eq_true rfl⟩ rfl rfl ⟨Nat.le_of_ble_eq_true rfl, Nat.le_of_ble_eq_true rfl⟩ 0 rfl rfl gX9_rot_X9_record (by decide +kernel) (fun u hp => by obtain ⟨_, -, rfl⟩ := hp; rfl) ?_
      rintro u_25 ⟨H2_25, hRH2_25, rfl⟩
      refine g_ws (w2 := [ob 9 q [.ref (r 0), .ref (r 1), .ref (r 2), .int (nI (rcn rc)), .ref (r 3), .int (nI tl), .ref (r 4), .ref (r 5), .ref (r 6), .ref (r 7), .ref (r 8), .ref (r 9), .ref (r 10), .ref (r 11), .ref (r 12), .int (nI at9), .int (lf9), .int (pl9), .int (vl9), .int (nI fa), .int (nI rs9), .int (cs), .int (nI dn)], ai E (r 0) 892 S, ai E (r 2) 2676 H2_25]) rfl ?_
      refine g_aload_n F 0 dX9_rot_28 rfl rfl ?_
      refine g_iload_n F 2 dX9_rot_29 rfl rfl ?_
      refine g_iload_n F 1 dX9_rot_30 rfl rfl ?_
      refine g_iload_n F 3 dX9_rot_31 rfl rfl ?_
      refine g_callViR (n := 3) F [0, 1] (c_X9_contentOf l E q r (rcn rc) tl at9 lf9 pl9 vl9 fa rs9 cs dn S C q1 b1 k1 (by assumption) (by omega) (by omega) (by omega)) dX9_rot_32 rfl (by decide) rfl rfl rfl (Nat.le_of_ble_eq_true rfl) ⟨Nat.le_of_ble_eq_true rfl, Nat.le_of_ble_eq_true rfl⟩ rfl rfl ⟨Nat.le_of_ble_eq_true rfl, Nat.le_of_ble_eq_true rfl⟩ 0 rfl rfl gX9_rot_X9_contentOf (by decide +kernel) (fun r u hp => by obtain ⟨-, h⟩ := hp; exact h) ?_
      rintro r_32 u_32 ⟨rfl, -⟩
      refine g_istore (lv2 := [(5, .int (nI (nu (sN C) q1 b1 k1))), (0, .ref q), (1, .int (nI b1)), (2, .int (nI q1)), (3, .int (nI k1)), (4, .int (nI v1))]) F dX9_rot_35 (by decide) rfl ?_
      refine g_aload_n F 1 dX9_rot_37 rfl rfl ?_
      refine g_iload_n F 3 dX9_rot_38 rfl rfl ?_
      refine g_iload_n F 2 dX9_rot_39 rfl rfl ?_
      refine g_iload_n F 4 dX9_rot_40 rfl rfl ?_
      refine g_iload F 5 dX9_rot_41 rfl ?_
      refine g_callVvW (n := 4) F [0, 1] (c_X9_setContent l E q r (rcn rc) tl at9 lf9 pl9 vl9 fa rs9 cs dn S C q1 b1 k1 v1 (by assumption) (by omega) (by omega) (by omega)) dX9_rot_43 rfl (by decide) rfl rfl rfl (Nat.le_of_ble_eq_true rfl) ⟨Nat.le_of_ble_eq_true rfl, Nat.le_of_ble_eq_true rfl⟩ rfl rfl ⟨Nat.le_of_ble_eq_true rfl, Nat.le_of_ble_eq_true rfl⟩ 0 rfl rfl gX9_rot_X9_setContent (by decide +kernel) (fun u hp => by obtain ⟨_, -, rfl⟩ := hp; rfl) ?_
      rintro u_43 ⟨S2_43, hR2_43, rfl⟩
      refine g_ws (w2 := [ob 9 q [.ref (r 0), .ref (r 1), .ref (r 2), .int (nI (rcn rc)), .ref (r 3), .int (nI tl), .ref (r 4), .ref (r 5), .ref (r 6), .ref (r 7), .ref (r 8), .ref (r 9), .ref (r 10), .ref (r 11), .ref (r 12), .int (nI at9), .int (lf9), .int (pl9), .int (vl9), .int (nI fa), .int (nI rs9), .int (cs), .int (nI dn)], ai E (r 0) 892 S2_43, ai E (r 2) 2676 H2_25]) rfl ?_
      refine g_iload F 0 dX9_rot_46 rfl ?_
      exact hret _ _ _ _ dX9_rot_48 ⟨S2_43, H2_25, (by rw [cI_pos hP]; rw [dv_nI (by omega), dv_nI (by omega), dv_nI (by omega), dv_nI (by omega)]; exact hR2_43), (by rw [cI_pos hP, cI_pos hP]; exact hRH2_25), (by unfold p_rot; rw [cI_pos hP, dv_nI (by omega), dv_nI (by omega), dv_nI (by omega)]), (by first | (rw [cI_pos hP]; done) | (rw [cI_pos hP]; rfl))⟩
    · skip
      refine g_ldc (v := (-1000001)) F dX9_rot_21 (by decide +kernel) ?_
      exact hret _ _ _ _ dX9_rot_23 ⟨S, HH, (by rw [cI_neg (fun h : okR x1 x2 x3 x4 => by first | exact c18 h.2.2.2 | exact c7 ⟨h.1, h.2.1, h.2.2.1⟩)]; exact hR), (by rw [cI_neg (fun h : okR x1 x2 x3 x4 => by first | exact c18 h.2.2.2 | exact c7 ⟨h.1, h.2.1, h.2.2.1⟩), cI_neg (fun h : okR x1 x2 x3 x4 => by first | exact c18 h.2.2.2 | exact c7 ⟨h.1, h.2.1, h.2.2.1⟩)]; exact hRH), (by unfold p_rot; rw [cI_neg (fun h : okR x1 x2 x3 x4 => by first | exact c18 h.2.2.2 | exact c7 ⟨h.1, h.2.1, h.2.2.1⟩)]), (by first | (rw [cI_neg (fun h : okR x1 x2 x3 x4 => by first | exact c18 h.2.2.2 | exact c7 ⟨h.1, h.2.1, h.2.2.1⟩)]; done) | (rw [cI_neg (fun h : okR x1 x2 x3 x4 => by first | exact c18 h.2.2.2 | exact c7 ⟨h.1, h.2.1, h.2.2.1⟩)]; rfl))⟩
set_option maxHeartbeats 4000000 in
set_option maxRecDepth 100000 in
theorem c_X9_read (l : Launch) (E : En) (q : Nat) (r : Nat → Nat) (rc : Nat) (tl : Nat) (at9 : Nat) (lf9 : Int32) (pl9 : Int32) (vl9 : Int32) (fa : Nat) (rs9 : Nat) (cs : Int32) (dn : Nat) (S : Nat → Nat) (C : CS) (B : Nat → Nat) (Q : Nat → Nat) (K : Nat → Int32) (x1 : Int32) (x2 : Int32) (x3 : Int32) (hR : Rel S C) (hI : IC C) : CtI l yX9_read wsX9_read ({ frames := 4, cells := 0, slots := 0, locals := 92 } : Room) E [.ref q, .int (x1), .int (x2), .int (x3)] [ob 9 q [.ref (r 0), .ref (r 1), .ref (r 2), .int (nI rc), .ref (r 3), .int (nI tl), .ref (r 4), .ref (r 5), .ref (r 6), .ref (r 7), .ref (r 8), .ref (r 9), .ref (r 10), .ref (r 11), .ref (r 12), .int (nI at9), .int (lf9), .int (pl9), .int (vl9), .int (nI fa), .int (nI rs9), .int (cs), .int (nI dn)], ai E (r 0) 892 S, ai E (r 4) 3 B, ai E (r 5) 3 Q, ax E (r 6) 3 K] (fun rr uu => ∃ (B2 : Nat → Nat), ∃ (Q2 : Nat → Nat), ∃ (K2 : Nat → Int32), rr = (p_read C x1 x2 x3) ∧ uu = [ob 9 q [.ref (r 0), .ref (r 1), .ref (r 2), .int (nI rc), .ref (r 3), .int (nI tl), .ref (r 4), .ref (r 5), .ref (r 6), .ref (r 7), .ref (r 8), .ref (r 9), .ref (r 10), .ref (r 11), .ref (r 12), .int (nI at9), .int (lf9), .int (pl9), .int (vl9), .int (nI fa), .int (nI rs9), .int (cs), .int (nI dn)], ai E (r 0) 892 S, ai E (r 4) 3 B2, ai E (r 5) 3 Q2, ax E (r 6) 3 K2]) := by
  refine CtI.of cX9_read 4 RX9 .int rfl (by decide) rfl (Or.inl rfl) (Nat.le_of_ble_eq_true rfl) (fun h => by cases h) ?_
  intro Γ F hret
  show G Γ E 0 0 0 [(0, .ref q), (1, .int (x1)), (2, .int (x2)), (3, .int (x3))] [] [ob 9 q [.ref (r 0), .ref (r 1), .ref (r 2), .int (nI rc), .ref (r 3), .int (nI tl), .ref (r 4), .ref (r 5), .ref (r 6), .ref (r 7), .ref (r 8), .ref (r 9), .ref (r 10), .ref (r 11), .ref (r 12), .int (nI at9), .int (lf9), .int (pl9), .int (vl9), .int (nI fa), .int (nI rs9), .int (cs), .int (nI dn)], ai E (r 0) 892 S, ai E (r 4) 3 B, ai E (r 5) 3 Q, ax E (r 6) 3 K]
  refine g_aload_n F 0 dX9_read_0 rfl rfl ?_
  refine g_iload_n F 1 dX9_read_1 rfl rfl ?_
  refine g_callViR (n := 1) F [0, 1] (c_X9_isRoot l E q r rc tl at9 lf9 pl9 vl9 fa rs9 cs dn S C x1 (by assumption) (by assumption)) dX9_read_2 rfl (by decide) rfl rfl rfl (Nat.le_of_ble_eq_true rfl) ⟨Nat.le_of_ble_eq_true rfl, Nat.le_of_ble_eq_true rfl⟩ rfl rfl ⟨Nat.le_of_ble_eq_true rfl, Nat.le_of_ble_eq_true rfl⟩ 0 rfl rfl gX9_read_X9_isRoot (by decide +kernel) (fun r u hp => by obtain ⟨-, h⟩ := hp; exact h) ?_
  rintro r_2 u_2 ⟨rfl, -⟩
  refine g_if_eqB (tgt := 24) F dX9_read_5 (by decide) (fun c5 => ?_) (fun c5 => ?_)
  · skip
    refine g_ldc (v := (-1000001)) F dX9_read_24 (by decide +kernel) ?_
    exact hret _ _ _ _ dX9_read_26 ⟨B, Q, K, (by unfold p_read; rw [cI_neg (fun h => by first | exact c5 h.1 | exact c12 h.2.1 | exact c21 h.2.2)]), (by rfl)⟩
  · skip
    obtain ⟨r1, hr1, rfl⟩ := rng_of (by have := hI.2.2.2.1; omega) (c5)
    refine g_iload_n F 2 dX9_read_8 rfl rfl ?_
    refine g_callSiR (n := 1) F [] (c_X9_isLeaf l E x2 ) dX9_read_9 rfl (by decide) rfl rfl rfl (Nat.le_of_ble_eq_true rfl) ⟨Nat.le_of_ble_eq_true rfl, Nat.le_of_ble_eq_true rfl⟩ rfl rfl ⟨Nat.le_of_ble_eq_true rfl, Nat.le_of_ble_eq_true rfl⟩ ggX9_read_X9_isLeaf (by decide +kernel) (by decide +kernel) (by decide +kernel) (by decide +kernel) (fun r u hp => by obtain ⟨-, h⟩ := hp; exact h) ?_
    rintro r_9 u_9 ⟨rfl, -⟩
    refine g_if_eqB (tgt := 24) F dX9_read_12 (by decide) (fun c12 => ?_) (fun c12 => ?_)
    · skip
      refine g_ldc (v := (-1000001)) F dX9_read_24 (by decide +kernel) ?_
      exact hret _ _ _ _ dX9_read_26 ⟨B, Q, K, (by unfold p_read; rw [cI_neg (fun h => by first | exact c5 h.1 | exact c12 h.2.1 | exact c21 h.2.2)]), (by rfl)⟩
    · skip
      obtain ⟨l1, hl1, rfl⟩ := rng_of (by first | decide | omega) (c12)
      refine g_iload_n F 3 dX9_read_15 rfl rfl ?_
      refine g_iconst (v := nI 0) F dX9_read_16 (by decide) ?_
      refine g_iconst (v := nI 3) F dX9_read_17 (by decide) ?_
      refine g_callSiR (n := 3) F [] (c_X9_within_x l E x3 3 (by omega)) dX9_read_18 rfl (by decide) rfl rfl rfl (Nat.le_of_ble_eq_true rfl) ⟨Nat.le_of_ble_eq_true rfl, Nat.le_of_ble_eq_true rfl⟩ rfl rfl ⟨Nat.le_of_ble_eq_true rfl, Nat.le_of_ble_eq_true rfl⟩ ggX9_read_X9_within (by decide +kernel) (by decide +kernel) (by decide +kernel) (by decide +kernel) (fun r u hp => by obtain ⟨-, h⟩ := hp; exact h) ?_
      rintro r_18 u_18 ⟨rfl, -⟩
      refine g_if_neB (tgt := 27) F dX9_read_21 (by decide) (fun c21 => ?_) (fun c21 => ?_)
      · skip
        obtain ⟨p1, hp1, rfl⟩ := rng_of (by first | decide | omega) (c21)
        have hz8 := hI.2.2.2.1
        refine g_aload_n F 0 dX9_read_27 rfl rfl ?_
        refine g_iload_n F 1 dX9_read_28 rfl rfl ?_
        refine g_iload_n F 2 dX9_read_29 rfl rfl ?_
        refine g_callViW (n := 2) F [0, 1, 2, 3, 4] (c_X9_findWay l E q r rc tl at9 lf9 pl9 vl9 fa rs9 cs dn S C B Q K r1 l1 (by exact hR) (by assumption) (by exact hr1) (by exact hl1)) dX9_read_30 rfl (by decide) rfl rfl rfl (Nat.le_of_ble_eq_true rfl) ⟨Nat.le_of_ble_eq_true rfl, Nat.le_of_ble_eq_true rfl⟩ rfl rfl ⟨Nat.le_of_ble_eq_true rfl, Nat.le_of_ble_eq_true rfl⟩ 0 rfl rfl gX9_read_X9_findWay (by decide +kernel) (fun r u hp => by obtain ⟨_, _, _, -, -, rfl⟩ := hp; rfl) ?_
        rintro r_30 u_30 ⟨B2_30, Q2_30, K2_30, hW_30, rfl, rfl⟩
        refine g_ws (w2 := [ob 9 q [.ref (r 0), .ref (r 1), .ref (r 2), .int (nI rc), .ref (r 3), .int (nI tl), .ref (r 4), .ref (r 5), .ref (r 6), .ref (r 7), .ref (r 8), .ref (r 9), .ref (r 10), .ref (r 11), .ref (r 12), .int (nI at9), .int (lf9), .int (pl9), .int (vl9), .int (nI fa), .int (nI rs9), .int (cs), .int (nI dn)], ai E (r 0) 892 S, ai E (r 4) 3 B2_30, ai E (r 5) 3 Q2_30, ax E (r 6) 3 K2_30]) rfl ?_
        refine g_if_eqB (tgt := 56) F dX9_read_33 (by decide) (fun c33 => ?_) (fun c33 => ?_)
        · skip
          refine g_ldc (v := (-1000002)) F dX9_read_56 (by decide +kernel) ?_
          exact hret _ _ _ _ dX9_read_58 ⟨B2_30, Q2_30, K2_30, (by unfold p_read; rw [cI_pos ⟨(rng_nI (by omega) (by omega)).mpr hr1, (rng_nI (by decide) (by omega)).mpr hl1, (rng_nI (by decide) (by omega)).mpr hp1⟩, dv_nI (by omega), dv_nI (by omega), dv_nI (by omega)]; first | rw [if_pos c33] | rw [if_neg c33]), (by rfl)⟩
        · skip
          have hg2 := hW_30.good (v := 2) (by omega) (by omega) (by rw [show glC C r1 l1 = 3 from sp_gl.mp c33]; omega)
          refine g_aload_n F 0 dX9_read_36 rfl rfl ?_
          refine g_aload_n F 0 dX9_read_37 rfl rfl ?_
          refine g_get F 0 8 dX9_read_38 rfl rfl (by decide) (by decide +kernel) (by decide +kernel) rfl ?_
          refine g_iconst (v := nI 2) F dX9_read_41 (by decide) ?_
          refine g_xald F 4 dX9_read_42 rfl (by omega) (by decide) ?_
          refine g_top (K2_30 2) (nI (wDC C r1 l1 2)) (by rw [hg2.1]) ?_
          refine g_aload_n F 0 dX9_read_43 rfl rfl ?_
          refine g_get F 0 6 dX9_read_44 rfl rfl (by decide) (by decide +kernel) (by decide +kernel) rfl ?_
          refine g_iconst (v := nI 2) F dX9_read_47 (by decide) ?_
          refine g_iald F 2 dX9_read_48 rfl (by omega) (by decide) ?_
          refine g_top (nI (B2_30 2)) (nI (wBC C r1 l1 2)) (by rw [hg2.2.1]) ?_
          refine g_iload_n F 3 dX9_read_49 rfl rfl ?_
          refine g_callViR (n := 3) F [0, 1] (c_X9_contentOf l E q r rc tl at9 lf9 pl9 vl9 fa rs9 cs dn S C (wDC C r1 l1 2) (wBC C r1 l1 2) p1 (by assumption) (by exact hg2.2.2.2.1) (by exact hg2.2.2.2.2) (by omega)) dX9_read_50 rfl (by decide) rfl rfl rfl (Nat.le_of_ble_eq_true rfl) ⟨Nat.le_of_ble_eq_true rfl, Nat.le_of_ble_eq_true rfl⟩ rfl rfl ⟨Nat.le_of_ble_eq_true rfl, Nat.le_of_ble_eq_true rfl⟩ 0 rfl rfl gX9_read_X9_contentOf (by decide +kernel) (fun r u hp => by obtain ⟨-, h⟩ := hp; exact h) ?_
          rintro r_50 u_50 ⟨rfl, -⟩
          refine g_goto (tgt := 58) F dX9_read_53 (by decide) ?_
          exact hret _ _ _ _ dX9_read_58 ⟨B2_30, Q2_30, K2_30, (by unfold p_read; rw [cI_pos ⟨(rng_nI (by omega) (by omega)).mpr hr1, (rng_nI (by decide) (by omega)).mpr hl1, (rng_nI (by decide) (by omega)).mpr hp1⟩, dv_nI (by omega), dv_nI (by omega), dv_nI (by omega)]; first | rw [if_pos c33] | rw [if_neg c33]), (by rfl)⟩
      · skip
        refine g_ldc (v := (-1000001)) F dX9_read_24 (by decide +kernel) ?_
        exact hret _ _ _ _ dX9_read_26 ⟨B, Q, K, (by unfold p_read; rw [cI_neg (fun h => by first | exact c5 h.1 | exact c12 h.2.1 | exact c21 h.2.2)]), (by rfl)⟩
set_option maxHeartbeats 4000000 in
set_option maxRecDepth 100000 in
theorem c_X9_from (l : Launch) (E : En) (q : Nat) (r : Nat → Nat) (rc : Nat) (tl : Nat) (at9 : Nat) (lf9 : Int32) (pl9 : Int32) (vl9 : Int32) (fa : Nat) (rs9 : Nat) (cs : Int32) (dn : Nat) (S : Nat → Nat) (C : CS) (B : Nat → Nat) (Q : Nat → Nat) (K : Nat → Int32) (x1 : Int32) (x2 : Int32) (x3 : Int32) (hR : Rel S C) (hI : IC C) : CtI l yX9_from wsX9_from ({ frames := 4, cells := 0, slots := 0, locals := 92 } : Room) E [.ref q, .int (x1), .int (x2), .int (x3)] [ob 9 q [.ref (r 0), .ref (r 1), .ref (r 2), .int (nI rc), .ref (r 3), .int (nI tl), .ref (r 4), .ref (r 5), .ref (r 6), .ref (r 7), .ref (r 8), .ref (r 9), .ref (r 10), .ref (r 11), .ref (r 12), .int (nI at9), .int (lf9), .int (pl9), .int (vl9), .int (nI fa), .int (nI rs9), .int (cs), .int (nI dn)], ai E (r 0) 892 S, ai E (r 4) 3 B, ai E (r 5) 3 Q, ax E (r 6) 3 K] (fun rr uu => ∃ (B2 : Nat → Nat), ∃ (Q2 : Nat → Nat), ∃ (K2 : Nat → Int32), rr = (p_from C x1 x2 x3) ∧ uu = [ob 9 q [.ref (r 0), .ref (r 1), .ref (r 2), .int (nI rc), .ref (r 3), .int (nI tl), .ref (r 4), .ref (r 5), .ref (r 6), .ref (r 7), .ref (r 8), .ref (r 9), .ref (r 10), .ref (r 11), .ref (r 12), .int (nI at9), .int (lf9), .int (pl9), .int (vl9), .int (nI fa), .int (nI rs9), .int (cs), .int (nI dn)], ai E (r 0) 892 S, ai E (r 4) 3 B2, ai E (r 5) 3 Q2, ax E (r 6) 3 K2]) := by
  refine CtI.of cX9_from 4 RX9 .int rfl (by decide) rfl (Or.inl rfl) (Nat.le_of_ble_eq_true rfl) (fun h => by cases h) ?_
  intro Γ F hret
  show G Γ E 0 0 0 [(0, .ref q), (1, .int (x1)), (2, .int (x2)), (3, .int (x3))] [] [ob 9 q [.ref (r 0), .ref (r 1), .ref (r 2), .int (nI rc), .ref (r 3), .int (nI tl), .ref (r 4), .ref (r 5), .ref (r 6), .ref (r 7), .ref (r 8), .ref (r 9), .ref (r 10), .ref (r 11), .ref (r 12), .int (nI at9), .int (lf9), .int (pl9), .int (vl9), .int (nI fa), .int (nI rs9), .int (cs), .int (nI dn)], ai E (r 0) 892 S, ai E (r 4) 3 B, ai E (r 5) 3 Q, ax E (r 6) 3 K]
  refine g_aload_n F 0 dX9_from_0 rfl rfl ?_
  refine g_iload_n F 1 dX9_from_1 rfl rfl ?_
  refine g_callViR (n := 1) F [0, 1] (c_X9_isRoot l E q r rc tl at9 lf9 pl9 vl9 fa rs9 cs dn S C x1 (by assumption) (by assumption)) dX9_from_2 rfl (by decide) rfl rfl rfl (Nat.le_of_ble_eq_true rfl) ⟨Nat.le_of_ble_eq_true rfl, Nat.le_of_ble_eq_true rfl⟩ rfl rfl ⟨Nat.le_of_ble_eq_true rfl, Nat.le_of_ble_eq_true rfl⟩ 0 rfl rfl gX9_from_X9_isRoot (by decide +kernel) (fun r u hp => by obtain ⟨-, h⟩ := hp; exact h) ?_
  rintro r_2 u_2 ⟨rfl, -⟩
  refine g_if_eqB (tgt := 24) F dX9_from_5 (by decide) (fun c5 => ?_) (fun c5 => ?_)
  · skip
    refine g_ldc (v := (-1000001)) F dX9_from_24 (by decide +kernel) ?_
    exact hret _ _ _ _ dX9_from_26 ⟨B, Q, K, (by unfold p_from; rw [cI_neg (fun h => by first | exact c5 h.1 | exact c12 h.2.1 | exact c21 h.2.2)]), (by rfl)⟩
  · skip
    obtain ⟨r1, hr1, rfl⟩ := rng_of (by have := hI.2.2.2.1; omega) (c5)
    refine g_iload_n F 2 dX9_from_8 rfl rfl ?_
    refine g_callSiR (n := 1) F [] (c_X9_isLeaf l E x2 ) dX9_from_9 rfl (by decide) rfl rfl rfl (Nat.le_of_ble_eq_true rfl) ⟨Nat.le_of_ble_eq_true rfl, Nat.le_of_ble_eq_true rfl⟩ rfl rfl ⟨Nat.le_of_ble_eq_true rfl, Nat.le_of_ble_eq_true rfl⟩ ggX9_from_X9_isLeaf (by decide +kernel) (by decide +kernel) (by decide +kernel) (by decide +kernel) (fun r u hp => by obtain ⟨-, h⟩ := hp; exact h) ?_
    rintro r_9 u_9 ⟨rfl, -⟩
    refine g_if_eqB (tgt := 24) F dX9_from_12 (by decide) (fun c12 => ?_) (fun c12 => ?_)
    · skip
      refine g_ldc (v := (-1000001)) F dX9_from_24 (by decide +kernel) ?_
      exact hret _ _ _ _ dX9_from_26 ⟨B, Q, K, (by unfold p_from; rw [cI_neg (fun h => by first | exact c5 h.1 | exact c12 h.2.1 | exact c21 h.2.2)]), (by rfl)⟩
    · skip
      obtain ⟨l1, hl1, rfl⟩ := rng_of (by first | decide | omega) (c12)
      refine g_iload_n F 3 dX9_from_15 rfl rfl ?_
      refine g_iconst (v := nI 0) F dX9_from_16 (by decide) ?_
      refine g_iconst (v := nI 2) F dX9_from_17 (by decide) ?_
      refine g_callSiR (n := 3) F [] (c_X9_within_x l E x3 2 (by omega)) dX9_from_18 rfl (by decide) rfl rfl rfl (Nat.le_of_ble_eq_true rfl) ⟨Nat.le_of_ble_eq_true rfl, Nat.le_of_ble_eq_true rfl⟩ rfl rfl ⟨Nat.le_of_ble_eq_true rfl, Nat.le_of_ble_eq_true rfl⟩ ggX9_from_X9_within (by decide +kernel) (by decide +kernel) (by decide +kernel) (by decide +kernel) (fun r u hp => by obtain ⟨-, h⟩ := hp; exact h) ?_
      rintro r_18 u_18 ⟨rfl, -⟩
      refine g_if_neB (tgt := 27) F dX9_from_21 (by decide) (fun c21 => ?_) (fun c21 => ?_)
      · skip
        obtain ⟨p1, hp1, rfl⟩ := rng_of (by first | decide | omega) (c21)
        have hz8 := hI.2.2.2.1
        refine g_aload_n F 0 dX9_from_27 rfl rfl ?_
        refine g_iload_n F 1 dX9_from_28 rfl rfl ?_
        refine g_iload_n F 2 dX9_from_29 rfl rfl ?_
        refine g_callViW (n := 2) F [0, 1, 2, 3, 4] (c_X9_findWay l E q r rc tl at9 lf9 pl9 vl9 fa rs9 cs dn S C B Q K r1 l1 (by exact hR) (by assumption) (by exact hr1) (by exact hl1)) dX9_from_30 rfl (by decide) rfl rfl rfl (Nat.le_of_ble_eq_true rfl) ⟨Nat.le_of_ble_eq_true rfl, Nat.le_of_ble_eq_true rfl⟩ rfl rfl ⟨Nat.le_of_ble_eq_true rfl, Nat.le_of_ble_eq_true rfl⟩ 0 rfl rfl gX9_from_X9_findWay (by decide +kernel) (fun r u hp => by obtain ⟨_, _, _, -, -, rfl⟩ := hp; rfl) ?_
        rintro r_30 u_30 ⟨B2_30, Q2_30, K2_30, hW_30, rfl, rfl⟩
        refine g_ws (w2 := [ob 9 q [.ref (r 0), .ref (r 1), .ref (r 2), .int (nI rc), .ref (r 3), .int (nI tl), .ref (r 4), .ref (r 5), .ref (r 6), .ref (r 7), .ref (r 8), .ref (r 9), .ref (r 10), .ref (r 11), .ref (r 12), .int (nI at9), .int (lf9), .int (pl9), .int (vl9), .int (nI fa), .int (nI rs9), .int (cs), .int (nI dn)], ai E (r 0) 892 S, ai E (r 4) 3 B2_30, ai E (r 5) 3 Q2_30, ax E (r 6) 3 K2_30]) rfl ?_
        refine g_pop F dX9_from_33 rfl ?_
        refine g_aload_n F 0 dX9_from_34 rfl rfl ?_
        refine g_get F 0 8 dX9_from_35 rfl rfl (by decide) (by decide +kernel) (by decide +kernel) rfl ?_
        refine g_iload_n F 3 dX9_from_38 rfl rfl ?_
        refine g_xald F 4 dX9_from_39 rfl (by omega) (by decide) ?_
        have hm1 := hW_30.m1 (v := p1) (by omega)
        refine g_iconst (v := (-1)) F dX9_from_40 (by decide) ?_
        refine g_icmp_ne (tgt := 49) F dX9_from_41 (by decide) (fun c41 => ?_) (fun c41 => ?_)
        · skip
          refine g_aload_n F 0 dX9_from_49 rfl rfl ?_
          refine g_get F 0 8 dX9_from_50 rfl rfl (by decide) (by decide +kernel) (by decide +kernel) rfl ?_
          refine g_iload_n F 3 dX9_from_53 rfl rfl ?_
          refine g_xald F 4 dX9_from_54 rfl (by omega) (by decide) ?_
          exact hret _ _ _ _ dX9_from_55 ⟨B2_30, Q2_30, K2_30, (by unfold p_from; rw [cI_pos ⟨(rng_nI (by omega) (by omega)).mpr hr1, (rng_nI (by decide) (by omega)).mpr hl1, (rng_nI (by decide) (by omega)).mpr hp1⟩, dv_nI (by omega), dv_nI (by omega), dv_nI (by omega)]; have hg : p1 ≤ glC C r1 l1 := Nat.not_lt.mp (fun z => c41 (hm1.mpr z)); rw [if_pos hg, ((hW_30 p1 (by omega)).1 hg).2.2]), (by rfl)⟩
        · skip
          refine g_ldc (v := (-1000004)) F dX9_from_44 (by decide +kernel) ?_
          refine g_goto (tgt := 55) F dX9_from_46 (by decide) ?_
          exact hret _ _ _ _ dX9_from_55 ⟨B2_30, Q2_30, K2_30, (by unfold p_from; rw [cI_pos ⟨(rng_nI (by omega) (by omega)).mpr hr1, (rng_nI (by decide) (by omega)).mpr hl1, (rng_nI (by decide) (by omega)).mpr hp1⟩, dv_nI (by omega), dv_nI (by omega), dv_nI (by omega)]; rw [if_neg (Nat.not_le.mpr (hm1.mp c41))]), (by rfl)⟩
      · skip
        refine g_ldc (v := (-1000001)) F dX9_from_24 (by decide +kernel) ?_
        exact hret _ _ _ _ dX9_from_26 ⟨B, Q, K, (by unfold p_from; rw [cI_neg (fun h => by first | exact c5 h.1 | exact c12 h.2.1 | exact c21 h.2.2)]), (by rfl)⟩
set_option maxHeartbeats 4000000 in
set_option maxRecDepth 100000 in
theorem c_X9_way (l : Launch) (E : En) (q : Nat) (r : Nat → Nat) (rc : Nat) (tl : Nat) (at9 : Nat) (lf9 : Int32) (pl9 : Int32) (vl9 : Int32) (fa : Nat) (rs9 : Nat) (cs : Int32) (dn : Nat) (S : Nat → Nat) (C : CS) (B : Nat → Nat) (Q : Nat → Nat) (K : Nat → Int32) (x1 : Int32) (x2 : Int32) (x3 : Int32) (x4 : Int32) (hR : Rel S C) (hI : IC C) : CtI l yX9_way wsX9_way ({ frames := 4, cells := 0, slots := 0, locals := 92 } : Room) E [.ref q, .int (x1), .int (x2), .int (x3), .int (x4)] [ob 9 q [.ref (r 0), .ref (r 1), .ref (r 2), .int (nI rc), .ref (r 3), .int (nI tl), .ref (r 4), .ref (r 5), .ref (r 6), .ref (r 7), .ref (r 8), .ref (r 9), .ref (r 10), .ref (r 11), .ref (r 12), .int (nI at9), .int (lf9), .int (pl9), .int (vl9), .int (nI fa), .int (nI rs9), .int (cs), .int (nI dn)], ai E (r 0) 892 S, ai E (r 4) 3 B, ai E (r 5) 3 Q, ax E (r 6) 3 K] (fun rr uu => ∃ (B2 : Nat → Nat), ∃ (Q2 : Nat → Nat), ∃ (K2 : Nat → Int32), rr = (p_way C x1 x2 x3 x4) ∧ uu = [ob 9 q [.ref (r 0), .ref (r 1), .ref (r 2), .int (nI rc), .ref (r 3), .int (nI tl), .ref (r 4), .ref (r 5), .ref (r 6), .ref (r 7), .ref (r 8), .ref (r 9), .ref (r 10), .ref (r 11), .ref (r 12), .int (nI at9), .int (lf9), .int (pl9), .int (vl9), .int (nI fa), .int (nI rs9), .int (cs), .int (nI dn)], ai E (r 0) 892 S, ai E (r 4) 3 B2, ai E (r 5) 3 Q2, ax E (r 6) 3 K2]) := by
  refine CtI.of cX9_way 5 RX9 .int rfl (by decide) rfl (Or.inl rfl) (Nat.le_of_ble_eq_true rfl) (fun h => by cases h) ?_
  intro Γ F hret
  show G Γ E 0 0 0 [(0, .ref q), (1, .int (x1)), (2, .int (x2)), (3, .int (x3)), (4, .int (x4))] [] [ob 9 q [.ref (r 0), .ref (r 1), .ref (r 2), .int (nI rc), .ref (r 3), .int (nI tl), .ref (r 4), .ref (r 5), .ref (r 6), .ref (r 7), .ref (r 8), .ref (r 9), .ref (r 10), .ref (r 11), .ref (r 12), .int (nI at9), .int (lf9), .int (pl9), .int (vl9), .int (nI fa), .int (nI rs9), .int (cs), .int (nI dn)], ai E (r 0) 892 S, ai E (r 4) 3 B, ai E (r 5) 3 Q, ax E (r 6) 3 K]
  refine g_aload_n F 0 dX9_way_0 rfl rfl ?_
  refine g_iload_n F 1 dX9_way_1 rfl rfl ?_
  refine g_callViR (n := 1) F [0, 1] (c_X9_isRoot l E q r rc tl at9 lf9 pl9 vl9 fa rs9 cs dn S C x1 (by assumption) (by assumption)) dX9_way_2 rfl (by decide) rfl rfl rfl (Nat.le_of_ble_eq_true rfl) ⟨Nat.le_of_ble_eq_true rfl, Nat.le_of_ble_eq_true rfl⟩ rfl rfl ⟨Nat.le_of_ble_eq_true rfl, Nat.le_of_ble_eq_true rfl⟩ 0 rfl rfl gX9_way_X9_isRoot (by decide +kernel) (fun r u hp => by obtain ⟨-, h⟩ := hp; exact h) ?_
  rintro r_2 u_2 ⟨rfl, -⟩
  refine g_if_eqB (tgt := 34) F dX9_way_5 (by decide) (fun c5 => ?_) (fun c5 => ?_)
  · skip
    refine g_ldc (v := (-1000001)) F dX9_way_34 (by decide +kernel) ?_
    exact hret _ _ _ _ dX9_way_36 ⟨B, Q, K, (by unfold p_way; rw [cI_neg (fun h => by first | exact c5 h.1 | exact c12 h.2.1 | exact c21 h.2.2.1 | exact c31 h.2.2.2)]), (by rfl)⟩
  · skip
    obtain ⟨r1, hr1, rfl⟩ := rng_of (by have := hI.2.2.2.1; omega) (c5)
    refine g_iload_n F 2 dX9_way_8 rfl rfl ?_
    refine g_callSiR (n := 1) F [] (c_X9_isLeaf l E x2 ) dX9_way_9 rfl (by decide) rfl rfl rfl (Nat.le_of_ble_eq_true rfl) ⟨Nat.le_of_ble_eq_true rfl, Nat.le_of_ble_eq_true rfl⟩ rfl rfl ⟨Nat.le_of_ble_eq_true rfl, Nat.le_of_ble_eq_true rfl⟩ ggX9_way_X9_isLeaf (by decide +kernel) (by decide +kernel) (by decide +kernel) (by decide +kernel) (fun r u hp => by obtain ⟨-, h⟩ := hp; exact h) ?_
    rintro r_9 u_9 ⟨rfl, -⟩
    refine g_if_eqB (tgt := 34) F dX9_way_12 (by decide) (fun c12 => ?_) (fun c12 => ?_)
    · skip
      refine g_ldc (v := (-1000001)) F dX9_way_34 (by decide +kernel) ?_
      exact hret _ _ _ _ dX9_way_36 ⟨B, Q, K, (by unfold p_way; rw [cI_neg (fun h => by first | exact c5 h.1 | exact c12 h.2.1 | exact c21 h.2.2.1 | exact c31 h.2.2.2)]), (by rfl)⟩
    · skip
      obtain ⟨l1, hl1, rfl⟩ := rng_of (by first | decide | omega) (c12)
      refine g_iload_n F 3 dX9_way_15 rfl rfl ?_
      refine g_iconst (v := nI 0) F dX9_way_16 (by decide) ?_
      refine g_iconst (v := nI 2) F dX9_way_17 (by decide) ?_
      refine g_callSiR (n := 3) F [] (c_X9_within_x l E x3 2 (by omega)) dX9_way_18 rfl (by decide) rfl rfl rfl (Nat.le_of_ble_eq_true rfl) ⟨Nat.le_of_ble_eq_true rfl, Nat.le_of_ble_eq_true rfl⟩ rfl rfl ⟨Nat.le_of_ble_eq_true rfl, Nat.le_of_ble_eq_true rfl⟩ ggX9_way_X9_within (by decide +kernel) (by decide +kernel) (by decide +kernel) (by decide +kernel) (fun r u hp => by obtain ⟨-, h⟩ := hp; exact h) ?_
      rintro r_18 u_18 ⟨rfl, -⟩
      refine g_if_eqB (tgt := 34) F dX9_way_21 (by decide) (fun c21 => ?_) (fun c21 => ?_)
      · skip
        refine g_ldc (v := (-1000001)) F dX9_way_34 (by decide +kernel) ?_
        exact hret _ _ _ _ dX9_way_36 ⟨B, Q, K, (by unfold p_way; rw [cI_neg (fun h => by first | exact c5 h.1 | exact c12 h.2.1 | exact c21 h.2.2.1 | exact c31 h.2.2.2)]), (by rfl)⟩
      · skip
        obtain ⟨p1, hp1, rfl⟩ := rng_of (by first | decide | omega) (c21)
        refine g_iload F 4 dX9_way_24 rfl ?_
        refine g_iconst (v := nI 0) F dX9_way_26 (by decide) ?_
        refine g_iconst (v := nI 1) F dX9_way_27 (by decide) ?_
        refine g_callSiR (n := 3) F [] (c_X9_within_x l E x4 1 (by omega)) dX9_way_28 rfl (by decide) rfl rfl rfl (Nat.le_of_ble_eq_true rfl) ⟨Nat.le_of_ble_eq_true rfl, Nat.le_of_ble_eq_true rfl⟩ rfl rfl ⟨Nat.le_of_ble_eq_true rfl, Nat.le_of_ble_eq_true rfl⟩ ggX9_way_X9_within (by decide +kernel) (by decide +kernel) (by decide +kernel) (by decide +kernel) (fun r u hp => by obtain ⟨-, h⟩ := hp; exact h) ?_
        rintro r_28 u_28 ⟨rfl, -⟩
        refine g_if_neB (tgt := 37) F dX9_way_31 (by decide) (fun c31 => ?_) (fun c31 => ?_)
        · skip
          obtain ⟨u1, hu1, rfl⟩ := rng_of (by first | decide | omega) (c31)
          have hz8 := hI.2.2.2.1
          refine g_aload_n F 0 dX9_way_37 rfl rfl ?_
          refine g_iload_n F 1 dX9_way_38 rfl rfl ?_
          refine g_iload_n F 2 dX9_way_39 rfl rfl ?_
          refine g_callViW (n := 2) F [0, 1, 2, 3, 4] (c_X9_findWay l E q r rc tl at9 lf9 pl9 vl9 fa rs9 cs dn S C B Q K r1 l1 (by exact hR) (by assumption) (by exact hr1) (by exact hl1)) dX9_way_40 rfl (by decide) rfl rfl rfl (Nat.le_of_ble_eq_true rfl) ⟨Nat.le_of_ble_eq_true rfl, Nat.le_of_ble_eq_true rfl⟩ rfl rfl ⟨Nat.le_of_ble_eq_true rfl, Nat.le_of_ble_eq_true rfl⟩ 0 rfl rfl gX9_way_X9_findWay (by decide +kernel) (fun r u hp => by obtain ⟨_, _, _, -, -, rfl⟩ := hp; rfl) ?_
          rintro r_40 u_40 ⟨B2_40, Q2_40, K2_40, hW_40, rfl, rfl⟩
          refine g_ws (w2 := [ob 9 q [.ref (r 0), .ref (r 1), .ref (r 2), .int (nI rc), .ref (r 3), .int (nI tl), .ref (r 4), .ref (r 5), .ref (r 6), .ref (r 7), .ref (r 8), .ref (r 9), .ref (r 10), .ref (r 11), .ref (r 12), .int (nI at9), .int (lf9), .int (pl9), .int (vl9), .int (nI fa), .int (nI rs9), .int (cs), .int (nI dn)], ai E (r 0) 892 S, ai E (r 4) 3 B2_40, ai E (r 5) 3 Q2_40, ax E (r 6) 3 K2_40]) rfl ?_
          refine g_pop F dX9_way_43 rfl ?_
          refine g_aload_n F 0 dX9_way_44 rfl rfl ?_
          refine g_get F 0 8 dX9_way_45 rfl rfl (by decide) (by decide +kernel) (by decide +kernel) rfl ?_
          refine g_iload_n F 3 dX9_way_48 rfl rfl ?_
          refine g_xald F 4 dX9_way_49 rfl (by omega) (by decide) ?_
          have hm1 := hW_40.m1 (v := p1) (by omega)
          refine g_iconst (v := (-1)) F dX9_way_50 (by decide) ?_
          refine g_icmp_ne (tgt := 59) F dX9_way_51 (by decide) (fun c51 => ?_) (fun c51 => ?_)
          · skip
            have hg : p1 ≤ glC C r1 l1 := Nat.not_lt.mp (fun z => c51 (hm1.mpr z))
            have hw9 := (hW_40 p1 (by omega)).1 hg
            refine g_iload F 4 dX9_way_59 rfl ?_
            refine g_if_neN (tgt := 73) F dX9_way_61 (by decide) (by omega) (fun c61 => ?_) (fun c61 => ?_)
            · skip
              refine g_aload_n F 0 dX9_way_73 rfl rfl ?_
              refine g_get F 0 7 dX9_way_74 rfl rfl (by decide) (by decide +kernel) (by decide +kernel) rfl ?_
              refine g_iload_n F 3 dX9_way_77 rfl rfl ?_
              refine g_iald F 3 dX9_way_78 rfl (by omega) (by decide) ?_
              exact hret _ _ _ _ dX9_way_79 ⟨B2_40, Q2_40, K2_40, (by unfold p_way; rw [cI_pos ⟨(rng_nI (by omega) (by omega)).mpr hr1, (rng_nI (by decide) (by omega)).mpr hl1, (rng_nI (by decide) (by omega)).mpr hp1, (rng_nI (by decide) (by omega)).mpr hu1⟩, dv_nI (by omega), dv_nI (by omega), dv_nI (by omega), dv_nI (by omega)]; rw [if_pos hg, if_neg c61, hw9.2.1]), (by rfl)⟩
            · skip
              refine g_aload_n F 0 dX9_way_64 rfl rfl ?_
              refine g_get F 0 6 dX9_way_65 rfl rfl (by decide) (by decide +kernel) (by decide +kernel) rfl ?_
              refine g_iload_n F 3 dX9_way_68 rfl rfl ?_
              refine g_iald F 2 dX9_way_69 rfl (by omega) (by decide) ?_
              refine g_top (nI (B2_40 p1)) (nI (wBC C r1 l1 p1)) (by rw [hw9.1]) ?_
              refine g_goto (tgt := 79) F dX9_way_70 (by decide) ?_
              exact hret _ _ _ _ dX9_way_79 ⟨B2_40, Q2_40, K2_40, (by unfold p_way; rw [cI_pos ⟨(rng_nI (by omega) (by omega)).mpr hr1, (rng_nI (by decide) (by omega)).mpr hl1, (rng_nI (by decide) (by omega)).mpr hp1, (rng_nI (by decide) (by omega)).mpr hu1⟩, dv_nI (by omega), dv_nI (by omega), dv_nI (by omega), dv_nI (by omega)]; rw [if_pos hg, if_pos c61]), (by rfl)⟩
          · skip
            refine g_ldc (v := (-1000004)) F dX9_way_54 (by decide +kernel) ?_
            refine g_goto (tgt := 79) F dX9_way_56 (by decide) ?_
            exact hret _ _ _ _ dX9_way_79 ⟨B2_40, Q2_40, K2_40, (by unfold p_way; rw [cI_pos ⟨(rng_nI (by omega) (by omega)).mpr hr1, (rng_nI (by decide) (by omega)).mpr hl1, (rng_nI (by decide) (by omega)).mpr hp1, (rng_nI (by decide) (by omega)).mpr hu1⟩, dv_nI (by omega), dv_nI (by omega), dv_nI (by omega), dv_nI (by omega)]; rw [if_neg (Nat.not_le.mpr (hm1.mp c51))]), (by rfl)⟩
        · skip
          refine g_ldc (v := (-1000001)) F dX9_way_34 (by decide +kernel) ?_
          exact hret _ _ _ _ dX9_way_36 ⟨B, Q, K, (by unfold p_way; rw [cI_neg (fun h => by first | exact c5 h.1 | exact c12 h.2.1 | exact c21 h.2.2.1 | exact c31 h.2.2.2)]), (by rfl)⟩
set_option maxHeartbeats 4000000 in
set_option maxRecDepth 100000 in
theorem c_X9_content (l : Launch) (E : En) (q : Nat) (r : Nat → Nat) (rc : Nat) (tl : Nat) (at9 : Nat) (lf9 : Int32) (pl9 : Int32) (vl9 : Int32) (fa : Nat) (rs9 : Nat) (cs : Int32) (dn : Nat) (S : Nat → Nat) (C : CS) (x1 : Int32) (x2 : Int32) (x3 : Int32) (hR : Rel S C) (hI : IC C) : CtI l yX9_content wsX9_content ({ frames := 2, cells := 0, slots := 0, locals := 45 } : Room) E [.ref q, .int (x1), .int (x2), .int (x3)] [ob 9 q [.ref (r 0), .ref (r 1), .ref (r 2), .int (nI rc), .ref (r 3), .int (nI tl), .ref (r 4), .ref (r 5), .ref (r 6), .ref (r 7), .ref (r 8), .ref (r 9), .ref (r 10), .ref (r 11), .ref (r 12), .int (nI at9), .int (lf9), .int (pl9), .int (vl9), .int (nI fa), .int (nI rs9), .int (cs), .int (nI dn)], ai E (r 0) 892 S] (fun rr uu => rr = (p_content C x1 x2 x3) ∧ uu = [ob 9 q [.ref (r 0), .ref (r 1), .ref (r 2), .int (nI rc), .ref (r 3), .int (nI tl), .ref (r 4), .ref (r 5), .ref (r 6), .ref (r 7), .ref (r 8), .ref (r 9), .ref (r 10), .ref (r 11), .ref (r 12), .int (nI at9), .int (lf9), .int (pl9), .int (vl9), .int (nI fa), .int (nI rs9), .int (cs), .int (nI dn)], ai E (r 0) 892 S]) := by
  refine CtI.of cX9_content 4 RX9 .int rfl (by decide) rfl (Or.inl rfl) (Nat.le_of_ble_eq_true rfl) (fun h => by cases h) ?_
  intro Γ F hret
  show G Γ E 0 0 0 [(0, .ref q), (1, .int (x1)), (2, .int (x2)), (3, .int (x3))] [] [ob 9 q [.ref (r 0), .ref (r 1), .ref (r 2), .int (nI rc), .ref (r 3), .int (nI tl), .ref (r 4), .ref (r 5), .ref (r 6), .ref (r 7), .ref (r 8), .ref (r 9), .ref (r 10), .ref (r 11), .ref (r 12), .int (nI at9), .int (lf9), .int (pl9), .int (vl9), .int (nI fa), .int (nI rs9), .int (cs), .int (nI dn)], ai E (r 0) 892 S]
  refine g_iload_n F 1 dX9_content_0 rfl rfl ?_
  refine g_iload_n F 2 dX9_content_1 rfl rfl ?_
  refine g_iload_n F 3 dX9_content_2 rfl rfl ?_
  refine g_iconst (v := nI 4) F dX9_content_3 (by decide) ?_
  refine g_callSiR (n := 4) F [] (c_X9_isPlace l E x1 x2 x3 4 (by omega)) dX9_content_4 rfl (by decide) rfl rfl rfl (Nat.le_of_ble_eq_true rfl) ⟨Nat.le_of_ble_eq_true rfl, Nat.le_of_ble_eq_true rfl⟩ rfl rfl ⟨Nat.le_of_ble_eq_true rfl, Nat.le_of_ble_eq_true rfl⟩ ggX9_content_X9_isPlace (by decide +kernel) (by decide +kernel) (by decide +kernel) (by decide +kernel) (fun r u hp => by obtain ⟨-, h⟩ := hp; exact h) ?_
  rintro r_4 u_4 ⟨rfl, -⟩
  refine g_if_neB (tgt := 13) F dX9_content_7 (by decide) (fun c7 => ?_) (fun c7 => ?_)
  · skip
    obtain ⟨b1, hb1, rfl⟩ := rng_of (by decide) c7.1
    obtain ⟨q1, hq1, rfl⟩ := rng_of (by decide) c7.2.1
    obtain ⟨k1, hk1, rfl⟩ := rng_of (by decide) c7.2.2
    refine g_iload_n F 3 dX9_content_13 rfl rfl ?_
    refine g_iconst (v := nI 4) F dX9_content_14 (by decide) ?_
    refine g_icmp_neN (tgt := 27) F dX9_content_15 (by decide) (by omega) (by omega) (fun c15 => ?_) (fun c15 => ?_)
    · skip
      refine g_aload_n F 0 dX9_content_27 rfl rfl ?_
      refine g_iload_n F 2 dX9_content_28 rfl rfl ?_
      refine g_iload_n F 1 dX9_content_29 rfl rfl ?_
      refine g_iload_n F 3 dX9_content_30 rfl rfl ?_
      refine g_callViR (n := 3) F [0, 1] (c_X9_contentOf l E q r rc tl at9 lf9 pl9 vl9 fa rs9 cs dn S C q1 b1 k1 (by assumption) (by omega) (by omega) (by omega)) dX9_content_31 rfl (by decide) rfl rfl rfl (Nat.le_of_ble_eq_true rfl) ⟨Nat.le_of_ble_eq_true rfl, Nat.le_of_ble_eq_true rfl⟩ rfl rfl ⟨Nat.le_of_ble_eq_true rfl, Nat.le_of_ble_eq_true rfl⟩ 0 rfl rfl gX9_content_X9_contentOf (by decide +kernel) (fun r u hp => by obtain ⟨-, h⟩ := hp; exact h) ?_
      rintro r_31 u_31 ⟨rfl, -⟩
      exact hret _ _ _ _ dX9_content_34 ⟨(by unfold p_content; rw [cI_pos ⟨(rng_nI (by decide) (by omega)).mpr hb1, (rng_nI (by decide) (by omega)).mpr hq1, (rng_nI (by decide) (by omega)).mpr hk1⟩, dv_nI (by omega), dv_nI (by omega), dv_nI (by omega)]; first | rw [if_pos c15] | rw [if_neg c15]), rfl⟩
    · skip
      refine g_aload_n F 0 dX9_content_18 rfl rfl ?_
      refine g_iload_n F 2 dX9_content_19 rfl rfl ?_
      refine g_iload_n F 1 dX9_content_20 rfl rfl ?_
      refine g_callViR (n := 2) F [0, 1] (c_X9_sumOf l E q r rc tl at9 lf9 pl9 vl9 fa rs9 cs dn S C q1 b1 (by assumption) (by assumption) (by omega) (by omega)) dX9_content_21 rfl (by decide) rfl rfl rfl (Nat.le_of_ble_eq_true rfl) ⟨Nat.le_of_ble_eq_true rfl, Nat.le_of_ble_eq_true rfl⟩ rfl rfl ⟨Nat.le_of_ble_eq_true rfl, Nat.le_of_ble_eq_true rfl⟩ 0 rfl rfl gX9_content_X9_sumOf (by decide +kernel) (fun r u hp => by obtain ⟨-, h⟩ := hp; exact h) ?_
      rintro r_21 u_21 ⟨rfl, -⟩
      refine g_goto (tgt := 34) F dX9_content_24 (by decide) ?_
      exact hret _ _ _ _ dX9_content_34 ⟨(by unfold p_content; rw [cI_pos ⟨(rng_nI (by decide) (by omega)).mpr hb1, (rng_nI (by decide) (by omega)).mpr hq1, (rng_nI (by decide) (by omega)).mpr hk1⟩, dv_nI (by omega), dv_nI (by omega), dv_nI (by omega)]; first | rw [if_pos c15] | rw [if_neg c15]), rfl⟩
  · skip
    refine g_ldc (v := (-1000001)) F dX9_content_10 (by decide +kernel) ?_
    exact hret _ _ _ _ dX9_content_12 ⟨(by unfold p_content; rw [cI_neg c7]), rfl⟩
set_option maxHeartbeats 4000000 in
set_option maxRecDepth 100000 in
theorem c_X9_mend (l : Launch) (E : En) (q : Nat) (r : Nat → Nat) (rc : Nat) (tl : Nat) (at9 : Nat) (lf9 : Int32) (pl9 : Int32) (vl9 : Int32) (fa : Nat) (rs9 : Nat) (cs : Int32) (dn : Nat) (S : Nat → Nat) (C : CS) (B : Nat → Nat) (Q : Nat → Nat) (K : Nat → Int32) (F0 : Nat → Nat) (HH : Nat → Nat) (H : Nat → CS) (x1 : Int32) (x2 : Int32) (hR : Rel S C) (hI : IC C) (hRH : RelH HH H rc) (hrc : rc ≤ 3) : CtI l yX9_mend wsX9_mend ({ frames := 5, cells := 0, slots := 0, locals := 116 } : Room) E [.ref q, .int (x1), .int (x2)] [ob 9 q [.ref (r 0), .ref (r 1), .ref (r 2), .int (nI rc), .ref (r 3), .int (nI tl), .ref (r 4), .ref (r 5), .ref (r 6), .ref (r 7), .ref (r 8), .ref (r 9), .ref (r 10), .ref (r 11), .ref (r 12), .int (nI at9), .int (lf9), .int (pl9), .int (vl9), .int (nI fa), .int (nI rs9), .int (cs), .int (nI dn)], ai E (r 0) 892 S, ai E (r 4) 3 B, ai E (r 5) 3 Q, ax E (r 6) 3 K, ai E (r 7) 12 F0, ai E (r 2) 2676 HH] (fun rr uu => ∃ (S2 : Nat → Nat), ∃ (B2 : Nat → Nat), ∃ (Q2 : Nat → Nat), ∃ (K2 : Nat → Int32), ∃ (F2 : Nat → Nat), ∃ (H2 : Nat → Nat), (Rel S2 (cI (rng x1 (sZ C) ∧ rng x2 16) (nS C (mdX (sN C) (sb C) (ss C) (dv x1) (dv x2)).2) C)) ∧ (RelH H2 (cI (rng x1 (sZ C) ∧ rng x2 16) (rcH C H rc) H) (cI (rng x1 (sZ C) ∧ rng x2 16) (rcn rc) rc)) ∧ rr = (p_mend C x1 x2) ∧ uu = [ob 9 q [.ref (r 0), .ref (r 1), .ref (r 2), .int (nI (cI (rng x1 (sZ C) ∧ rng x2 16) (rcn rc) rc)), .ref (r 3), .int (nI tl), .ref (r 4), .ref (r 5), .ref (r 6), .ref (r 7), .ref (r 8), .ref (r 9), .ref (r 10), .ref (r 11), .ref (r 12), .int (nI at9), .int (lf9), .int (pl9), .int (vl9), .int (nI fa), .int (nI rs9), .int (cs), .int (nI dn)], ai E (r 0) 892 S2, ai E (r 4) 3 B2, ai E (r 5) 3 Q2, ax E (r 6) 3 K2, ai E (r 7) 12 F2, ai E (r 2) 2676 H2]) := by
  refine CtI.of cX9_mend 3 RX9 .int rfl (by decide) rfl (Or.inl rfl) (Nat.le_of_ble_eq_true rfl) (fun h => by cases h) ?_
  intro Γ F hret
  show G Γ E 0 0 0 [(0, .ref q), (1, .int (x1)), (2, .int (x2))] [] [ob 9 q [.ref (r 0), .ref (r 1), .ref (r 2), .int (nI rc), .ref (r 3), .int (nI tl), .ref (r 4), .ref (r 5), .ref (r 6), .ref (r 7), .ref (r 8), .ref (r 9), .ref (r 10), .ref (r 11), .ref (r 12), .int (nI at9), .int (lf9), .int (pl9), .int (vl9), .int (nI fa), .int (nI rs9), .int (cs), .int (nI dn)], ai E (r 0) 892 S, ai E (r 4) 3 B, ai E (r 5) 3 Q, ax E (r 6) 3 K, ai E (r 7) 12 F0, ai E (r 2) 2676 HH]
  refine g_aload_n F 0 dX9_mend_0 rfl rfl ?_
  refine g_iload_n F 1 dX9_mend_1 rfl rfl ?_
  refine g_callViR (n := 1) F [0, 1] (c_X9_isRoot l E q r rc tl at9 lf9 pl9 vl9 fa rs9 cs dn S C x1 (by assumption) (by assumption)) dX9_mend_2 rfl (by decide) rfl rfl rfl (Nat.le_of_ble_eq_true rfl) ⟨Nat.le_of_ble_eq_true rfl, Nat.le_of_ble_eq_true rfl⟩ rfl rfl ⟨Nat.le_of_ble_eq_true rfl, Nat.le_of_ble_eq_true rfl⟩ 0 rfl rfl gX9_mend_X9_isRoot (by decide +kernel) (fun r u hp => by obtain ⟨-, h⟩ := hp; exact h) ?_
  rintro r_2 u_2 ⟨rfl, -⟩
  refine g_if_eqB (tgt := 15) F dX9_mend_5 (by decide) (fun c5 => ?_) (fun c5 => ?_)
  · skip
    refine g_ldc (v := (-1000001)) F dX9_mend_15 (by decide +kernel) ?_
    exact hret _ _ _ _ dX9_mend_17 ⟨S, B, Q, K, F0, HH, (by rw [cI_neg (fun h => by first | exact c5 h.1 | exact c12 h.2)]; exact hR), (by rw [cI_neg (fun h => by first | exact c5 h.1 | exact c12 h.2), cI_neg (fun h => by first | exact c5 h.1 | exact c12 h.2)]; exact hRH), (by unfold p_mend; rw [cI_neg (fun h => by first | exact c5 h.1 | exact c12 h.2)]), (by first | (rw [cI_neg (fun h => by first | exact c5 h.1 | exact c12 h.2)]; done) | (rw [cI_neg (fun h => by first | exact c5 h.1 | exact c12 h.2)]; rfl))⟩
  · skip
    obtain ⟨r1, hr1, rfl⟩ := rng_of (by have := hI.2.2.2.1; omega) (c5)
    refine g_iload_n F 2 dX9_mend_8 rfl rfl ?_
    refine g_callSiR (n := 1) F [] (c_X9_isLeaf l E x2 ) dX9_mend_9 rfl (by decide) rfl rfl rfl (Nat.le_of_ble_eq_true rfl) ⟨Nat.le_of_ble_eq_true rfl, Nat.le_of_ble_eq_true rfl⟩ rfl rfl ⟨Nat.le_of_ble_eq_true rfl, Nat.le_of_ble_eq_true rfl⟩ ggX9_mend_X9_isLeaf (by decide +kernel) (by decide +kernel) (by decide +kernel) (by decide +kernel) (fun r u hp => by obtain ⟨-, h⟩ := hp; exact h) ?_
    rintro r_9 u_9 ⟨rfl, -⟩
    refine g_if_neB (tgt := 18) F dX9_mend_12 (by decide) (fun c12 => ?_) (fun c12 => ?_)
    · skip
      obtain ⟨l1, hl1, rfl⟩ := rng_of (by first | decide | omega) (c12)
      have hz8 := hI.2.2.2.1
      have hP : rng (nI r1) (sZ C) ∧ rng (nI l1) 16 := ⟨(rng_nI (by omega) (by omega)).mpr hr1, (rng_nI (by decide) (by omega)).mpr hl1⟩
      refine g_aload_n F 0 dX9_mend_18 rfl rfl ?_
      refine g_callVvW (n := 0) F [0, 1, 6] (c_X9_record l E q r rc tl at9 lf9 pl9 vl9 fa rs9 cs dn S C HH H (by assumption) (by assumption) (by assumption) (by omega)) dX9_mend_19 rfl (by decide) rfl rfl rfl (Nat.le_of_ble_eq_true rfl) ⟨Nat.le_of_ble_eq_true rfl, Nat.le_of_ble_eq_true rfl⟩ rfl rfl ⟨Nat.le_of_ble_eq_true rfl, Nat.le_of_ble_eq_true rfl⟩ 0 rfl rfl gX9_mend_X9_record (by decide +kernel) (fun u hp => by obtain ⟨_, -, rfl⟩ := hp; rfl) ?_
      rintro u_19 ⟨H2_19, hRH2_19, rfl⟩
      refine g_ws (w2 := [ob 9 q [.ref (r 0), .ref (r 1), .ref (r 2), .int (nI (rcn rc)), .ref (r 3), .int (nI tl), .ref (r 4), .ref (r 5), .ref (r 6), .ref (r 7), .ref (r 8), .ref (r 9), .ref (r 10), .ref (r 11), .ref (r 12), .int (nI at9), .int (lf9), .int (pl9), .int (vl9), .int (nI fa), .int (nI rs9), .int (cs), .int (nI dn)], ai E (r 0) 892 S, ai E (r 4) 3 B, ai E (r 5) 3 Q, ax E (r 6) 3 K, ai E (r 7) 12 F0, ai E (r 2) 2676 H2_19]) rfl ?_
      refine g_aload_n F 0 dX9_mend_22 rfl rfl ?_
      refine g_iload_n F 1 dX9_mend_23 rfl rfl ?_
      refine g_iload_n F 2 dX9_mend_24 rfl rfl ?_
      refine g_callViW (n := 2) F [0, 1, 2, 3, 4, 5] (c_X9_mendWay l E q r (rcn rc) tl at9 lf9 pl9 vl9 fa rs9 cs dn S C B Q K F0 r1 l1 (by exact hR) (by assumption) (by exact hr1) (by exact hl1)) dX9_mend_25 rfl (by decide) rfl rfl rfl (Nat.le_of_ble_eq_true rfl) ⟨Nat.le_of_ble_eq_true rfl, Nat.le_of_ble_eq_true rfl⟩ rfl rfl ⟨Nat.le_of_ble_eq_true rfl, Nat.le_of_ble_eq_true rfl⟩ 0 rfl rfl gX9_mend_X9_mendWay (by decide +kernel) (fun r u hp => by obtain ⟨_, _, _, _, _, -, -, rfl⟩ := hp; rfl) ?_
      rintro r_25 u_25 ⟨S2_25, B2_25, Q2_25, K2_25, F2_25, hR2_25, rfl, rfl⟩
      refine g_ws (w2 := [ob 9 q [.ref (r 0), .ref (r 1), .ref (r 2), .int (nI (rcn rc)), .ref (r 3), .int (nI tl), .ref (r 4), .ref (r 5), .ref (r 6), .ref (r 7), .ref (r 8), .ref (r 9), .ref (r 10), .ref (r 11), .ref (r 12), .int (nI at9), .int (lf9), .int (pl9), .int (vl9), .int (nI fa), .int (nI rs9), .int (cs), .int (nI dn)], ai E (r 0) 892 S2_25, ai E (r 4) 3 B2_25, ai E (r 5) 3 Q2_25, ax E (r 6) 3 K2_25, ai E (r 7) 12 F2_25, ai E (r 2) 2676 H2_19]) rfl ?_
      exact hret _ _ _ _ dX9_mend_28 ⟨S2_25, B2_25, Q2_25, K2_25, F2_25, H2_19, (by rw [cI_pos hP]; rw [dv_nI (by omega), dv_nI (by omega)]; exact hR2_25), (by rw [cI_pos hP, cI_pos hP]; exact hRH2_19), (by unfold p_mend; rw [cI_pos hP, dv_nI (by omega), dv_nI (by omega)]), (by first | (rw [cI_pos hP]; done) | (rw [cI_pos hP]; rfl))⟩
    · skip
      refine g_ldc (v := (-1000001)) F dX9_mend_15 (by decide +kernel) ?_
      exact hret _ _ _ _ dX9_mend_17 ⟨S, B, Q, K, F0, HH, (by rw [cI_neg (fun h => by first | exact c5 h.1 | exact c12 h.2)]; exact hR), (by rw [cI_neg (fun h => by first | exact c5 h.1 | exact c12 h.2), cI_neg (fun h => by first | exact c5 h.1 | exact c12 h.2)]; exact hRH), (by unfold p_mend; rw [cI_neg (fun h => by first | exact c5 h.1 | exact c12 h.2)]), (by first | (rw [cI_neg (fun h => by first | exact c5 h.1 | exact c12 h.2)]; done) | (rw [cI_neg (fun h => by first | exact c5 h.1 | exact c12 h.2)]; rfl))⟩
