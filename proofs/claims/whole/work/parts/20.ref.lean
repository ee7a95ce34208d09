/-! the reference over its own array: it tells the same state as the class -/
def Rel (S : Nat → Nat) (C : CS) : Prop := (∀ j : Nat, j < 768 → S j = sN C j) ∧ (∀ j : Nat, j < 96 → S (768 + j) = sU C j) ∧ S 864 = sZ C ∧ S 865 = sW C + 1 ∧ S 866 = sM C ∧ S 867 = sW C ∧ ∀ i : Nat, i < sZ C → S (868 + 3 * i) = sn C i ∧ S (868 + 3 * i + 1) = sb C i ∧ S (868 + 3 * i + 2) = ss C i
theorem Rel.nu {S : Nat → Nat} {C : CS} (h : Rel S C) {c b k : Nat} (hc : c < 2) (hb : b < 96) (hk : k < 4) : S (0 + 4 * (96 * c + b) + k) = nu (sN C) c b k := by
  show S _ = sN C _
  rw [show 0 + 4 * (96 * c + b) + k = (c * 96 + b) * 4 + k by omega]
  exact h.1 _ (by omega)
theorem Rel.put {S : Nat → Nat} {C : CS} (h : Rel S C) {c b k v : Nat} (hc : c < 2) (hb : b < 96) (hk : k < 4) : Rel (up S (0 + 4 * (96 * c + b) + k) v) (nS C (pn (sN C) c b k v)) := by
  have e : 0 + 4 * (96 * c + b) + k = (c * 96 + b) * 4 + k := by omega
  obtain ⟨h1, h2, h3, h4, h5, h6, h7⟩ := h
  refine ⟨fun j hj => ?_, fun j hj => ?_, ?_, ?_, ?_, ?_, fun i hi => ⟨?_, ?_, ?_⟩⟩
  · show up S _ v j = up (sN C) _ v j
    rw [e]
    by_cases z : j = (c * 96 + b) * 4 + k
    · rw [z, up_s, up_s]
    · rw [up_n S v z, up_n (sN C) v z]; exact h1 j hj
  · rw [up_n S v (by omega)]; exact h2 j hj
  · rw [up_n S v (by omega)]; exact h3
  · rw [up_n S v (by omega)]; exact h4
  · rw [up_n S v (by omega)]; exact h5
  · rw [up_n S v (by omega)]; exact h6
  · rw [up_n S v (by omega)]; exact (h7 i hi).1
  · rw [up_n S v (by omega)]; exact (h7 i hi).2.1
  · rw [up_n S v (by omega)]; exact (h7 i hi).2.2
theorem rng_w {x : Int32} {n : Nat} (hn : n + 1 < 2 ^ 31) : (¬ x < nI 0 ∧ ¬ nI n < x) ↔ rng x (n + 1) := by
  unfold rng
  have e0 : (nI 0 : Int32) = 0 := rfl
  rw [e0]
  constructor
  · intro ⟨h1, h2⟩
    refine ⟨h1, fun h3 => h2 ?_⟩
    rw [Int32.le_iff_toInt_le, nI_toInt hn] at h3
    rw [Int32.lt_iff_toInt_lt, nI_toInt (by omega)]
    omega
  · intro ⟨h1, h2⟩
    refine ⟨h1, fun h3 => h2 ?_⟩
    rw [Int32.lt_iff_toInt_lt, nI_toInt (by omega)] at h3
    rw [Int32.le_iff_toInt_le, nI_toInt hn]
    omega
theorem sm_nu (N : Nat → Nat) (c b : Nat) : (4 * (nu N c b 0) + 3 * (nu N c b 1) + 2 * (nu N c b 2) + (nu N c b 3) + 7) % 251 = sm N ((c * 96 + b) * 4) := rfl
/-- the first free block, seen from above: none is free below i .. -/
def fd (U : Nat → Nat) (i : Nat) (x : Int32) : Prop := (x = -1000004 ∧ ∀ k : Nat, i ≤ k → k < 96 → ¬ U k = 0) ∨ ∃ k : Nat, i ≤ k ∧ k < 96 ∧ x = nI k ∧ U k = 0 ∧ ∀ j : Nat, i ≤ j → j < k → ¬ U j = 0
theorem fd_a {U : Nat → Nat} {i : Nat} {x : Int32} (h : fd U (i + 1) x) (hi : i < 96) (hu : U i = 0) : fd U i (nI i) := Or.inr ⟨i, Nat.le_refl i, hi, rfl, hu, fun j h1 h2 => by omega⟩
theorem fd_b {U : Nat → Nat} {i : Nat} {x : Int32} (h : fd U (i + 1) x) (hu : ¬ U i = 0) : fd U i x := by
  rcases h with ⟨h1, h2⟩ | ⟨k, h1, h2, h3, h4, h5⟩
  · refine Or.inl ⟨h1, fun k hk hk2 => ?_⟩
    by_cases z : k = i
    · rw [z]; exact hu
    · exact h2 k (by omega) hk2
  · refine Or.inr ⟨k, by omega, h2, h3, h4, fun j hj hj2 => ?_⟩
    by_cases z : j = i
    · rw [z]; exact hu
    · exact h5 j (by omega) hj2
theorem fd_0 {U : Nat → Nat} {x : Int32} (h : fd U 0 x) : x = lof U := by
  rcases h with ⟨h1, h2⟩ | ⟨k, h1, h2, h3, h4, h5⟩
  · have e := ff_no U 96 (fun k hk => h2 k (Nat.zero_le k) hk)
    have e2 : lof U = -1000004 := if_neg (by omega)
    rw [h1, e2]
  · have e := ff_is U 96 h2 h4 (fun j hj => h5 j (Nat.zero_le j) hj)
    have e2 : lof U = nI (ff U 96) := if_pos (by omega)
    rw [h3, e2, e]
theorem m1_pred {k : Nat} (h : 0 < k) : nI k + (-1) = nI (k - 1) := by
  obtain ⟨b, rfl⟩ : ∃ b, k = b + 1 := ⟨k - 1, by omega⟩
  exact pk_m1 b
theorem m1_pos {k : Nat} (hk : k ≤ 96) (h : ¬ nI k + (-1) < 0) : 0 < k := by
  by_cases z : k = 0
  · subst z; exact absurd (by decide) h
  · omega
theorem m1_zero {k : Nat} (hk : k ≤ 96) (h : nI k + (-1) < 0) : k = 0 := by
  by_cases z : k = 0
  · exact z
  · rw [m1_pred (by omega)] at h; exact absurd h (nI_pos (by omega))
def uS (C : CS) (U : Nat → Nat) : CS := (sN C, U, sn C, sb C, ss C, sZ C, sM C, sW C)
theorem Rel.use {S : Nat → Nat} {C : CS} (h : Rel S C) {b v : Nat} (hb : b < 96) : Rel (up S (768 + b) v) (uS C (up (sU C) b v)) := by
  obtain ⟨h1, h2, h3, h4, h5, h6, h7⟩ := h
  refine ⟨fun j hj => ?_, fun j hj => ?_, ?_, ?_, ?_, ?_, fun i hi => ⟨?_, ?_, ?_⟩⟩
  · rw [up_n S v (by omega)]; exact h1 j hj
  · show up S (768 + b) v (768 + j) = up (sU C) b v j
    by_cases z : j = b
    · rw [z, up_s, up_s]
    · rw [up_n S v (by omega), up_n (sU C) v z]; exact h2 j hj
  · rw [up_n S v (by omega)]; exact h3
  · rw [up_n S v (by omega)]; exact h4
  · rw [up_n S v (by omega)]; exact h5
  · rw [up_n S v (by omega)]; exact h6
  · rw [up_n S v (by omega)]; exact (h7 i hi).1
  · rw [up_n S v (by omega)]; exact (h7 i hi).2.1
  · rw [up_n S v (by omega)]; exact (h7 i hi).2.2
/-- free blocks below i -/
theorem cn_fr (U : Nat → Nat) (i : Nat) (hU : U i ≤ 1) : (i + 1) - cn U (i + 1) = (i - cn U i) + (1 - U i) := by
  have := cn_le U i
  rw [cn_s]
  rcases (show U i = 0 ∨ U i = 1 by omega) with h | h <;> rw [h] <;> simp <;> omega
set_option maxHeartbeats 4000000 in
set_option maxRecDepth 100000 in
theorem c_X9_within (l : Launch) (E : En) (v : Nat) (lo9 : Nat) (hi9 : Nat) (hv : v < 2 ^ 31) (hl : lo9 < 2 ^ 31) (hh : hi9 < 2 ^ 31) : CtI l yX9_within wsX9_within ({ frames := 0, cells := 0, slots := 0, locals := 0 } : Room) E [.int (nI v), .int (nI lo9), .int (nI hi9)] [] (fun rr uu => rr = (bi (lo9 ≤ v ∧ v ≤ hi9)) ∧ uu = []) := by
  refine CtI.of cX9_within 3 RX9 .boolean rfl (by decide) rfl (Or.inr rfl) (Nat.le_of_ble_eq_true rfl) (fun _ r u hp => by obtain ⟨rfl, -⟩ := hp; exact bi_narrow _) ?_
  intro Γ F hret
  show G Γ E 0 0 0 [(0, .int (nI v)), (1, .int (nI lo9)), (2, .int (nI hi9))] [] []
  refine g_iload_n F 0 dX9_within_0 rfl rfl ?_
  refine g_iload_n F 1 dX9_within_1 rfl rfl ?_
  refine g_icmp_ltN (tgt := 14) F dX9_within_2 (by decide) (by omega) (by omega) (fun c2 => ?_) (fun c2 => ?_)
  · skip
    refine g_iconst (v := nI 0) F dX9_within_14 (by decide) ?_
    exact hret _ _ _ _ dX9_within_15 ⟨(bi_neg (by omega)).symm, rfl⟩
  · skip
    refine g_iload_n F 0 dX9_within_5 rfl rfl ?_
    refine g_iload_n F 2 dX9_within_6 rfl rfl ?_
    refine g_icmp_gtN (tgt := 14) F dX9_within_7 (by decide) (by omega) (by omega) (fun c7 => ?_) (fun c7 => ?_)
    · skip
      refine g_iconst (v := nI 0) F dX9_within_14 (by decide) ?_
      exact hret _ _ _ _ dX9_within_15 ⟨(bi_neg (by omega)).symm, rfl⟩
    · skip
      refine g_iconst (v := nI 1) F dX9_within_10 (by decide) ?_
      refine g_goto (tgt := 15) F dX9_within_11 (by decide) ?_
      exact hret _ _ _ _ dX9_within_15 ⟨(bi_pos (by omega)).symm, rfl⟩
set_option maxHeartbeats 4000000 in
set_option maxRecDepth 100000 in
theorem c_X9_within_x (l : Launch) (E : En) (x : Int32) (n : Nat) (hn : n + 1 < 2 ^ 31) : CtI l yX9_within wsX9_within ({ frames := 0, cells := 0, slots := 0, locals := 0 } : Room) E [.int (x), .int (nI 0), .int (nI n)] [] (fun rr uu => rr = (bi (rng x (n + 1))) ∧ uu = []) := by
  refine CtI.of cX9_within 3 RX9 .boolean rfl (by decide) rfl (Or.inr rfl) (Nat.le_of_ble_eq_true rfl) (fun _ r u hp => by obtain ⟨rfl, -⟩ := hp; exact bi_narrow _) ?_
  intro Γ F hret
  show G Γ E 0 0 0 [(0, .int (x)), (1, .int (nI 0)), (2, .int (nI n))] [] []
  refine g_iload_n F 0 dX9_within_0 rfl rfl ?_
  refine g_iload_n F 1 dX9_within_1 rfl rfl ?_
  refine g_icmp_lt (tgt := 14) F dX9_within_2 (by decide) (fun c2 => ?_) (fun c2 => ?_)
  · skip
    refine g_iconst (v := nI 0) F dX9_within_14 (by decide) ?_
    exact hret _ _ _ _ dX9_within_15 ⟨(bi_neg (by first | exact fun h => ((rng_w hn).mpr h).1 (by assumption) | exact fun h => ((rng_w hn).mpr h).2 (by assumption))).symm, rfl⟩
  · skip
    refine g_iload_n F 0 dX9_within_5 rfl rfl ?_
    refine g_iload_n F 2 dX9_within_6 rfl rfl ?_
    refine g_icmp_gt (tgt := 14) F dX9_within_7 (by decide) (fun c7 => ?_) (fun c7 => ?_)
    · skip
      refine g_iconst (v := nI 0) F dX9_within_14 (by decide) ?_
      exact hret _ _ _ _ dX9_within_15 ⟨(bi_neg (by first | exact fun h => ((rng_w hn).mpr h).1 (by assumption) | exact fun h => ((rng_w hn).mpr h).2 (by assumption))).symm, rfl⟩
    · skip
      refine g_iconst (v := nI 1) F dX9_within_10 (by decide) ?_
      refine g_goto (tgt := 15) F dX9_within_11 (by decide) ?_
      exact hret _ _ _ _ dX9_within_15 ⟨(bi_pos (by exact (rng_w hn).mp ⟨c2, c7⟩)).symm, rfl⟩
set_option maxHeartbeats 4000000 in
set_option maxRecDepth 100000 in
theorem c_X9_contentOf (l : Launch) (E : En) (q : Nat) (r : Nat → Nat) (rc : Nat) (tl : Nat) (at9 : Nat) (lf9 : Int32) (pl9 : Int32) (vl9 : Int32) (fa : Nat) (rs9 : Nat) (cs : Int32) (dn : Nat) (S : Nat → Nat) (C : CS) (c : Nat) (b : Nat) (k : Nat) (hR : Rel S C) (hc : c < 2) (hb : b < 96) (hk : k < 4) : CtI l yX9_contentOf wsX9_contentOf ({ frames := 0, cells := 0, slots := 0, locals := 0 } : Room) E [.ref q, .int (nI c), .int (nI b), .int (nI k)] [ob 9 q [.ref (r 0), .ref (r 1), .ref (r 2), .int (nI rc), .ref (r 3), .int (nI tl), .ref (r 4), .ref (r 5), .ref (r 6), .ref (r 7), .ref (r 8), .ref (r 9), .ref (r 10), .ref (r 11), .ref (r 12), .int (nI at9), .int (lf9), .int (pl9), .int (vl9), .int (nI fa), .int (nI rs9), .int (cs), .int (nI dn)], ai E (r 0) 892 S] (fun rr uu => rr = (nI (nu (sN C) c b k)) ∧ uu = [ob 9 q [.ref (r 0), .ref (r 1), .ref (r 2), .int (nI rc), .ref (r 3), .int (nI tl), .ref (r 4), .ref (r 5), .ref (r 6), .ref (r 7), .ref (r 8), .ref (r 9), .ref (r 10), .ref (r 11), .ref (r 12), .int (nI at9), .int (lf9), .int (pl9), .int (vl9), .int (nI fa), .int (nI rs9), .int (cs), .int (nI dn)], ai E (r 0) 892 S]) := by
  refine CtI.of cX9_contentOf 4 RX9 .int rfl (by decide) rfl (Or.inl rfl) (Nat.le_of_ble_eq_true rfl) (fun h => by cases h) ?_
  intro Γ F hret
  show G Γ E 0 0 0 [(0, .ref q), (1, .int (nI c)), (2, .int (nI b)), (3, .int (nI k))] [] [ob 9 q [.ref (r 0), .ref (r 1), .ref (r 2), .int (nI rc), .ref (r 3), .int (nI tl), .ref (r 4), .ref (r 5), .ref (r 6), .ref (r 7), .ref (r 8), .ref (r 9), .ref (r 10), .ref (r 11), .ref (r 12), .int (nI at9), .int (lf9), .int (pl9), .int (vl9), .int (nI fa), .int (nI rs9), .int (cs), .int (nI dn)], ai E (r 0) 892 S]
  refine g_aload_n F 0 dX9_contentOf_0 rfl rfl ?_
  refine g_get F 0 0 dX9_contentOf_1 rfl rfl (by decide) (by decide +kernel) (by decide +kernel) rfl ?_
  refine g_iconst (v := nI 0) F dX9_contentOf_4 (by decide) ?_
  refine g_iconst (v := nI 4) F dX9_contentOf_5 (by decide) ?_
  refine g_bipush (v := nI 96) F dX9_contentOf_6 (by decide) ?_
  refine g_iload_n F 1 dX9_contentOf_8 rfl rfl ?_
  refine g_imulN F dX9_contentOf_9 ?_
  refine g_iload_n F 2 dX9_contentOf_10 rfl rfl ?_
  refine g_iaddN F dX9_contentOf_11 ?_
  refine g_imulN F dX9_contentOf_12 ?_
  refine g_iaddN F dX9_contentOf_13 ?_
  refine g_iload_n F 3 dX9_contentOf_14 rfl rfl ?_
  refine g_iaddN F dX9_contentOf_15 ?_
  refine g_iald F 1 dX9_contentOf_16 rfl (by omega) (by decide) ?_
  exact hret _ _ _ _ dX9_contentOf_17 ⟨(congrArg nI (by exact hR.nu hc hb hk)), rfl⟩
set_option maxHeartbeats 4000000 in
set_option maxRecDepth 100000 in
theorem c_X9_setContent (l : Launch) (E : En) (q : Nat) (r : Nat → Nat) (rc : Nat) (tl : Nat) (at9 : Nat) (lf9 : Int32) (pl9 : Int32) (vl9 : Int32) (fa : Nat) (rs9 : Nat) (cs : Int32) (dn : Nat) (S : Nat → Nat) (C : CS) (c : Nat) (b : Nat) (k : Nat) (v : Nat) (hR : Rel S C) (hc : c < 2) (hb : b < 96) (hk : k < 4) : CtV l yX9_setContent wsX9_setContent ({ frames := 0, cells := 0, slots := 0, locals := 0 } : Room) E [.ref q, .int (nI c), .int (nI b), .int (nI k), .int (nI v)] [ob 9 q [.ref (r 0), .ref (r 1), .ref (r 2), .int (nI rc), .ref (r 3), .int (nI tl), .ref (r 4), .ref (r 5), .ref (r 6), .ref (r 7), .ref (r 8), .ref (r 9), .ref (r 10), .ref (r 11), .ref (r 12), .int (nI at9), .int (lf9), .int (pl9), .int (vl9), .int (nI fa), .int (nI rs9), .int (cs), .int (nI dn)], ai E (r 0) 892 S] (fun uu => ∃ (S2 : Nat → Nat), (Rel S2 (nS C (pn (sN C) c b k v))) ∧ uu = [ob 9 q [.ref (r 0), .ref (r 1), .ref (r 2), .int (nI rc), .ref (r 3), .int (nI tl), .ref (r 4), .ref (r 5), .ref (r 6), .ref (r 7), .ref (r 8), .ref (r 9), .ref (r 10), .ref (r 11), .ref (r 12), .int (nI at9), .int (lf9), .int (pl9), .int (vl9), .int (nI fa), .int (nI rs9), .int (cs), .int (nI dn)], ai E (r 0) 892 S2]) := by
  refine CtV.of cX9_setContent 5 RX9 rfl (by decide) rfl (Nat.le_of_ble_eq_true rfl) ?_
  intro Γ F hin0 hret
  show G Γ E 0 0 0 [(0, .ref q), (1, .int (nI c)), (2, .int (nI b)), (3, .int (nI k)), (4, .int (nI v))] [] [ob 9 q [.ref (r 0), .ref (r 1), .ref (r 2), .int (nI rc), .ref (r 3), .int (nI tl), .ref (r 4), .ref (r 5), .ref (r 6), .ref (r 7), .ref (r 8), .ref (r 9), .ref (r 10), .ref (r 11), .ref (r 12), .int (nI at9), .int (lf9), .int (pl9), .int (vl9), .int (nI fa), .int (nI rs9), .int (cs), .int (nI dn)], ai E (r 0) 892 S]
  refine g_aload_n F 0 dX9_setContent_0 rfl rfl ?_
  refine g_get F 0 0 dX9_setContent_1 rfl rfl (by decide) (by decide +kernel) (by decide +kernel) rfl ?_
  refine g_iconst (v := nI 0) F dX9_setContent_4 (by decide) ?_
  refine g_iconst (v := nI 4) F dX9_setContent_5 (by decide) ?_
  refine g_bipush (v := nI 96) F dX9_setContent_6 (by decide) ?_
  refine g_iload_n F 1 dX9_setContent_8 rfl rfl ?_
  refine g_imulN F dX9_setContent_9 ?_
  refine g_iload_n F 2 dX9_setContent_10 rfl rfl ?_
  refine g_iaddN F dX9_setContent_11 ?_
  refine g_imulN F dX9_setContent_12 ?_
  refine g_iaddN F dX9_setContent_13 ?_
  refine g_iload_n F 3 dX9_setContent_14 rfl rfl ?_
  refine g_iaddN F dX9_setContent_15 ?_
  refine g_iload F 4 dX9_setContent_16 rfl ?_
  refine g_iast F 1 dX9_setContent_18 rfl (by omega) (by decide) (w2 := [ob 9 q [.ref (r 0), .ref (r 1), .ref (r 2), .int (nI rc), .ref (r 3), .int (nI tl), .ref (r 4), .ref (r 5), .ref (r 6), .ref (r 7), .ref (r 8), .ref (r 9), .ref (r 10), .ref (r 11), .ref (r 12), .int (nI at9), .int (lf9), .int (pl9), .int (vl9), .int (nI fa), .int (nI rs9), .int (cs), .int (nI dn)], ai E (r 0) 892 (up S ((0 + (4 * ((96 * c) + b))) + k) v)]) rfl ?_
  exact hret _ _ _ dX9_setContent_19 ⟨(up S ((0 + (4 * ((96 * c) + b))) + k) v), (by exact hR.put hc hb hk), (by rfl)⟩
set_option maxHeartbeats 4000000 in
set_option maxRecDepth 100000 in
theorem c_X9_setBoth (l : Launch) (E : En) (q : Nat) (r : Nat → Nat) (rc : Nat) (tl : Nat) (at9 : Nat) (lf9 : Int32) (pl9 : Int32) (vl9 : Int32) (fa : Nat) (rs9 : Nat) (cs : Int32) (dn : Nat) (S : Nat → Nat) (C : CS) (b : Nat) (k : Nat) (v : Nat) (hR : Rel S C) (hb : b < 96) (hk : k < 4) : CtV l yX9_setBoth wsX9_setBoth ({ frames := 1, cells := 0, slots := 0, locals := 24 } : Room) E [.ref q, .int (nI b), .int (nI k), .int (nI v)] [ob 9 q [.ref (r 0), .ref (r 1), .ref (r 2), .int (nI rc), .ref (r 3), .int (nI tl), .ref (r 4), .ref (r 5), .ref (r 6), .ref (r 7), .ref (r 8), .ref (r 9), .ref (r 10), .ref (r 11), .ref (r 12), .int (nI at9), .int (lf9), .int (pl9), .int (vl9), .int (nI fa), .int (nI rs9), .int (cs), .int (nI dn)], ai E (r 0) 892 S] (fun uu => ∃ (S2 : Nat → Nat), (Rel S2 (nS C (pn (pn (sN C) 0 b k v) 1 b k v))) ∧ uu = [ob 9 q [.ref (r 0), .ref (r 1), .ref (r 2), .int (nI rc), .ref (r 3), .int (nI tl), .ref (r 4), .ref (r 5), .ref (r 6), .ref (r 7), .ref (r 8), .ref (r 9), .ref (r 10), .ref (r 11), .ref (r 12), .int (nI at9), .int (lf9), .int (pl9), .int (vl9), .int (nI fa), .int (nI rs9), .int (cs), .int (nI dn)], ai E (r 0) 892 S2]) := by
  refine CtV.of cX9_setBoth 4 RX9 rfl (by decide) rfl (Nat.le_of_ble_eq_true rfl) ?_
  intro Γ F hin0 hret
  show G Γ E 0 0 0 [(0, .ref q), (1, .int (nI b)), (2, .int (nI k)), (3, .int (nI v))] [] [ob 9 q [.ref (r 0), .ref (r 1), .ref (r 2), .int (nI rc), .ref (r 3), .int (nI tl), .ref (r 4), .ref (r 5), .ref (r 6), .ref (r 7), .ref (r 8), .ref (r 9), .ref (r 10), .ref (r 11), .ref (r 12), .int (nI at9), .int (lf9), .int (pl9), .int (vl9), .int (nI fa), .int (nI rs9), .int (cs), .int (nI dn)], ai E (r 0) 892 S]
  refine g_aload_n F 0 dX9_setBoth_0 rfl rfl ?_
  refine g_iconst (v := nI 0) F dX9_setBoth_1 (by decide) ?_
  refine g_iload_n F 1 dX9_setBoth_2 rfl rfl ?_
  refine g_iload_n F 2 dX9_setBoth_3 rfl rfl ?_
  refine g_iload_n F 3 dX9_setBoth_4 rfl rfl ?_
  refine g_callVvW (n := 4) F [0, 1] (c_X9_setContent l E q r rc tl at9 lf9 pl9 vl9 fa rs9 cs dn S C 0 b k v (by exact hR) (by omega) (by omega) (by omega)) dX9_setBoth_5 rfl (by decide) rfl rfl rfl (Nat.le_of_ble_eq_true rfl) ⟨Nat.le_of_ble_eq_true rfl, Nat.le_of_ble_eq_true rfl⟩ rfl rfl ⟨Nat.le_of_ble_eq_true rfl, Nat.le_of_ble_eq_true rfl⟩ 0 rfl rfl gX9_setBoth_X9_setContent (by decide +kernel) (fun u hp => by obtain ⟨_, -, rfl⟩ := hp; rfl) ?_
  rintro u_5 ⟨S2_5, hR2_5, rfl⟩
  refine g_ws (w2 := [ob 9 q [.ref (r 0), .ref (r 1), .ref (r 2), .int (nI rc), .ref (r 3), .int (nI tl), .ref (r 4), .ref (r 5), .ref (r 6), .ref (r 7), .ref (r 8), .ref (r 9), .ref (r 10), .ref (r 11), .ref (r 12), .int (nI at9), .int (lf9), .int (pl9), .int (vl9), .int (nI fa), .int (nI rs9), .int (cs), .int (nI dn)], ai E (r 0) 892 S2_5]) rfl ?_
  refine g_aload_n F 0 dX9_setBoth_8 rfl rfl ?_
  refine g_iconst (v := nI 1) F dX9_setBoth_9 (by decide) ?_
  refine g_iload_n F 1 dX9_setBoth_10 rfl rfl ?_
  refine g_iload_n F 2 dX9_setBoth_11 rfl rfl ?_
  refine g_iload_n F 3 dX9_setBoth_12 rfl rfl ?_
  refine g_callVvW (n := 4) F [0, 1] (c_X9_setContent l E q r rc tl at9 lf9 pl9 vl9 fa rs9 cs dn S2_5 (nS C (pn (sN C) 0 b k v)) 1 b k v (by exact hR2_5) (by omega) (by omega) (by omega)) dX9_setBoth_13 rfl (by decide) rfl rfl rfl (Nat.le_of_ble_eq_true rfl) ⟨Nat.le_of_ble_eq_true rfl, Nat.le_of_ble_eq_true rfl⟩ rfl rfl ⟨Nat.le_of_ble_eq_true rfl, Nat.le_of_ble_eq_true rfl⟩ 0 rfl rfl gX9_setBoth_X9_setContent (by decide +kernel) (fun u hp => by obtain ⟨_, -, rfl⟩ := hp; rfl) ?_
  rintro u_13 ⟨S2_13, hR2_13, rfl⟩
  refine g_ws (w2 := [ob 9 q [.ref (r 0), .ref (r 1), .ref (r 2), .int (nI rc), .ref (r 3), .int (nI tl), .ref (r 4), .ref (r 5), .ref (r 6), .ref (r 7), .ref (r 8), .ref (r 9), .ref (r 10), .ref (r 11), .ref (r 12), .int (nI at9), .int (lf9), .int (pl9), .int (vl9), .int (nI fa), .int (nI rs9), .int (cs), .int (nI dn)], ai E (r 0) 892 S2_13]) rfl ?_
  exact hret _ _ _ dX9_setBoth_16 ⟨S2_13, (by exact hR2_13), (by rfl)⟩
set_option maxHeartbeats 4000000 in
set_option maxRecDepth 100000 in
theorem c_X9_sumFrom (l : Launch) (E : En) (n0 : Nat) (n1 : Nat) (n2 : Nat) (n3 : Nat) (h0 : n0 < 65536) (h1 : n1 < 65536) (h2 : n2 < 65536) (h3 : n3 < 65536) : CtI l yX9_sumFrom wsX9_sumFrom ({ frames := 0, cells := 0, slots := 0, locals := 0 } : Room) E [.int (nI n0), .int (nI n1), .int (nI n2), .int (nI n3)] [] (fun rr uu => rr = (nI ((4 * n0 + 3 * n1 + 2 * n2 + n3 + 7) % 251)) ∧ uu = []) := by
  refine CtI.of cX9_sumFrom 4 RX9 .int rfl (by decide) rfl (Or.inl rfl) (Nat.le_of_ble_eq_true rfl) (fun h => by cases h) ?_
  intro Γ F hret
  show G Γ E 0 0 0 [(0, .int (nI n0)), (1, .int (nI n1)), (2, .int (nI n2)), (3, .int (nI n3))] [] []
  refine g_iconst (v := nI 4) F dX9_sumFrom_0 (by decide) ?_
  refine g_iload_n F 0 dX9_sumFrom_1 rfl rfl ?_
  refine g_imulN F dX9_sumFrom_2 ?_
  refine g_iconst (v := nI 3) F dX9_sumFrom_3 (by decide) ?_
  refine g_iload_n F 1 dX9_sumFrom_4 rfl rfl ?_
  refine g_imulN F dX9_sumFrom_5 ?_
  refine g_iaddN F dX9_sumFrom_6 ?_
  refine g_iconst (v := nI 2) F dX9_sumFrom_7 (by decide) ?_
  refine g_iload_n F 2 dX9_sumFrom_8 rfl rfl ?_
  refine g_imulN F dX9_sumFrom_9 ?_
  refine g_iaddN F dX9_sumFrom_10 ?_
  refine g_iload_n F 3 dX9_sumFrom_11 rfl rfl ?_
  refine g_iaddN F dX9_sumFrom_12 ?_
  refine g_bipush (v := nI 7) F dX9_sumFrom_13 (by decide) ?_
  refine g_iaddN F dX9_sumFrom_15 ?_
  refine g_sipush (v := nI 251) F dX9_sumFrom_16 (by decide) ?_
  refine g_iremN F dX9_sumFrom_19 (by omega) (by decide) (by decide) ?_
  exact hret _ _ _ _ dX9_sumFrom_20 ⟨(congrArg nI (by rfl)), rfl⟩
set_option maxHeartbeats 4000000 in
set_option maxRecDepth 100000 in
theorem c_X9_sumOf (l : Launch) (E : En) (q : Nat) (r : Nat → Nat) (rc : Nat) (tl : Nat) (at9 : Nat) (lf9 : Int32) (pl9 : Int32) (vl9 : Int32) (fa : Nat) (rs9 : Nat) (cs : Int32) (dn : Nat) (S : Nat → Nat) (C : CS) (c : Nat) (b : Nat) (hR : Rel S C) (hI : IC C) (hc : c < 2) (hb : b < 96) : CtI l yX9_sumOf wsX9_sumOf ({ frames := 1, cells := 0, slots := 0, locals := 23 } : Room) E [.ref q, .int (nI c), .int (nI b)] [ob 9 q [.ref (r 0), .ref (r 1), .ref (r 2), .int (nI rc), .ref (r 3), .int (nI tl), .ref (r 4), .ref (r 5), .ref (r 6), .ref (r 7), .ref (r 8), .ref (r 9), .ref (r 10), .ref (r 11), .ref (r 12), .int (nI at9), .int (lf9), .int (pl9), .int (vl9), .int (nI fa), .int (nI rs9), .int (cs), .int (nI dn)], ai E (r 0) 892 S] (fun rr uu => rr = (nI (sm (sN C) ((c * 96 + b) * 4))) ∧ uu = [ob 9 q [.ref (r 0), .ref (r 1), .ref (r 2), .int (nI rc), .ref (r 3), .int (nI tl), .ref (r 4), .ref (r 5), .ref (r 6), .ref (r 7), .ref (r 8), .ref (r 9), .ref (r 10), .ref (r 11), .ref (r 12), .int (nI at9), .int (lf9), .int (pl9), .int (vl9), .int (nI fa), .int (nI rs9), .int (cs), .int (nI dn)], ai E (r 0) 892 S]) := by
  refine CtI.of cX9_sumOf 3 RX9 .int rfl (by decide) rfl (Or.inl rfl) (Nat.le_of_ble_eq_true rfl) (fun h => by cases h) ?_
  intro Γ F hret
  show G Γ E 0 0 0 [(0, .ref q), (1, .int (nI c)), (2, .int (nI b))] [] [ob 9 q [.ref (r 0), .ref (r 1), .ref (r 2), .int (nI rc), .ref (r 3), .int (nI tl), .ref (r 4), .ref (r 5), .ref (r 6), .ref (r 7), .ref (r 8), .ref (r 9), .ref (r 10), .ref (r 11), .ref (r 12), .int (nI at9), .int (lf9), .int (pl9), .int (vl9), .int (nI fa), .int (nI rs9), .int (cs), .int (nI dn)], ai E (r 0) 892 S]
  refine g_aload_n F 0 dX9_sumOf_0 rfl rfl ?_
  refine g_iload_n F 1 dX9_sumOf_1 rfl rfl ?_
  refine g_iload_n F 2 dX9_sumOf_2 rfl rfl ?_
  refine g_iconst (v := nI 0) F dX9_sumOf_3 (by decide) ?_
  refine g_callViR (n := 3) F [0, 1] (c_X9_contentOf l E q r rc tl at9 lf9 pl9 vl9 fa rs9 cs dn S C c b 0 (by assumption) (by omega) (by omega) (by omega)) dX9_sumOf_4 rfl (by decide) rfl rfl rfl (Nat.le_of_ble_eq_true rfl) ⟨Nat.le_of_ble_eq_true rfl, Nat.le_of_ble_eq_true rfl⟩ rfl rfl ⟨Nat.le_of_ble_eq_true rfl, Nat.le_of_ble_eq_true rfl⟩ 0 rfl rfl gX9_sumOf_X9_contentOf (by decide +kernel) (fun r u hp => by obtain ⟨-, h⟩ := hp; exact h) ?_
  rintro r_4 u_4 ⟨rfl, -⟩
  refine g_aload_n F 0 dX9_sumOf_7 rfl rfl ?_
  refine g_iload_n F 1 dX9_sumOf_8 rfl rfl ?_
  refine g_iload_n F 2 dX9_sumOf_9 rfl rfl ?_
  refine g_iconst (v := nI 1) F dX9_sumOf_10 (by decide) ?_
  refine g_callViR (n := 3) F [0, 1] (c_X9_contentOf l E q r rc tl at9 lf9 pl9 vl9 fa rs9 cs dn S C c b 1 (by assumption) (by omega) (by omega) (by omega)) dX9_sumOf_11 rfl (by decide) rfl rfl rfl (Nat.le_of_ble_eq_true rfl) ⟨Nat.le_of_ble_eq_true rfl, Nat.le_of_ble_eq_true rfl⟩ rfl rfl ⟨Nat.le_of_ble_eq_true rfl, Nat.le_of_ble_eq_true rfl⟩ 0 rfl rfl gX9_sumOf_X9_contentOf (by decide +kernel) (fun r u hp => by obtain ⟨-, h⟩ := hp; exact h) ?_
  rintro r_11 u_11 ⟨rfl, -⟩
  refine g_aload_n F 0 dX9_sumOf_14 rfl rfl ?_
  refine g_iload_n F 1 dX9_sumOf_15 rfl rfl ?_
  refine g_iload_n F 2 dX9_sumOf_16 rfl rfl ?_
  refine g_iconst (v := nI 2) F dX9_sumOf_17 (by decide) ?_
  refine g_callViR (n := 3) F [0, 1] (c_X9_contentOf l E q r rc tl at9 lf9 pl9 vl9 fa rs9 cs dn S C c b 2 (by assumption) (by omega) (by omega) (by omega)) dX9_sumOf_18 rfl (by decide) rfl rfl rfl (Nat.le_of_ble_eq_true rfl) ⟨Nat.le_of_ble_eq_true rfl, Nat.le_of_ble_eq_true rfl⟩ rfl rfl ⟨Nat.le_of_ble_eq_true rfl, Nat.le_of_ble_eq_true rfl⟩ 0 rfl rfl gX9_sumOf_X9_contentOf (by decide +kernel) (fun r u hp => by obtain ⟨-, h⟩ := hp; exact h) ?_
  rintro r_18 u_18 ⟨rfl, -⟩
  refine g_aload_n F 0 dX9_sumOf_21 rfl rfl ?_
  refine g_iload_n F 1 dX9_sumOf_22 rfl rfl ?_
  refine g_iload_n F 2 dX9_sumOf_23 rfl rfl ?_
  refine g_iconst (v := nI 3) F dX9_sumOf_24 (by decide) ?_
  refine g_callViR (n := 3) F [0, 1] (c_X9_contentOf l E q r rc tl at9 lf9 pl9 vl9 fa rs9 cs dn S C c b 3 (by assumption) (by omega) (by omega) (by omega)) dX9_sumOf_25 rfl (by decide) rfl rfl rfl (Nat.le_of_ble_eq_true rfl) ⟨Nat.le_of_ble_eq_true rfl, Nat.le_of_ble_eq_true rfl⟩ rfl rfl ⟨Nat.le_of_ble_eq_true rfl, Nat.le_of_ble_eq_true rfl⟩ 0 rfl rfl gX9_sumOf_X9_contentOf (by decide +kernel) (fun r u hp => by obtain ⟨-, h⟩ := hp; exact h) ?_
  rintro r_25 u_25 ⟨rfl, -⟩
  refine g_callSiR (n := 4) F [] (c_X9_sumFrom l E (nu (sN C) c b 0) (nu (sN C) c b 1) (nu (sN C) c b 2) (nu (sN C) c b 3) (by exact hI.1 _) (by exact hI.1 _) (by exact hI.1 _) (by exact hI.1 _)) dX9_sumOf_28 rfl (by decide) rfl rfl rfl (Nat.le_of_ble_eq_true rfl) ⟨Nat.le_of_ble_eq_true rfl, Nat.le_of_ble_eq_true rfl⟩ rfl rfl ⟨Nat.le_of_ble_eq_true rfl, Nat.le_of_ble_eq_true rfl⟩ ggX9_sumOf_X9_sumFrom (by decide +kernel) (by decide +kernel) (by decide +kernel) (by decide +kernel) (fun r u hp => by obtain ⟨-, h⟩ := hp; exact h) ?_
  rintro r_28 u_28 ⟨rfl, -⟩
  exact hret _ _ _ _ dX9_sumOf_31 ⟨(congrArg nI (by rfl)), rfl⟩
set_option maxHeartbeats 4000000 in
set_option maxRecDepth 100000 in
theorem c_X9_takenFrom (l : Launch) (E : En) (q : Nat) (r : Nat → Nat) (rc : Nat) (tl : Nat) (at9 : Nat) (lf9 : Int32) (pl9 : Int32) (vl9 : Int32) (fa : Nat) (rs9 : Nat) (cs : Int32) (dn : Nat) (S : Nat → Nat) (C : CS) (b : Nat) (s : Nat) (hR : Rel S C) (hI : IC C) (hb : b < 2 ^ 31) (hs : s < 2 ^ 31) : CtI l yX9_takenFrom wsX9_takenFrom ({ frames := 2, cells := 0, slots := 0, locals := 45 } : Room) E [.ref q, .int (nI b), .int (nI s)] [ob 9 q [.ref (r 0), .ref (r 1), .ref (r 2), .int (nI rc), .ref (r 3), .int (nI tl), .ref (r 4), .ref (r 5), .ref (r 6), .ref (r 7), .ref (r 8), .ref (r 9), .ref (r 10), .ref (r 11), .ref (r 12), .int (nI at9), .int (lf9), .int (pl9), .int (vl9), .int (nI fa), .int (nI rs9), .int (cs), .int (nI dn)], ai E (r 0) 892 S] (fun rr uu => rr = (nI (tk (sN C) b s)) ∧ uu = [ob 9 q [.ref (r 0), .ref (r 1), .ref (r 2), .int (nI rc), .ref (r 3), .int (nI tl), .ref (r 4), .ref (r 5), .ref (r 6), .ref (r 7), .ref (r 8), .ref (r 9), .ref (r 10), .ref (r 11), .ref (r 12), .int (nI at9), .int (lf9), .int (pl9), .int (vl9), .int (nI fa), .int (nI rs9), .int (cs), .int (nI dn)], ai E (r 0) 892 S]) := by
  refine CtI.of cX9_takenFrom 3 RX9 .int rfl (by decide) rfl (Or.inl rfl) (Nat.le_of_ble_eq_true rfl) (fun h => by cases h) ?_
  intro Γ F hret
  show G Γ E 0 0 0 [(0, .ref q), (1, .int (nI b)), (2, .int (nI s))] [] [ob 9 q [.ref (r 0), .ref (r 1), .ref (r 2), .int (nI rc), .ref (r 3), .int (nI tl), .ref (r 4), .ref (r 5), .ref (r 6), .ref (r 7), .ref (r 8), .ref (r 9), .ref (r 10), .ref (r 11), .ref (r 12), .int (nI at9), .int (lf9), .int (pl9), .int (vl9), .int (nI fa), .int (nI rs9), .int (cs), .int (nI dn)], ai E (r 0) 892 S]
  refine g_iload_n F 1 dX9_takenFrom_0 rfl rfl ?_
  refine g_bipush (v := nI 96) F dX9_takenFrom_1 (by decide) ?_
  refine g_icmp_ltN (tgt := 8) F dX9_takenFrom_3 (by decide) (by omega) (by omega) (fun c3 => ?_) (fun c3 => ?_)
  · skip
    refine g_aload_n F 0 dX9_takenFrom_8 rfl rfl ?_
    refine g_iconst (v := nI 0) F dX9_takenFrom_9 (by decide) ?_
    refine g_iload_n F 1 dX9_takenFrom_10 rfl rfl ?_
    refine g_callViR (n := 2) F [0, 1] (c_X9_sumOf l E q r rc tl at9 lf9 pl9 vl9 fa rs9 cs dn S C 0 b (by assumption) (by assumption) (by omega) (by omega)) dX9_takenFrom_11 rfl (by decide) rfl rfl rfl (Nat.le_of_ble_eq_true rfl) ⟨Nat.le_of_ble_eq_true rfl, Nat.le_of_ble_eq_true rfl⟩ rfl rfl ⟨Nat.le_of_ble_eq_true rfl, Nat.le_of_ble_eq_true rfl⟩ 0 rfl rfl gX9_takenFrom_X9_sumOf (by decide +kernel) (fun r u hp => by obtain ⟨-, h⟩ := hp; exact h) ?_
    rintro r_11 u_11 ⟨rfl, -⟩
    have hq := sm_lt (sN C) ((0 * 96 + b) * 4)
    refine g_iload_n F 2 dX9_takenFrom_14 rfl rfl ?_
    refine g_icmp_neN (tgt := 22) F dX9_takenFrom_15 (by decide) (by omega) (by omega) (fun c15 => ?_) (fun c15 => ?_)
    · skip
      refine g_aload_n F 0 dX9_takenFrom_22 rfl rfl ?_
      refine g_iconst (v := nI 1) F dX9_takenFrom_23 (by decide) ?_
      refine g_iload_n F 1 dX9_takenFrom_24 rfl rfl ?_
      refine g_callViR (n := 2) F [0, 1] (c_X9_sumOf l E q r rc tl at9 lf9 pl9 vl9 fa rs9 cs dn S C 1 b (by assumption) (by assumption) (by omega) (by omega)) dX9_takenFrom_25 rfl (by decide) rfl rfl rfl (Nat.le_of_ble_eq_true rfl) ⟨Nat.le_of_ble_eq_true rfl, Nat.le_of_ble_eq_true rfl⟩ rfl rfl ⟨Nat.le_of_ble_eq_true rfl, Nat.le_of_ble_eq_true rfl⟩ 0 rfl rfl gX9_takenFrom_X9_sumOf (by decide +kernel) (fun r u hp => by obtain ⟨-, h⟩ := hp; exact h) ?_
      rintro r_25 u_25 ⟨rfl, -⟩
      have hq2 := sm_lt (sN C) ((1 * 96 + b) * 4)
      refine g_iload_n F 2 dX9_takenFrom_28 rfl rfl ?_
      refine g_icmp_neN (tgt := 36) F dX9_takenFrom_29 (by decide) (by omega) (by omega) (fun c29 => ?_) (fun c29 => ?_)
      · skip
        refine g_iconst (v := nI 2) F dX9_takenFrom_36 (by decide) ?_
        exact hret _ _ _ _ dX9_takenFrom_37 ⟨(congrArg nI (by unfold tk; (repeat' split) <;> omega)), rfl⟩
      · skip
        refine g_iconst (v := nI 1) F dX9_takenFrom_32 (by decide) ?_
        refine g_goto (tgt := 37) F dX9_takenFrom_33 (by decide) ?_
        exact hret _ _ _ _ dX9_takenFrom_37 ⟨(congrArg nI (by unfold tk; (repeat' split) <;> omega)), rfl⟩
    · skip
      refine g_iconst (v := nI 0) F dX9_takenFrom_18 (by decide) ?_
      refine g_goto (tgt := 37) F dX9_takenFrom_19 (by decide) ?_
      exact hret _ _ _ _ dX9_takenFrom_37 ⟨(congrArg nI (by unfold tk; (repeat' split) <;> omega)), rfl⟩
  · skip
    refine g_iconst (v := nI 2) F dX9_takenFrom_6 (by decide) ?_
    exact hret _ _ _ _ dX9_takenFrom_7 ⟨(congrArg nI (by unfold tk; (repeat' split) <;> omega)), rfl⟩
set_option maxHeartbeats 4000000 in
set_option maxRecDepth 100000 in
theorem c_X9_areUnlike (l : Launch) (E : En) (q : Nat) (r : Nat → Nat) (rc : Nat) (tl : Nat) (at9 : Nat) (lf9 : Int32) (pl9 : Int32) (vl9 : Int32) (fa : Nat) (rs9 : Nat) (cs : Int32) (dn : Nat) (S : Nat → Nat) (C : CS) (b : Nat) (hR : Rel S C) (hI : IC C) (hb : b < 96) : CtI l yX9_areUnlike wsX9_areUnlike ({ frames := 1, cells := 0, slots := 0, locals := 23 } : Room) E [.ref q, .int (nI b)] [ob 9 q [.ref (r 0), .ref (r 1), .ref (r 2), .int (nI rc), .ref (r 3), .int (nI tl), .ref (r 4), .ref (r 5), .ref (r 6), .ref (r 7), .ref (r 8), .ref (r 9), .ref (r 10), .ref (r 11), .ref (r 12), .int (nI at9), .int (lf9), .int (pl9), .int (vl9), .int (nI fa), .int (nI rs9), .int (cs), .int (nI dn)], ai E (r 0) 892 S] (fun rr uu => rr = (bi (¬ al (sN C) b)) ∧ uu = [ob 9 q [.ref (r 0), .ref (r 1), .ref (r 2), .int (nI rc), .ref (r 3), .int (nI tl), .ref (r 4), .ref (r 5), .ref (r 6), .ref (r 7), .ref (r 8), .ref (r 9), .ref (r 10), .ref (r 11), .ref (r 12), .int (nI at9), .int (lf9), .int (pl9), .int (vl9), .int (nI fa), .int (nI rs9), .int (cs), .int (nI dn)], ai E (r 0) 892 S]) := by
  refine CtI.of cX9_areUnlike 4 RX9 .boolean rfl (by decide) rfl (Or.inr rfl) (Nat.le_of_ble_eq_true rfl) (fun _ r u hp => by obtain ⟨rfl, -⟩ := hp; exact bi_narrow _) ?_
  intro Γ F hret
  show G Γ E 0 0 0 [(0, .ref q), (1, .int (nI b))] [] [ob 9 q [.ref (r 0), .ref (r 1), .ref (r 2), .int (nI rc), .ref (r 3), .int (nI tl), .ref (r 4), .ref (r 5), .ref (r 6), .ref (r 7), .ref (r 8), .ref (r 9), .ref (r 10), .ref (r 11), .ref (r 12), .int (nI at9), .int (lf9), .int (pl9), .int (vl9), .int (nI fa), .int (nI rs9), .int (cs), .int (nI dn)], ai E (r 0) 892 S]
  refine g_iconst (v := nI 0) F dX9_areUnlike_0 (by decide) ?_
  refine g_istore_n (lv2 := [(2, .int (nI 0)), (0, .ref q), (1, .int (nI b))]) F dX9_areUnlike_1 rfl (by decide) rfl ?_
  refine g_iconst (v := nI 0) F dX9_areUnlike_2 (by decide) ?_
  refine g_istore_n (lv2 := [(3, .int (nI 0)), (2, .int (nI 0)), (0, .ref q), (1, .int (nI b))]) F dX9_areUnlike_3 rfl (by decide) rfl ?_
  have loop4 : ∀ (n : Nat) (i : Nat) (y : Nat), 4 - i < n → (i ≤ 4) → (y ≤ 1) → (y = 0 ↔ ∀ k : Nat, k < i → nu (sN C) 0 b k = nu (sN C) 1 b k) → G Γ E 0 0 4 [(0, .ref q), (1, .int (nI b)), (2, .int (nI y)), (3, .int (nI i))] [] [ob 9 q [.ref (r 0), .ref (r 1), .ref (r 2), .int (nI rc), .ref (r 3), .int (nI tl), .ref (r 4), .ref (r 5), .ref (r 6), .ref (r 7), .ref (r 8), .ref (r 9), .ref (r 10), .ref (r 11), .ref (r 12), .int (nI at9), .int (lf9), .int (pl9), .int (vl9), .int (nI fa), .int (nI rs9), .int (cs), .int (nI dn)], ai E (r 0) 892 S] := by
    intro n
    induction n with
    | zero => intro i y hz; exact absurd hz (Nat.not_lt_zero _)
    | succ n ih4 =>
      intro i y hz4 hi hy1 hy
      refine g_iload_n F 3 dX9_areUnlike_4 rfl rfl ?_
      refine g_iconst (v := nI 4) F dX9_areUnlike_5 (by decide) ?_
      refine g_icmp_geN (tgt := 42) F dX9_areUnlike_6 (by decide) (by omega) (by omega) (fun c6 => ?_) (fun c6 => ?_)
      · skip
        refine g_iload_n F 2 dX9_areUnlike_42 rfl rfl ?_
        refine g_top (nI y) (bi (¬ al (sN C) b)) (by rcases (show y = 0 ∨ y = 1 by omega) with h9 | h9; (rw [h9, bi_neg (fun h => h (fun k hk => hy.mp h9 k (by omega)))]; rfl); (rw [h9, bi_pos (fun h => absurd (hy.mpr (fun k hk => h k (by omega))) (by omega))]; rfl)) ?_
        exact hret _ _ _ _ dX9_areUnlike_43 ⟨rfl, rfl⟩
      · skip
        refine g_iload_n F 2 dX9_areUnlike_9 rfl rfl ?_
        refine g_if_neN (tgt := 30) F dX9_areUnlike_10 (by decide) (by omega) (fun c10 => ?_) (fun c10 => ?_)
        · skip
          refine g_iconst (v := nI 1) F dX9_areUnlike_30 (by decide) ?_
          refine g_goto (tgt := 35) F dX9_areUnlike_31 (by decide) ?_
          refine g_istore_n (lv2 := [(2, .int (nI 1)), (0, .ref q), (1, .int (nI b)), (3, .int (nI i))]) F dX9_areUnlike_35 rfl (by decide) rfl ?_
          refine g_iinc (k := 3) (v := nI (i + 1)) (lv2 := [(3, .int (nI (i + 1))), (2, .int (nI 1)), (0, .ref q), (1, .int (nI b))]) F dX9_areUnlike_36 rfl (nI_1 _) (by decide) rfl ?_
          refine g_goto (tgt := 4) F dX9_areUnlike_39 (by decide) ?_
          refine g_lv [2, 3, 1, 0] rfl ?_
          exact ih4 (i + 1) 1 (by omega) (by omega) (by omega) (by first | (refine ⟨fun h => absurd h (by decide), fun h => absurd (hy.mpr (fun k hk => h k (by omega))) ?_⟩; assumption) | (refine ⟨fun h => absurd h (by decide), fun h => absurd (h i (by omega)) ?_⟩; assumption) | (refine ⟨fun _ k hk => ?_, fun _ => rfl⟩; by_cases z : k = i; (rw [z]; assumption); exact hy.mp (by assumption) k (by omega)))
        · skip
          refine g_aload_n F 0 dX9_areUnlike_13 rfl rfl ?_
          refine g_iconst (v := nI 0) F dX9_areUnlike_14 (by decide) ?_
          refine g_iload_n F 1 dX9_areUnlike_15 rfl rfl ?_
          refine g_iload_n F 3 dX9_areUnlike_16 rfl rfl ?_
          refine g_callViR (n := 3) F [0, 1] (c_X9_contentOf l E q r rc tl at9 lf9 pl9 vl9 fa rs9 cs dn S C 0 b i (by assumption) (by omega) (by omega) (by omega)) dX9_areUnlike_17 rfl (by decide) rfl rfl rfl (Nat.le_of_ble_eq_true rfl) ⟨Nat.le_of_ble_eq_true rfl, Nat.le_of_ble_eq_true rfl⟩ rfl rfl ⟨Nat.le_of_ble_eq_true rfl, Nat.le_of_ble_eq_true rfl⟩ 0 rfl rfl gX9_areUnlike_X9_contentOf (by decide +kernel) (fun r u hp => by obtain ⟨-, h⟩ := hp; exact h) ?_
          rintro r_17 u_17 ⟨rfl, -⟩
          refine g_aload_n F 0 dX9_areUnlike_20 rfl rfl ?_
          refine g_iconst (v := nI 1) F dX9_areUnlike_21 (by decide) ?_
          refine g_iload_n F 1 dX9_areUnlike_22 rfl rfl ?_
          refine g_iload_n F 3 dX9_areUnlike_23 rfl rfl ?_
          refine g_callViR (n := 3) F [0, 1] (c_X9_contentOf l E q r rc tl at9 lf9 pl9 vl9 fa rs9 cs dn S C 1 b i (by assumption) (by omega) (by omega) (by omega)) dX9_areUnlike_24 rfl (by decide) rfl rfl rfl (Nat.le_of_ble_eq_true rfl) ⟨Nat.le_of_ble_eq_true rfl, Nat.le_of_ble_eq_true rfl⟩ rfl rfl ⟨Nat.le_of_ble_eq_true rfl, Nat.le_of_ble_eq_true rfl⟩ 0 rfl rfl gX9_areUnlike_X9_contentOf (by decide +kernel) (fun r u hp => by obtain ⟨-, h⟩ := hp; exact h) ?_
          rintro r_24 u_24 ⟨rfl, -⟩
          have hm1 : nu (sN C) 0 b i < 65536 := hI.1 _
          have hm2 : nu (sN C) 1 b i < 65536 := hI.1 _
          refine g_icmp_eqN (tgt := 34) F dX9_areUnlike_27 (by decide) (by omega) (by omega) (fun c27 => ?_) (fun c27 => ?_)
          · skip
            refine g_iconst (v := nI 0) F dX9_areUnlike_34 (by decide) ?_
            refine g_istore_n (lv2 := [(2, .int (nI 0)), (0, .ref q), (1, .int (nI b)), (3, .int (nI i))]) F dX9_areUnlike_35 rfl (by decide) rfl ?_
            refine g_iinc (k := 3) (v := nI (i + 1)) (lv2 := [(3, .int (nI (i + 1))), (2, .int (nI 0)), (0, .ref q), (1, .int (nI b))]) F dX9_areUnlike_36 rfl (nI_1 _) (by decide) rfl ?_
            refine g_goto (tgt := 4) F dX9_areUnlike_39 (by decide) ?_
            refine g_lv [2, 3, 1, 0] rfl ?_
            exact ih4 (i + 1) 0 (by omega) (by omega) (by omega) (by first | (refine ⟨fun h => absurd h (by decide), fun h => absurd (hy.mpr (fun k hk => h k (by omega))) ?_⟩; assumption) | (refine ⟨fun h => absurd h (by decide), fun h => absurd (h i (by omega)) ?_⟩; assumption) | (refine ⟨fun _ k hk => ?_, fun _ => rfl⟩; by_cases z : k = i; (rw [z]; assumption); exact hy.mp (by assumption) k (by omega)))
          · skip
            refine g_iconst (v := nI 1) F dX9_areUnlike_30 (by decide) ?_
            refine g_goto (tgt := 35) F dX9_areUnlike_31 (by decide) ?_
            refine g_istore_n (lv2 := [(2, .int (nI 1)), (0, .ref q), (1, .int (nI b)), (3, .int (nI i))]) F dX9_areUnlike_35 rfl (by decide) rfl ?_
            refine g_iinc (k := 3) (v := nI (i + 1)) (lv2 := [(3, .int (nI (i + 1))), (2, .int (nI 1)), (0, .ref q), (1, .int (nI b))]) F dX9_areUnlike_36 rfl (nI_1 _) (by decide) rfl ?_
            refine g_goto (tgt := 4) F dX9_areUnlike_39 (by decide) ?_
            refine g_lv [2, 3, 1, 0] rfl ?_
            exact ih4 (i + 1) 1 (by omega) (by omega) (by omega) (by first | (refine ⟨fun h => absurd h (by decide), fun h => absurd (hy.mpr (fun k hk => h k (by omega))) ?_⟩; assumption) | (refine ⟨fun h => absurd h (by decide), fun h => absurd (h i (by omega)) ?_⟩; assumption) | (refine ⟨fun _ k hk => ?_, fun _ => rfl⟩; by_cases z : k = i; (rw [z]; assumption); exact hy.mp (by assumption) k (by omega)))
  refine g_lv [2, 3, 1, 0] rfl ?_
  exact loop4 ((4 - 0) + 1) 0 0 (Nat.lt_succ_self _) (by omega) (by omega) (by exact ⟨fun _ k hk => by omega, fun _ => rfl⟩)
set_option maxHeartbeats 4000000 in
set_option maxRecDepth 100000 in
theorem c_X9_isLeaf (l : Launch) (E : En) (x : Int32)  : CtI l yX9_isLeaf wsX9_isLeaf ({ frames := 1, cells := 0, slots := 0, locals := 22 } : Room) E [.int (x)] [] (fun rr uu => rr = (bi (rng x 16)) ∧ uu = []) := by
  refine CtI.of cX9_isLeaf 1 RX9 .boolean rfl (by decide) rfl (Or.inr rfl) (Nat.le_of_ble_eq_true rfl) (fun _ r u hp => by obtain ⟨rfl, -⟩ := hp; exact bi_narrow _) ?_
  intro Γ F hret
  show G Γ E 0 0 0 [(0, .int (x))] [] []
  refine g_iload_n F 0 dX9_isLeaf_0 rfl rfl ?_
  refine g_iconst (v := nI 0) F dX9_isLeaf_1 (by decide) ?_
  refine g_bipush (v := nI 15) F dX9_isLeaf_2 (by decide) ?_
  refine g_callSiR (n := 3) F [] (c_X9_within_x l E x 15 (by omega)) dX9_isLeaf_4 rfl (by decide) rfl rfl rfl (Nat.le_of_ble_eq_true rfl) ⟨Nat.le_of_ble_eq_true rfl, Nat.le_of_ble_eq_true rfl⟩ rfl rfl ⟨Nat.le_of_ble_eq_true rfl, Nat.le_of_ble_eq_true rfl⟩ ggX9_isLeaf_X9_within (by decide +kernel) (by decide +kernel) (by decide +kernel) (by decide +kernel) (fun r u hp => by obtain ⟨-, h⟩ := hp; exact h) ?_
  rintro r_4 u_4 ⟨rfl, -⟩
  exact hret _ _ _ _ dX9_isLeaf_7 ⟨(bi_congr (by exact Iff.rfl)), rfl⟩
set_option maxHeartbeats 4000000 in
set_option maxRecDepth 100000 in
theorem c_X9_isRoot (l : Launch) (E : En) (q : Nat) (r : Nat → Nat) (rc : Nat) (tl : Nat) (at9 : Nat) (lf9 : Int32) (pl9 : Int32) (vl9 : Int32) (fa : Nat) (rs9 : Nat) (cs : Int32) (dn : Nat) (S : Nat → Nat) (C : CS) (x1 : Int32) (hR : Rel S C) (hI : IC C) : CtI l yX9_isRoot wsX9_isRoot ({ frames := 1, cells := 0, slots := 0, locals := 22 } : Room) E [.ref q, .int (x1)] [ob 9 q [.ref (r 0), .ref (r 1), .ref (r 2), .int (nI rc), .ref (r 3), .int (nI tl), .ref (r 4), .ref (r 5), .ref (r 6), .ref (r 7), .ref (r 8), .ref (r 9), .ref (r 10), .ref (r 11), .ref (r 12), .int (nI at9), .int (lf9), .int (pl9), .int (vl9), .int (nI fa), .int (nI rs9), .int (cs), .int (nI dn)], ai E (r 0) 892 S] (fun rr uu => rr = (bi (rng x1 (sZ C))) ∧ uu = [ob 9 q [.ref (r 0), .ref (r 1), .ref (r 2), .int (nI rc), .ref (r 3), .int (nI tl), .ref (r 4), .ref (r 5), .ref (r 6), .ref (r 7), .ref (r 8), .ref (r 9), .ref (r 10), .ref (r 11), .ref (r 12), .int (nI at9), .int (lf9), .int (pl9), .int (vl9), .int (nI fa), .int (nI rs9), .int (cs), .int (nI dn)], ai E (r 0) 892 S]) := by
  refine CtI.of cX9_isRoot 2 RX9 .boolean rfl (by decide) rfl (Or.inr rfl) (Nat.le_of_ble_eq_true rfl) (fun _ r u hp => by obtain ⟨rfl, -⟩ := hp; exact bi_narrow _) ?_
  intro Γ F hret
  show G Γ E 0 0 0 [(0, .ref q), (1, .int (x1))] [] [ob 9 q [.ref (r 0), .ref (r 1), .ref (r 2), .int (nI rc), .ref (r 3), .int (nI tl), .ref (r 4), .ref (r 5), .ref (r 6), .ref (r 7), .ref (r 8), .ref (r 9), .ref (r 10), .ref (r 11), .ref (r 12), .int (nI at9), .int (lf9), .int (pl9), .int (vl9), .int (nI fa), .int (nI rs9), .int (cs), .int (nI dn)], ai E (r 0) 892 S]
  refine g_iload_n F 1 dX9_isRoot_0 rfl rfl ?_
  refine g_iconst (v := nI 0) F dX9_isRoot_1 (by decide) ?_
  refine g_aload_n F 0 dX9_isRoot_2 rfl rfl ?_
  refine g_get F 0 0 dX9_isRoot_3 rfl rfl (by decide) (by decide +kernel) (by decide +kernel) rfl ?_
  refine g_sipush (v := nI 864) F dX9_isRoot_6 (by decide) ?_
  refine g_iald F 1 dX9_isRoot_9 rfl (by omega) (by decide) ?_
  refine g_top (nI (S 864)) (nI (sZ C)) (by rw [show S 864 = sZ C from hR.2.2.1]) ?_
  refine g_iconst (v := nI 1) F dX9_isRoot_10 (by decide) ?_
  have hz1 := hI.2.2.1
  have hz8 := hI.2.2.2.1
  refine g_isubN F dX9_isRoot_11 (by omega) ?_
  refine g_callSiR (n := 3) F [] (c_X9_within_x l E x1 ((sZ C) - 1) (by omega)) dX9_isRoot_12 rfl (by decide) rfl rfl rfl (Nat.le_of_ble_eq_true rfl) ⟨Nat.le_of_ble_eq_true rfl, Nat.le_of_ble_eq_true rfl⟩ rfl rfl ⟨Nat.le_of_ble_eq_true rfl, Nat.le_of_ble_eq_true rfl⟩ ggX9_isRoot_X9_within (by decide +kernel) (by decide +kernel) (by decide +kernel) (by decide +kernel) (fun r u hp => by obtain ⟨-, h⟩ := hp; exact h) ?_
  rintro r_12 u_12 ⟨rfl, -⟩
  refine g_top (bi (rng x1 (((sZ C) - 1) + 1))) (bi (rng x1 (sZ C))) (by rw [show sZ C - 1 + 1 = sZ C by omega]) ?_
  exact hret _ _ _ _ dX9_isRoot_15 ⟨rfl, rfl⟩
set_option maxHeartbeats 4000000 in
set_option maxRecDepth 100000 in
theorem c_X9_rootPart (l : Launch) (E : En) (q : Nat) (r : Nat → Nat) (rc : Nat) (tl : Nat) (at9 : Nat) (lf9 : Int32) (pl9 : Int32) (vl9 : Int32) (fa : Nat) (rs9 : Nat) (cs : Int32) (dn : Nat) (S : Nat → Nat) (C : CS) (i : Nat) (p : Nat) (hi : i < 8) (hp : p < 3) : CtI l yX9_rootPart wsX9_rootPart ({ frames := 0, cells := 0, slots := 0, locals := 0 } : Room) E [.ref q, .int (nI i), .int (nI p)] [ob 9 q [.ref (r 0), .ref (r 1), .ref (r 2), .int (nI rc), .ref (r 3), .int (nI tl), .ref (r 4), .ref (r 5), .ref (r 6), .ref (r 7), .ref (r 8), .ref (r 9), .ref (r 10), .ref (r 11), .ref (r 12), .int (nI at9), .int (lf9), .int (pl9), .int (vl9), .int (nI fa), .int (nI rs9), .int (cs), .int (nI dn)], ai E (r 0) 892 S] (fun rr uu => rr = (nI (S (868 + 3 * i + p))) ∧ uu = [ob 9 q [.ref (r 0), .ref (r 1), .ref (r 2), .int (nI rc), .ref (r 3), .int (nI tl), .ref (r 4), .ref (r 5), .ref (r 6), .ref (r 7), .ref (r 8), .ref (r 9), .ref (r 10), .ref (r 11), .ref (r 12), .int (nI at9), .int (lf9), .int (pl9), .int (vl9), .int (nI fa), .int (nI rs9), .int (cs), .int (nI dn)], ai E (r 0) 892 S]) := by
  refine CtI.of cX9_rootPart 3 RX9 .int rfl (by decide) rfl (Or.inl rfl) (Nat.le_of_ble_eq_true rfl) (fun h => by cases h) ?_
  intro Γ F hret
  show G Γ E 0 0 0 [(0, .ref q), (1, .int (nI i)), (2, .int (nI p))] [] [ob 9 q [.ref (r 0), .ref (r 1), .ref (r 2), .int (nI rc), .ref (r 3), .int (nI tl), .ref (r 4), .ref (r 5), .ref (r 6), .ref (r 7), .ref (r 8), .ref (r 9), .ref (r 10), .ref (r 11), .ref (r 12), .int (nI at9), .int (lf9), .int (pl9), .int (vl9), .int (nI fa), .int (nI rs9), .int (cs), .int (nI dn)], ai E (r 0) 892 S]
  refine g_aload_n F 0 dX9_rootPart_0 rfl rfl ?_
  refine g_get F 0 0 dX9_rootPart_1 rfl rfl (by decide) (by decide +kernel) (by decide +kernel) rfl ?_
  refine g_sipush (v := nI 868) F dX9_rootPart_4 (by decide) ?_
  refine g_iconst (v := nI 3) F dX9_rootPart_7 (by decide) ?_
  refine g_iload_n F 1 dX9_rootPart_8 rfl rfl ?_
  refine g_imulN F dX9_rootPart_9 ?_
  refine g_iaddN F dX9_rootPart_10 ?_
  refine g_iload_n F 2 dX9_rootPart_11 rfl rfl ?_
  refine g_iaddN F dX9_rootPart_12 ?_
  refine g_iald F 1 dX9_rootPart_13 rfl (by omega) (by decide) ?_
  exact hret _ _ _ _ dX9_rootPart_14 ⟨(congrArg nI (by rfl)), rfl⟩
set_option maxHeartbeats 4000000 in
set_option maxRecDepth 100000 in
theorem c_X9_freeMany (l : Launch) (E : En) (q : Nat) (r : Nat → Nat) (rc : Nat) (tl : Nat) (at9 : Nat) (lf9 : Int32) (pl9 : Int32) (vl9 : Int32) (fa : Nat) (rs9 : Nat) (cs : Int32) (dn : Nat) (S : Nat → Nat) (C : CS) (hR : Rel S C) (hI : IC C) : CtI l yX9_freeMany wsX9_freeMany ({ frames := 0, cells := 0, slots := 0, locals := 0 } : Room) E [.ref q] [ob 9 q [.ref (r 0), .ref (r 1), .ref (r 2), .int (nI rc), .ref (r 3), .int (nI tl), .ref (r 4), .ref (r 5), .ref (r 6), .ref (r 7), .ref (r 8), .ref (r 9), .ref (r 10), .ref (r 11), .ref (r 12), .int (nI at9), .int (lf9), .int (pl9), .int (vl9), .int (nI fa), .int (nI rs9), .int (cs), .int (nI dn)], ai E (r 0) 892 S] (fun rr uu => rr = (nI (96 - cn (sU C) 96)) ∧ uu = [ob 9 q [.ref (r 0), .ref (r 1), .ref (r 2), .int (nI rc), .ref (r 3), .int (nI tl), .ref (r 4), .ref (r 5), .ref (r 6), .ref (r 7), .ref (r 8), .ref (r 9), .ref (r 10), .ref (r 11), .ref (r 12), .int (nI at9), .int (lf9), .int (pl9), .int (vl9), .int (nI fa), .int (nI rs9), .int (cs), .int (nI dn)], ai E (r 0) 892 S]) := by
  refine CtI.of cX9_freeMany 3 RX9 .int rfl (by decide) rfl (Or.inl rfl) (Nat.le_of_ble_eq_true rfl) (fun h => by cases h) ?_
  intro Γ F hret
  show G Γ E 0 0 0 [(0, .ref q)] [] [ob 9 q [.ref (r 0), .ref (r 1), .ref (r 2), .int (nI rc), .ref (r 3), .int (nI tl), .ref (r 4), .ref (r 5), .ref (r 6), .ref (r 7), .ref (r 8), .ref (r 9), .ref (r 10), .ref (r 11), .ref (r 12), .int (nI at9), .int (lf9), .int (pl9), .int (vl9), .int (nI fa), .int (nI rs9), .int (cs), .int (nI dn)], ai E (r 0) 892 S]
  refine g_iconst (v := nI 0) F dX9_freeMany_0 (by decide) ?_
  refine g_istore_n (lv2 := [(1, .int (nI 0)), (0, .ref q)]) F dX9_freeMany_1 rfl (by decide) rfl ?_
  refine g_iconst (v := nI 0) F dX9_freeMany_2 (by decide) ?_
  refine g_istore_n (lv2 := [(2, .int (nI 0)), (1, .int (nI 0)), (0, .ref q)]) F dX9_freeMany_3 rfl (by decide) rfl ?_
  have loop4 : ∀ (n : Nat) (i : Nat) (y : Nat), 96 - i < n → (i ≤ 96) → (y = i - cn (sU C) i) → G Γ E 0 0 4 [(0, .ref q), (1, .int (nI y)), (2, .int (nI i))] [] [ob 9 q [.ref (r 0), .ref (r 1), .ref (r 2), .int (nI rc), .ref (r 3), .int (nI tl), .ref (r 4), .ref (r 5), .ref (r 6), .ref (r 7), .ref (r 8), .ref (r 9), .ref (r 10), .ref (r 11), .ref (r 12), .int (nI at9), .int (lf9), .int (pl9), .int (vl9), .int (nI fa), .int (nI rs9), .int (cs), .int (nI dn)], ai E (r 0) 892 S] := by
    intro n
    induction n with
    | zero => intro i y hz; exact absurd hz (Nat.not_lt_zero _)
    | succ n ih4 =>
      intro i y hz4 hi hy
      refine g_iload_n F 2 dX9_freeMany_4 rfl rfl ?_
      refine g_bipush (v := nI 96) F dX9_freeMany_5 (by decide) ?_
      refine g_icmp_geN (tgt := 31) F dX9_freeMany_7 (by decide) (by omega) (by omega) (fun c7 => ?_) (fun c7 => ?_)
      · skip
        refine g_iload_n F 1 dX9_freeMany_31 rfl rfl ?_
        exact hret _ _ _ _ dX9_freeMany_32 ⟨(congrArg nI (by rw [hy, show i = 96 by omega])), rfl⟩
      · skip
        refine g_iload_n F 1 dX9_freeMany_10 rfl rfl ?_
        refine g_iconst (v := nI 1) F dX9_freeMany_11 (by decide) ?_
        refine g_aload_n F 0 dX9_freeMany_12 rfl rfl ?_
        refine g_get F 0 0 dX9_freeMany_13 rfl rfl (by decide) (by decide +kernel) (by decide +kernel) rfl ?_
        refine g_sipush (v := nI 768) F dX9_freeMany_16 (by decide) ?_
        refine g_iload_n F 2 dX9_freeMany_19 rfl rfl ?_
        refine g_iaddN F dX9_freeMany_20 ?_
        refine g_iald F 1 dX9_freeMany_21 rfl (by omega) (by decide) ?_
        refine g_isubN F dX9_freeMany_22 (by rw [hR.2.1 i (by omega)]; exact hI.2.1 i) ?_
        refine g_iaddN F dX9_freeMany_23 ?_
        refine g_istore_n (lv2 := [(1, .int (nI (y + (1 - (S (768 + i)))))), (0, .ref q), (2, .int (nI i))]) F dX9_freeMany_24 rfl (by decide) rfl ?_
        refine g_iinc (k := 2) (v := nI (i + 1)) (lv2 := [(2, .int (nI (i + 1))), (1, .int (nI (y + (1 - (S (768 + i)))))), (0, .ref q)]) F dX9_freeMany_25 rfl (nI_1 _) (by decide) rfl ?_
        refine g_goto (tgt := 4) F dX9_freeMany_28 (by decide) ?_
        refine g_lv [2, 1, 0] rfl ?_
        exact ih4 (i + 1) (y + (1 - (S (768 + i)))) (by omega) (by omega) (by rw [cn_fr _ _ (hI.2.1 i), hy, hR.2.1 i (by omega)])
  refine g_lv [2, 1, 0] rfl ?_
  exact loop4 ((96 - 0) + 1) 0 0 (Nat.lt_succ_self _) (by omega) (by omega)
set_option maxHeartbeats 4000000 in
set_option maxRecDepth 100000 in
theorem c_X9_firstFree (l : Launch) (E : En) (q : Nat) (r : Nat → Nat) (rc : Nat) (tl : Nat) (at9 : Nat) (lf9 : Int32) (pl9 : Int32) (vl9 : Int32) (fa : Nat) (rs9 : Nat) (cs : Int32) (dn : Nat) (S : Nat → Nat) (C : CS) (hR : Rel S C) (hI : IC C) : CtI l yX9_firstFree wsX9_firstFree ({ frames := 0, cells := 0, slots := 0, locals := 0 } : Room) E [.ref q] [ob 9 q [.ref (r 0), .ref (r 1), .ref (r 2), .int (nI rc), .ref (r 3), .int (nI tl), .ref (r 4), .ref (r 5), .ref (r 6), .ref (r 7), .ref (r 8), .ref (r 9), .ref (r 10), .ref (r 11), .ref (r 12), .int (nI at9), .int (lf9), .int (pl9), .int (vl9), .int (nI fa), .int (nI rs9), .int (cs), .int (nI dn)], ai E (r 0) 892 S] (fun rr uu => rr = (lof (sU C)) ∧ uu = [ob 9 q [.ref (r 0), .ref (r 1), .ref (r 2), .int (nI rc), .ref (r 3), .int (nI tl), .ref (r 4), .ref (r 5), .ref (r 6), .ref (r 7), .ref (r 8), .ref (r 9), .ref (r 10), .ref (r 11), .ref (r 12), .int (nI at9), .int (lf9), .int (pl9), .int (vl9), .int (nI fa), .int (nI rs9), .int (cs), .int (nI dn)], ai E (r 0) 892 S]) := by
  refine CtI.of cX9_firstFree 3 RX9 .int rfl (by decide) rfl (Or.inl rfl) (Nat.le_of_ble_eq_true rfl) (fun h => by cases h) ?_
  intro Γ F hret
  show G Γ E 0 0 0 [(0, .ref q)] [] [ob 9 q [.ref (r 0), .ref (r 1), .ref (r 2), .int (nI rc), .ref (r 3), .int (nI tl), .ref (r 4), .ref (r 5), .ref (r 6), .ref (r 7), .ref (r 8), .ref (r 9), .ref (r 10), .ref (r 11), .ref (r 12), .int (nI at9), .int (lf9), .int (pl9), .int (vl9), .int (nI fa), .int (nI rs9), .int (cs), .int (nI dn)], ai E (r 0) 892 S]
  refine g_ldc (v := (-1000004)) F dX9_firstFree_0 (by decide +kernel) ?_
  refine g_istore_n (lv2 := [(1, .int ((-1000004))), (0, .ref q)]) F dX9_firstFree_2 rfl (by decide) rfl ?_
  refine g_bipush (v := nI 95) F dX9_firstFree_3 (by decide) ?_
  refine g_istore_n (lv2 := [(2, .int (nI 95)), (1, .int ((-1000004))), (0, .ref q)]) F dX9_firstFree_5 rfl (by decide) rfl ?_
  have loop6 : ∀ (n : Nat) (k : Nat) (y : Int32), k < n → (k ≤ 96) → (fd (sU C) k y) → G Γ E 0 0 6 [(0, .ref q), (1, .int (y)), (2, .int (nI k + (-1)))] [] [ob 9 q [.ref (r 0), .ref (r 1), .ref (r 2), .int (nI rc), .ref (r 3), .int (nI tl), .ref (r 4), .ref (r 5), .ref (r 6), .ref (r 7), .ref (r 8), .ref (r 9), .ref (r 10), .ref (r 11), .ref (r 12), .int (nI at9), .int (lf9), .int (pl9), .int (vl9), .int (nI fa), .int (nI rs9), .int (cs), .int (nI dn)], ai E (r 0) 892 S] := by
    intro n
    induction n with
    | zero => intro k y hz; exact absurd hz (Nat.not_lt_zero _)
    | succ n ih6 =>
      intro k y hz6 hk hy
      refine g_iload_n F 2 dX9_firstFree_6 rfl rfl ?_
      refine g_if_lt (tgt := 35) F dX9_firstFree_7 (by decide) (fun c7 => ?_) (fun c7 => ?_)
      · skip
        refine g_iload_n F 1 dX9_firstFree_35 rfl rfl ?_
        exact hret _ _ _ _ dX9_firstFree_36 ⟨(by have h0 := m1_zero hk c7; subst h0; exact fd_0 hy), rfl⟩
      · skip
        have h0 := m1_pos hk c7
        have hS := hR.2.1 (k - 1) (by omega)
        have hU9 := hI.2.1 (k - 1)
        refine g_lvC 2 rfl (.int (nI (k - 1))) (by rw [m1_pred h0]) (lv2 := [(0, .ref q), (1, .int (y)), (2, .int (nI (k - 1)))]) rfl ?_
        refine g_aload_n F 0 dX9_firstFree_10 rfl rfl ?_
        refine g_get F 0 0 dX9_firstFree_11 rfl rfl (by decide) (by decide +kernel) (by decide +kernel) rfl ?_
        refine g_sipush (v := nI 768) F dX9_firstFree_14 (by decide) ?_
        refine g_iload_n F 2 dX9_firstFree_17 rfl rfl ?_
        refine g_iaddN F dX9_firstFree_18 ?_
        refine g_iald F 1 dX9_firstFree_19 rfl (by omega) (by decide) ?_
        refine g_if_neN (tgt := 27) F dX9_firstFree_20 (by decide) (by omega) (fun c20 => ?_) (fun c20 => ?_)
        · skip
          refine g_iload_n F 1 dX9_firstFree_27 rfl rfl ?_
          refine g_istore_n (lv2 := [(1, .int (y)), (0, .ref q), (2, .int (nI (k - 1)))]) F dX9_firstFree_28 rfl (by decide) rfl ?_
          refine g_iinc (k := 2) (v := nI (k - 1) + (-1)) (lv2 := [(2, .int (nI (k - 1) + (-1))), (1, .int (y)), (0, .ref q)]) F dX9_firstFree_29 rfl (congrArg ((nI (k - 1)) + ·) (by decide)) (by decide) rfl ?_
          refine g_goto (tgt := 6) F dX9_firstFree_32 (by decide) ?_
          refine g_lv [2, 1, 0] rfl ?_
          exact ih6 (k - 1) y (by have := m1_pos hk c7; omega) (by omega) (by 
                have h0 := m1_pos hk c7; have hS := hR.2.1 (k - 1) (by omega); have hy2 : fd (sU C) (k - 1 + 1) y := by (rw [show k - 1 + 1 = k by omega]; exact hy)
                first
                  | exact fd_a hy2 (by omega) (by rw [← hS]; exact c20)
                  | exact fd_b hy2 (by rw [← hS]; exact c20))
        · skip
          refine g_iload_n F 2 dX9_firstFree_23 rfl rfl ?_
          refine g_goto (tgt := 28) F dX9_firstFree_24 (by decide) ?_
          refine g_istore_n (lv2 := [(1, .int (nI (k - 1))), (0, .ref q), (2, .int (nI (k - 1)))]) F dX9_firstFree_28 rfl (by decide) rfl ?_
          refine g_iinc (k := 2) (v := nI (k - 1) + (-1)) (lv2 := [(2, .int (nI (k - 1) + (-1))), (1, .int (nI (k - 1))), (0, .ref q)]) F dX9_firstFree_29 rfl (congrArg ((nI (k - 1)) + ·) (by decide)) (by decide) rfl ?_
          refine g_goto (tgt := 6) F dX9_firstFree_32 (by decide) ?_
          refine g_lv [2, 1, 0] rfl ?_
          exact ih6 (k - 1) (nI (k - 1)) (by have := m1_pos hk c7; omega) (by omega) (by 
                have h0 := m1_pos hk c7; have hS := hR.2.1 (k - 1) (by omega); have hy2 : fd (sU C) (k - 1 + 1) y := by (rw [show k - 1 + 1 = k by omega]; exact hy)
                first
                  | exact fd_a hy2 (by omega) (by rw [← hS]; exact c20)
                  | exact fd_b hy2 (by rw [← hS]; exact c20))
  refine g_lvC 0 rfl (.int (nI 96 + (-1))) (by decide) (lv2 := [(2, .int (nI 96 + (-1))), (1, .int ((-1000004))), (0, .ref q)]) rfl ?_
  refine g_lv [2, 1, 0] rfl ?_
  exact loop6 (96 + 1) 96 (-1000004) (Nat.lt_succ_self _) (by omega) (by exact Or.inl ⟨rfl, fun k h1 h2 => by omega⟩)
set_option maxHeartbeats 4000000 in
set_option maxRecDepth 100000 in
theorem c_X9_newBlock (l : Launch) (E : En) (q : Nat) (r : Nat → Nat) (rc : Nat) (tl : Nat) (at9 : Nat) (lf9 : Int32) (pl9 : Int32) (vl9 : Int32) (fa : Nat) (rs9 : Nat) (cs : Int32) (dn : Nat) (S : Nat → Nat) (C : CS) (hR : Rel S C) (hI : IC C) (hlt : ff (sU C) 96 < 96) : CtI l yX9_newBlock wsX9_newBlock ({ frames := 1, cells := 0, slots := 0, locals := 22 } : Room) E [.ref q] [ob 9 q [.ref (r 0), .ref (r 1), .ref (r 2), .int (nI rc), .ref (r 3), .int (nI tl), .ref (r 4), .ref (r 5), .ref (r 6), .ref (r 7), .ref (r 8), .ref (r 9), .ref (r 10), .ref (r 11), .ref (r 12), .int (nI at9), .int (lf9), .int (pl9), .int (vl9), .int (nI fa), .int (nI rs9), .int (cs), .int (nI dn)], ai E (r 0) 892 S] (fun rr uu => ∃ (S2 : Nat → Nat), (Rel S2 (uS C (up (sU C) (ff (sU C) 96) 1))) ∧ rr = (nI (ff (sU C) 96)) ∧ uu = [ob 9 q [.ref (r 0), .ref (r 1), .ref (r 2), .int (nI rc), .ref (r 3), .int (nI tl), .ref (r 4), .ref (r 5), .ref (r 6), .ref (r 7), .ref (r 8), .ref (r 9), .ref (r 10), .ref (r 11), .ref (r 12), .int (nI at9), .int (lf9), .int (pl9), .int (vl9), .int (nI fa), .int (nI rs9), .int (cs), .int (nI dn)], ai E (r 0) 892 S2]) := by
  refine CtI.of cX9_newBlock 2 RX9 .int rfl (by decide) rfl (Or.inl rfl) (Nat.le_of_ble_eq_true rfl) (fun h => by cases h) ?_
  intro Γ F hret
  show G Γ E 0 0 0 [(0, .ref q)] [] [ob 9 q [.ref (r 0), .ref (r 1), .ref (r 2), .int (nI rc), .ref (r 3), .int (nI tl), .ref (r 4), .ref (r 5), .ref (r 6), .ref (r 7), .ref (r 8), .ref (r 9), .ref (r 10), .ref (r 11), .ref (r 12), .int (nI at9), .int (lf9), .int (pl9), .int (vl9), .int (nI fa), .int (nI rs9), .int (cs), .int (nI dn)], ai E (r 0) 892 S]
  refine g_aload_n F 0 dX9_newBlock_0 rfl rfl ?_
  refine g_callViR (n := 0) F [0, 1] (c_X9_firstFree l E q r rc tl at9 lf9 pl9 vl9 fa rs9 cs dn S C (by assumption) (by assumption)) dX9_newBlock_1 rfl (by decide) rfl rfl rfl (Nat.le_of_ble_eq_true rfl) ⟨Nat.le_of_ble_eq_true rfl, Nat.le_of_ble_eq_true rfl⟩ rfl rfl ⟨Nat.le_of_ble_eq_true rfl, Nat.le_of_ble_eq_true rfl⟩ 0 rfl rfl gX9_newBlock_X9_firstFree (by decide +kernel) (fun r u hp => by obtain ⟨-, h⟩ := hp; exact h) ?_
  rintro r_1 u_1 ⟨rfl, -⟩
  refine g_top (lof (sU C)) (nI (ff (sU C) 96)) (by exact if_pos hlt) ?_
  refine g_istore_n (lv2 := [(1, .int (nI (ff (sU C) 96))), (0, .ref q)]) F dX9_newBlock_4 rfl (by decide) rfl ?_
  refine g_aload_n F 1 dX9_newBlock_5 rfl rfl ?_
  refine g_get F 0 0 dX9_newBlock_6 rfl rfl (by decide) (by decide +kernel) (by decide +kernel) rfl ?_
  refine g_sipush (v := nI 768) F dX9_newBlock_9 (by decide) ?_
  refine g_iload_n F 0 dX9_newBlock_12 rfl rfl ?_
  refine g_iaddN F dX9_newBlock_13 ?_
  refine g_iconst (v := nI 1) F dX9_newBlock_14 (by decide) ?_
  refine g_iast F 1 dX9_newBlock_15 rfl (by omega) (by decide) (w2 := [ob 9 q [.ref (r 0), .ref (r 1), .ref (r 2), .int (nI rc), .ref (r 3), .int (nI tl), .ref (r 4), .ref (r 5), .ref (r 6), .ref (r 7), .ref (r 8), .ref (r 9), .ref (r 10), .ref (r 11), .ref (r 12), .int (nI at9), .int (lf9), .int (pl9), .int (vl9), .int (nI fa), .int (nI rs9), .int (cs), .int (nI dn)], ai E (r 0) 892 (up S (768 + (ff (sU C) 96)) 1)]) rfl ?_
  refine g_iload_n F 0 dX9_newBlock_16 rfl rfl ?_
  exact hret _ _ _ _ dX9_newBlock_17 ⟨(up S (768 + (ff (sU C) 96)) 1), (by exact hR.use hlt), rfl, (by rfl)⟩
