/-! the reference's texts -/
theorem prw_1 {t : Nat → Nat} {L a : Nat} (h1 : nd t L a 2 = 0) : prw t L a = (0, a, 0, 0, 0) := by
  unfold prw
  dsimp only
  rw [if_pos h1]
theorem prw_2 {t : Nat → Nat} {L a : Nat} (h1 : ¬ nd t L a 2 = 0) (h2 : ¬ (a + nd t L a 2 < L ∧ t (a + nd t L a 2) = 46)) : prw t L a = (0, a + nd t L a 2, 0, 0, 0) := by
  unfold prw
  dsimp only
  rw [if_neg h1, if_pos h2]
theorem prw_3 {t : Nat → Nat} {L a : Nat} (h1 : ¬ nd t L a 2 = 0) (h2 : a + nd t L a 2 < L ∧ t (a + nd t L a 2) = 46) (h3 : nd t L (a + nd t L a 2 + 1) 1 = 0) : prw t L a = (0, a + nd t L a 2 + 1, 0, 0, 0) := by
  unfold prw
  dsimp only
  rw [if_neg h1, if_neg (fun z => z h2), if_pos h3]
theorem prw_4 {t : Nat → Nat} {L a : Nat} (h1 : ¬ nd t L a 2 = 0) (h2 : a + nd t L a 2 < L ∧ t (a + nd t L a 2) = 46) (h3 : ¬ nd t L (a + nd t L a 2 + 1) 1 = 0) (h4 : ¬ (a + nd t L a 2 + 1 + nd t L (a + nd t L a 2 + 1) 1 < L ∧ t (a + nd t L a 2 + 1 + nd t L (a + nd t L a 2 + 1) 1) = 61)) : prw t L a = (0, a + nd t L a 2 + 1 + nd t L (a + nd t L a 2 + 1) 1, 0, 0, 0) := by
  unfold prw
  dsimp only
  rw [if_neg h1, if_neg (fun z => z h2), if_neg h3, if_pos h4]
theorem prw_5 {t : Nat → Nat} {L a : Nat} (h1 : ¬ nd t L a 2 = 0) (h2 : a + nd t L a 2 < L ∧ t (a + nd t L a 2) = 46) (h3 : ¬ nd t L (a + nd t L a 2 + 1) 1 = 0) (h4 : a + nd t L a 2 + 1 + nd t L (a + nd t L a 2 + 1) 1 < L ∧ t (a + nd t L a 2 + 1 + nd t L (a + nd t L a 2 + 1) 1) = 61) (h5 : nd t L (a + nd t L a 2 + 1 + nd t L (a + nd t L a 2 + 1) 1 + 1) 3 = 0) : prw t L a = (0, a + nd t L a 2 + 1 + nd t L (a + nd t L a 2 + 1) 1 + 1, 0, 0, 0) := by
  unfold prw
  dsimp only
  rw [if_neg h1, if_neg (fun z => z h2), if_neg h3, if_neg (fun z => z h4), if_pos h5]
theorem prw_6 {t : Nat → Nat} {L a : Nat} (h1 : ¬ nd t L a 2 = 0) (h2 : a + nd t L a 2 < L ∧ t (a + nd t L a 2) = 46) (h3 : ¬ nd t L (a + nd t L a 2 + 1) 1 = 0) (h4 : a + nd t L a 2 + 1 + nd t L (a + nd t L a 2 + 1) 1 < L ∧ t (a + nd t L a 2 + 1 + nd t L (a + nd t L a 2 + 1) 1) = 61) (h5 : ¬ nd t L (a + nd t L a 2 + 1 + nd t L (a + nd t L a 2 + 1) 1 + 1) 3 = 0) (h6 : ¬ (a + nd t L a 2 + 1 + nd t L (a + nd t L a 2 + 1) 1 + 1 + nd t L (a + nd t L a 2 + 1 + nd t L (a + nd t L a 2 + 1) 1 + 1) 3 < L ∧ t (a + nd t L a 2 + 1 + nd t L (a + nd t L a 2 + 1) 1 + 1 + nd t L (a + nd t L a 2 + 1 + nd t L (a + nd t L a 2 + 1) 1 + 1) 3) = 59)) : prw t L a = (0, a + nd t L a 2 + 1 + nd t L (a + nd t L a 2 + 1) 1 + 1 + nd t L (a + nd t L a 2 + 1 + nd t L (a + nd t L a 2 + 1) 1 + 1) 3, 0, 0, 0) := by
  unfold prw
  dsimp only
  rw [if_neg h1, if_neg (fun z => z h2), if_neg h3, if_neg (fun z => z h4), if_neg h5, if_pos h6]
theorem prw_7 {t : Nat → Nat} {L a : Nat} (h1 : ¬ nd t L a 2 = 0) (h2 : a + nd t L a 2 < L ∧ t (a + nd t L a 2) = 46) (h3 : ¬ nd t L (a + nd t L a 2 + 1) 1 = 0) (h4 : a + nd t L a 2 + 1 + nd t L (a + nd t L a 2 + 1) 1 < L ∧ t (a + nd t L a 2 + 1 + nd t L (a + nd t L a 2 + 1) 1) = 61) (h5 : ¬ nd t L (a + nd t L a 2 + 1 + nd t L (a + nd t L a 2 + 1) 1 + 1) 3 = 0) (h6 : a + nd t L a 2 + 1 + nd t L (a + nd t L a 2 + 1) 1 + 1 + nd t L (a + nd t L a 2 + 1 + nd t L (a + nd t L a 2 + 1) 1 + 1) 3 < L ∧ t (a + nd t L a 2 + 1 + nd t L (a + nd t L a 2 + 1) 1 + 1 + nd t L (a + nd t L a 2 + 1 + nd t L (a + nd t L a 2 + 1) 1 + 1) 3) = 59) : prw t L a = (1, a + nd t L a 2 + 1 + nd t L (a + nd t L a 2 + 1) 1 + 1 + nd t L (a + nd t L a 2 + 1 + nd t L (a + nd t L a 2 + 1) 1 + 1) 3 + 1, pv t a (nd t L a 2), pv t (a + nd t L a 2 + 1) (nd t L (a + nd t L a 2 + 1) 1), pv t (a + nd t L a 2 + 1 + nd t L (a + nd t L a 2 + 1) 1 + 1) (nd t L (a + nd t L a 2 + 1 + nd t L (a + nd t L a 2 + 1) 1 + 1) 3)) := by
  unfold prw
  dsimp only
  rw [if_neg h1, if_neg (fun z => z h2), if_neg h3, if_neg (fun z => z h4), if_neg h5, if_neg (fun z => z h6)]
def tn (t : Nat → Nat) (L a m : Nat) : Int32 := if nd t L a m = 0 then (-1) else nI (pv t a (nd t L a m))
theorem pv_bd {t : Nat → Nat} {L a m : Nat} (hm : m ≤ 3) : pv t a (nd t L a m) < 1000 := Nat.lt_of_lt_of_le (pv_lt _ (fun k hk => (nd_dig (t := t) (L := L) m a k hk).2.2)) (Nat.pow_le_pow_right (by decide) (Nat.le_trans (nd_le t L m a) hm))
theorem tn_neg {t : Nat → Nat} {L a m : Nat} (hm : m ≤ 3) (h : tn t L a m < 0) : nd t L a m = 0 := by
  by_cases z : nd t L a m = 0
  · exact z
  · exfalso
    unfold tn at h
    rw [if_neg z] at h
    have := pv_bd (t := t) (L := L) (a := a) hm
    exact nI_pos (by omega) h
theorem tn_pos {t : Nat → Nat} {L a m : Nat} (h : ¬ tn t L a m < 0) : ¬ nd t L a m = 0 := fun z => by
  unfold tn at h
  rw [if_pos z] at h
  exact h (by decide)
theorem tn_is {t : Nat → Nat} {L a m : Nat} (h : ¬ nd t L a m = 0) : tn t L a m = nI (pv t a (nd t L a m)) := if_neg h
/-- the reference goes through the text: still on its way, or stopped at a fault -/
def PI (t : Nat → Nat) (L : Nat) (C0 C : CS) (a n re fa : Nat) (ca : Int32) (f : Nat) : Prop :=
  (re = 0 ∧ a ≤ L ∧ L < f + a ∧ trF t L f C a n = tr0 t L C0) ∨ (¬ re = 0 ∧ (tr0 t L C0).1 = fa ∧ (tr0 t L C0).2.1 = re ∧ (tr0 t L C0).2.2.2.1 = n ∧ (tr0 t L C0).2.2.2.2 = C ∧ (re = 2 → ca = -1000004) ∧ (¬ re = 2 → (tr0 t L C0).2.2.1 = ca))
theorem PI_end {t : Nat → Nat} {L : Nat} {C0 C : CS} {a n re fa : Nat} {ca : Int32} {f : Nat} (h : PI t L C0 C a n re fa ca f) (he : L ≤ a ∨ ¬ re = 0) : (tr0 t L C0).2.1 = re ∧ (tr0 t L C0).2.2.2.1 = n ∧ (tr0 t L C0).2.2.2.2 = C ∧ (¬ re = 0 → (tr0 t L C0).1 = fa) ∧ (re = 2 → ca = -1000004) ∧ (¬ re = 0 → ¬ re = 2 → (tr0 t L C0).2.2.1 = ca) := by
  rcases h with ⟨h1, h2, h3, h4⟩ | ⟨h1, h2, h3, h4, h5, h6, h7⟩
  · have h8 : L ≤ a := he.resolve_right (fun z => z h1)
    obtain ⟨g, rfl⟩ : ∃ g, f = g + 1 := ⟨f - 1, by omega⟩
    rw [trF_end h8] at h4
    rw [← h4]
    exact ⟨h1.symm, rfl, rfl, fun z => absurd h1 z, fun z => by omega, fun z => absurd h1 z⟩
  · exact ⟨h3, h4, h5, fun _ => h2, h6, fun _ z => h7 z⟩
theorem PI_run {t : Nat → Nat} {L : Nat} {C0 C : CS} {a n re fa : Nat} {ca : Int32} {f : Nat} (h : PI t L C0 C a n re fa ca f) (h0 : re = 0) (ha : a < L) : ∃ g : Nat, f = g + 1 ∧ L < g + 1 + a ∧ trF t L (g + 1) C a n = tr0 t L C0 := by
  rcases h with ⟨h1, h2, h3, h4⟩ | ⟨h1, -⟩
  · obtain ⟨g, rfl⟩ : ∃ g, f = g + 1 := ⟨f - 1, by omega⟩
    exact ⟨g, rfl, h3, h4⟩
  · exact absurd h0 h1
set_option maxHeartbeats 4000000 in
set_option maxRecDepth 100000 in
theorem c_X9_takeNumber (l : Launch) (E : En) (q : Nat) (r : Nat → Nat) (rc : Nat) (tl : Nat) (at9 : Nat) (lf9 : Int32) (pl9 : Int32) (vl9 : Int32) (fa : Nat) (rs9 : Nat) (cs : Int32) (dn : Nat) (t : Nat → Nat) (m : Nat) (hL : tl ≤ 60) (ha : at9 ≤ tl) (ht : BT t) (hm : m ≤ 3) : CtI l yX9_takeNumber wsX9_takeNumber ({ frames := 1, cells := 0, slots := 0, locals := 22 } : Room) E [.ref q, .int (nI m)] [ob 9 q [.ref (r 0), .ref (r 1), .ref (r 2), .int (nI rc), .ref (r 3), .int (nI tl), .ref (r 4), .ref (r 5), .ref (r 6), .ref (r 7), .ref (r 8), .ref (r 9), .ref (r 10), .ref (r 11), .ref (r 12), .int (nI at9), .int (lf9), .int (pl9), .int (vl9), .int (nI fa), .int (nI rs9), .int (cs), .int (nI dn)], ai E (r 3) 60 t] (fun rr uu => rr = (tn t tl at9 m) ∧ uu = [ob 9 q [.ref (r 0), .ref (r 1), .ref (r 2), .int (nI rc), .ref (r 3), .int (nI tl), .ref (r 4), .ref (r 5), .ref (r 6), .ref (r 7), .ref (r 8), .ref (r 9), .ref (r 10), .ref (r 11), .ref (r 12), .int (nI (at9 + nd t tl at9 m)), .int (lf9), .int (pl9), .int (vl9), .int (nI fa), .int (nI rs9), .int (cs), .int (nI dn)], ai E (r 3) 60 t]) := by
  refine CtI.of cX9_takeNumber 4 RX9 .int rfl (by decide) rfl (Or.inl rfl) (Nat.le_of_ble_eq_true rfl) (fun h => by cases h) ?_
  intro Γ F hret
  show G Γ E 0 0 0 [(0, .ref q), (1, .int (nI m))] [] [ob 9 q [.ref (r 0), .ref (r 1), .ref (r 2), .int (nI rc), .ref (r 3), .int (nI tl), .ref (r 4), .ref (r 5), .ref (r 6), .ref (r 7), .ref (r 8), .ref (r 9), .ref (r 10), .ref (r 11), .ref (r 12), .int (nI at9), .int (lf9), .int (pl9), .int (vl9), .int (nI fa), .int (nI rs9), .int (cs), .int (nI dn)], ai E (r 3) 60 t]
  refine g_iconst (v := (-1)) F dX9_takeNumber_0 (by decide) ?_
  refine g_istore_n (lv2 := [(2, .int ((-1))), (0, .ref q), (1, .int (nI m))]) F dX9_takeNumber_1 rfl (by decide) rfl ?_
  refine g_iconst (v := nI 0) F dX9_takeNumber_2 (by decide) ?_
  refine g_istore_n (lv2 := [(3, .int (nI 0)), (2, .int ((-1))), (0, .ref q), (1, .int (nI m))]) F dX9_takeNumber_3 rfl (by decide) rfl ?_
  have loop4 : ∀ (n : Nat) (i : Nat) (v : Int32), 4 - i < n → (i ≤ m) → (v = if i = 0 then (-1) else nI (pv t at9 i)) → (∀ k : Nat, k < i → at9 + k < tl ∧ 48 ≤ t (at9 + k) ∧ t (at9 + k) ≤ 57) → (at9 + i ≤ tl) → G Γ E 0 0 4 [(0, .ref q), (1, .int (nI m)), (2, .int (v)), (3, .int (nI i))] [] [ob 9 q [.ref (r 0), .ref (r 1), .ref (r 2), .int (nI rc), .ref (r 3), .int (nI tl), .ref (r 4), .ref (r 5), .ref (r 6), .ref (r 7), .ref (r 8), .ref (r 9), .ref (r 10), .ref (r 11), .ref (r 12), .int (nI (at9 + i)), .int (lf9), .int (pl9), .int (vl9), .int (nI fa), .int (nI rs9), .int (cs), .int (nI dn)], ai E (r 3) 60 t] := by
    intro n
    induction n with
    | zero => intro i v hz; exact absurd hz (Nat.not_lt_zero _)
    | succ n ih4 =>
      intro i v hz4 hi hv hk hai
      refine g_iload_n F 3 dX9_takeNumber_4 rfl rfl ?_
      refine g_iload_n F 1 dX9_takeNumber_5 rfl rfl ?_
      refine g_icmp_geN (tgt := 81) F dX9_takeNumber_6 (by decide) (by omega) (by omega) (fun c6 => ?_) (fun c6 => ?_)
      · skip
        have hnd : nd t tl at9 m = i := by
          rw [nd_all m at9 i hi hk, nd_stop (Or.inl (by omega)), Nat.add_zero]
        refine g_iload_n F 2 dX9_takeNumber_81 rfl rfl ?_
        refine g_obC 0 rfl [.ref (r 0), .ref (r 1), .ref (r 2), .int (nI rc), .ref (r 3), .int (nI tl), .ref (r 4), .ref (r 5), .ref (r 6), .ref (r 7), .ref (r 8), .ref (r 9), .ref (r 10), .ref (r 11), .ref (r 12), .int (nI (at9 + nd t tl at9 m)), .int (lf9), .int (pl9), .int (vl9), .int (nI fa), .int (nI rs9), .int (cs), .int (nI dn)] (by rw [hnd]) (w2 := [ob 9 q [.ref (r 0), .ref (r 1), .ref (r 2), .int (nI rc), .ref (r 3), .int (nI tl), .ref (r 4), .ref (r 5), .ref (r 6), .ref (r 7), .ref (r 8), .ref (r 9), .ref (r 10), .ref (r 11), .ref (r 12), .int (nI (at9 + nd t tl at9 m)), .int (lf9), .int (pl9), .int (vl9), .int (nI fa), .int (nI rs9), .int (cs), .int (nI dn)], ai E (r 3) 60 t]) rfl ?_
        exact hret _ _ _ _ dX9_takeNumber_82 ⟨(by unfold tn; rw [hnd, hv]), rfl⟩
      · skip
        refine g_aload_n F 0 dX9_takeNumber_9 rfl rfl ?_
        refine g_get F 0 15 dX9_takeNumber_10 rfl rfl (by decide) (by decide +kernel) (by decide +kernel) rfl ?_
        refine g_aload_n F 0 dX9_takeNumber_13 rfl rfl ?_
        refine g_get F 0 5 dX9_takeNumber_14 rfl rfl (by decide) (by decide +kernel) (by decide +kernel) rfl ?_
        refine g_icmp_geN (tgt := 81) F dX9_takeNumber_17 (by decide) (by omega) (by omega) (fun c17 => ?_) (fun c17 => ?_)
        · skip
          have hnd : nd t tl at9 m = i := by
            rw [nd_all m at9 i hi hk, nd_stop (Or.inr (fun h => by omega)), Nat.add_zero]
          refine g_iload_n F 2 dX9_takeNumber_81 rfl rfl ?_
          refine g_obC 0 rfl [.ref (r 0), .ref (r 1), .ref (r 2), .int (nI rc), .ref (r 3), .int (nI tl), .ref (r 4), .ref (r 5), .ref (r 6), .ref (r 7), .ref (r 8), .ref (r 9), .ref (r 10), .ref (r 11), .ref (r 12), .int (nI (at9 + nd t tl at9 m)), .int (lf9), .int (pl9), .int (vl9), .int (nI fa), .int (nI rs9), .int (cs), .int (nI dn)] (by rw [hnd]) (w2 := [ob 9 q [.ref (r 0), .ref (r 1), .ref (r 2), .int (nI rc), .ref (r 3), .int (nI tl), .ref (r 4), .ref (r 5), .ref (r 6), .ref (r 7), .ref (r 8), .ref (r 9), .ref (r 10), .ref (r 11), .ref (r 12), .int (nI (at9 + nd t tl at9 m)), .int (lf9), .int (pl9), .int (vl9), .int (nI fa), .int (nI rs9), .int (cs), .int (nI dn)], ai E (r 3) 60 t]) rfl ?_
          exact hret _ _ _ _ dX9_takeNumber_82 ⟨(by unfold tn; rw [hnd, hv]), rfl⟩
        · skip
          refine g_aload_n F 0 dX9_takeNumber_20 rfl rfl ?_
          refine g_get F 0 4 dX9_takeNumber_21 rfl rfl (by decide) (by decide +kernel) (by decide +kernel) rfl ?_
          refine g_aload_n F 0 dX9_takeNumber_24 rfl rfl ?_
          refine g_get F 0 15 dX9_takeNumber_25 rfl rfl (by decide) (by decide +kernel) (by decide +kernel) rfl ?_
          refine g_iald F 1 dX9_takeNumber_28 rfl (by omega) (by decide) ?_
          refine g_bipush (v := nI 48) F dX9_takeNumber_29 (by decide) ?_
          refine g_bipush (v := nI 57) F dX9_takeNumber_31 (by decide) ?_
          refine g_callSiR (n := 3) F [] (c_X9_within l E (t (at9 + i)) 48 57 (by exact Nat.lt_trans (ht _) (by decide)) (by omega) (by omega)) dX9_takeNumber_33 rfl (by decide) rfl rfl rfl (Nat.le_of_ble_eq_true rfl) ⟨Nat.le_of_ble_eq_true rfl, Nat.le_of_ble_eq_true rfl⟩ rfl rfl ⟨Nat.le_of_ble_eq_true rfl, Nat.le_of_ble_eq_true rfl⟩ ggX9_takeNumber_X9_within (by decide +kernel) (by decide +kernel) (by decide +kernel) (by decide +kernel) (fun r u hp => by obtain ⟨-, h⟩ := hp; exact h) ?_
          rintro r_33 u_33 ⟨rfl, -⟩
          refine g_if_eqB (tgt := 81) F dX9_takeNumber_36 (by decide) (fun c36 => ?_) (fun c36 => ?_)
          · skip
            have hnd : nd t tl at9 m = i := by
              rw [nd_all m at9 i hi hk, nd_stop (Or.inr (fun h => c36 h.2)), Nat.add_zero]
            refine g_iload_n F 2 dX9_takeNumber_81 rfl rfl ?_
            refine g_obC 0 rfl [.ref (r 0), .ref (r 1), .ref (r 2), .int (nI rc), .ref (r 3), .int (nI tl), .ref (r 4), .ref (r 5), .ref (r 6), .ref (r 7), .ref (r 8), .ref (r 9), .ref (r 10), .ref (r 11), .ref (r 12), .int (nI (at9 + nd t tl at9 m)), .int (lf9), .int (pl9), .int (vl9), .int (nI fa), .int (nI rs9), .int (cs), .int (nI dn)] (by rw [hnd]) (w2 := [ob 9 q [.ref (r 0), .ref (r 1), .ref (r 2), .int (nI rc), .ref (r 3), .int (nI tl), .ref (r 4), .ref (r 5), .ref (r 6), .ref (r 7), .ref (r 8), .ref (r 9), .ref (r 10), .ref (r 11), .ref (r 12), .int (nI (at9 + nd t tl at9 m)), .int (lf9), .int (pl9), .int (vl9), .int (nI fa), .int (nI rs9), .int (cs), .int (nI dn)], ai E (r 3) 60 t]) rfl ?_
            exact hret _ _ _ _ dX9_takeNumber_82 ⟨(by unfold tn; rw [hnd, hv]), rfl⟩
          · skip
            have hzl : pv t at9 i < 10 ^ i := pv_lt i (fun k hk2 => (hk k hk2).2.2)
            have hzl2 : 10 ^ i ≤ 10 ^ 3 := Nat.pow_le_pow_right (by decide) (by omega)
            have hti := ht (at9 + i)
            refine g_iload_n F 2 dX9_takeNumber_39 rfl rfl ?_
            refine g_if_ge (tgt := 47) F dX9_takeNumber_40 (by decide) (fun c40 => ?_) (fun c40 => ?_)
            · skip
              have hi0 : ¬ i = 0 := fun z => by
                rw [hv, if_pos z] at c40; exact absurd c40 (by decide)
              refine g_lvC 2 rfl (.int (nI (pv t at9 i))) (by rw [hv, if_neg hi0]) (lv2 := [(0, .ref q), (1, .int (nI m)), (2, .int (nI (pv t at9 i))), (3, .int (nI i))]) rfl ?_
              refine g_bipush (v := nI 10) F dX9_takeNumber_47 (by decide) ?_
              refine g_iload_n F 2 dX9_takeNumber_49 rfl rfl ?_
              refine g_imulN F dX9_takeNumber_50 ?_
              refine g_aload_n F 0 dX9_takeNumber_51 rfl rfl ?_
              refine g_get F 0 4 dX9_takeNumber_52 rfl rfl (by decide) (by decide +kernel) (by decide +kernel) rfl ?_
              refine g_aload_n F 0 dX9_takeNumber_55 rfl rfl ?_
              refine g_get F 0 15 dX9_takeNumber_56 rfl rfl (by decide) (by decide +kernel) (by decide +kernel) rfl ?_
              refine g_iald F 1 dX9_takeNumber_59 rfl (by omega) (by decide) ?_
              refine g_iaddN F dX9_takeNumber_60 ?_
              refine g_bipush (v := nI 48) F dX9_takeNumber_61 (by decide) ?_
              refine g_isubN F dX9_takeNumber_63 (by omega) ?_
              refine g_top (nI (((10 * (pv t at9 i)) + (t (at9 + i))) - 48)) (nI (pv t at9 (i + 1))) (by refine congrArg nI ?_; show _ = 10 * pv t at9 i + (t (at9 + i) - 48); omega) ?_
              refine g_istore_n (lv2 := [(2, .int (nI (pv t at9 (i + 1)))), (0, .ref q), (1, .int (nI m)), (3, .int (nI i))]) F dX9_takeNumber_64 rfl (by decide) rfl ?_
              refine g_aload_n F 1 dX9_takeNumber_65 rfl rfl ?_
              refine g_dup F dX9_takeNumber_66 rfl ?_
              refine g_get F 0 15 dX9_takeNumber_67 rfl rfl (by decide) (by decide +kernel) (by decide +kernel) rfl ?_
              refine g_iconst (v := nI 1) F dX9_takeNumber_70 (by decide) ?_
              refine g_iaddN F dX9_takeNumber_71 ?_
              refine g_put F 0 15 dX9_takeNumber_72 rfl rfl (by decide) (by decide +kernel) (by decide +kernel) tyX9_ok nmX9 rfl (by decide +kernel) rfl rfl (Nat.le_of_ble_eq_true rfl) rfl (ty := .int) (w2 := [ob 9 q [.ref (r 0), .ref (r 1), .ref (r 2), .int (nI rc), .ref (r 3), .int (nI tl), .ref (r 4), .ref (r 5), .ref (r 6), .ref (r 7), .ref (r 8), .ref (r 9), .ref (r 10), .ref (r 11), .ref (r 12), .int (nI ((at9 + i) + 1)), .int (lf9), .int (pl9), .int (vl9), .int (nI fa), .int (nI rs9), .int (cs), .int (nI dn)], ai E (r 3) 60 t]) rfl ?_
              refine g_iinc (k := 3) (v := nI (i + 1)) (lv2 := [(3, .int (nI (i + 1))), (2, .int (nI (pv t at9 (i + 1)))), (0, .ref q), (1, .int (nI m))]) F dX9_takeNumber_75 rfl (nI_1 _) (by decide) rfl ?_
              refine g_goto (tgt := 4) F dX9_takeNumber_78 (by decide) ?_
              refine g_obC 0 rfl [.ref (r 0), .ref (r 1), .ref (r 2), .int (nI rc), .ref (r 3), .int (nI tl), .ref (r 4), .ref (r 5), .ref (r 6), .ref (r 7), .ref (r 8), .ref (r 9), .ref (r 10), .ref (r 11), .ref (r 12), .int (nI (at9 + (i + 1))), .int (lf9), .int (pl9), .int (vl9), .int (nI fa), .int (nI rs9), .int (cs), .int (nI dn)] (by rw [Nat.add_assoc]) (w2 := [ob 9 q [.ref (r 0), .ref (r 1), .ref (r 2), .int (nI rc), .ref (r 3), .int (nI tl), .ref (r 4), .ref (r 5), .ref (r 6), .ref (r 7), .ref (r 8), .ref (r 9), .ref (r 10), .ref (r 11), .ref (r 12), .int (nI (at9 + (i + 1))), .int (lf9), .int (pl9), .int (vl9), .int (nI fa), .int (nI rs9), .int (cs), .int (nI dn)], ai E (r 3) 60 t]) rfl ?_
              refine g_lv [2, 3, 1, 0] rfl ?_
              exact ih4 (i + 1) (nI (pv t at9 (i + 1))) (by omega) (by omega) (by rw [if_neg (by omega)]) (by intro k hk2; by_cases h : k = i; (rw [h]; exact ⟨c17, c36⟩); exact hk k (by omega)) (by omega)
            · skip
              have hi0 : i = 0 := by
                by_cases z : i = 0
                · exact z
                · exact absurd (by rw [hv, if_neg z]; exact nI_pos' (by omega)) c40
              refine g_iconst (v := nI 0) F dX9_takeNumber_43 (by decide) ?_
              refine g_goto (tgt := 51) F dX9_takeNumber_44 (by decide) ?_
              refine g_aload_n F 0 dX9_takeNumber_51 rfl rfl ?_
              refine g_get F 0 4 dX9_takeNumber_52 rfl rfl (by decide) (by decide +kernel) (by decide +kernel) rfl ?_
              refine g_aload_n F 0 dX9_takeNumber_55 rfl rfl ?_
              refine g_get F 0 15 dX9_takeNumber_56 rfl rfl (by decide) (by decide +kernel) (by decide +kernel) rfl ?_
              refine g_iald F 1 dX9_takeNumber_59 rfl (by omega) (by decide) ?_
              refine g_iaddN F dX9_takeNumber_60 ?_
              refine g_bipush (v := nI 48) F dX9_takeNumber_61 (by decide) ?_
              refine g_isubN F dX9_takeNumber_63 (by omega) ?_
              refine g_top (nI ((0 + (t (at9 + i))) - 48)) (nI (pv t at9 (i + 1))) (by refine congrArg nI ?_; show _ = 10 * pv t at9 i + (t (at9 + i) - 48); rw [hi0]; show _ = 10 * 0 + _; omega) ?_
              refine g_istore_n (lv2 := [(2, .int (nI (pv t at9 (i + 1)))), (0, .ref q), (1, .int (nI m)), (3, .int (nI i))]) F dX9_takeNumber_64 rfl (by decide) rfl ?_
              refine g_aload_n F 1 dX9_takeNumber_65 rfl rfl ?_
              refine g_dup F dX9_takeNumber_66 rfl ?_
              refine g_get F 0 15 dX9_takeNumber_67 rfl rfl (by decide) (by decide +kernel) (by decide +kernel) rfl ?_
              refine g_iconst (v := nI 1) F dX9_takeNumber_70 (by decide) ?_
              refine g_iaddN F dX9_takeNumber_71 ?_
              refine g_put F 0 15 dX9_takeNumber_72 rfl rfl (by decide) (by decide +kernel) (by decide +kernel) tyX9_ok nmX9 rfl (by decide +kernel) rfl rfl (Nat.le_of_ble_eq_true rfl) rfl (ty := .int) (w2 := [ob 9 q [.ref (r 0), .ref (r 1), .ref (r 2), .int (nI rc), .ref (r 3), .int (nI tl), .ref (r 4), .ref (r 5), .ref (r 6), .ref (r 7), .ref (r 8), .ref (r 9), .ref (r 10), .ref (r 11), .ref (r 12), .int (nI ((at9 + i) + 1)), .int (lf9), .int (pl9), .int (vl9), .int (nI fa), .int (nI rs9), .int (cs), .int (nI dn)], ai E (r 3) 60 t]) rfl ?_
              refine g_iinc (k := 3) (v := nI (i + 1)) (lv2 := [(3, .int (nI (i + 1))), (2, .int (nI (pv t at9 (i + 1)))), (0, .ref q), (1, .int (nI m))]) F dX9_takeNumber_75 rfl (nI_1 _) (by decide) rfl ?_
              refine g_goto (tgt := 4) F dX9_takeNumber_78 (by decide) ?_
              refine g_obC 0 rfl [.ref (r 0), .ref (r 1), .ref (r 2), .int (nI rc), .ref (r 3), .int (nI tl), .ref (r 4), .ref (r 5), .ref (r 6), .ref (r 7), .ref (r 8), .ref (r 9), .ref (r 10), .ref (r 11), .ref (r 12), .int (nI (at9 + (i + 1))), .int (lf9), .int (pl9), .int (vl9), .int (nI fa), .int (nI rs9), .int (cs), .int (nI dn)] (by rw [Nat.add_assoc]) (w2 := [ob 9 q [.ref (r 0), .ref (r 1), .ref (r 2), .int (nI rc), .ref (r 3), .int (nI tl), .ref (r 4), .ref (r 5), .ref (r 6), .ref (r 7), .ref (r 8), .ref (r 9), .ref (r 10), .ref (r 11), .ref (r 12), .int (nI (at9 + (i + 1))), .int (lf9), .int (pl9), .int (vl9), .int (nI fa), .int (nI rs9), .int (cs), .int (nI dn)], ai E (r 3) 60 t]) rfl ?_
              refine g_lv [2, 3, 1, 0] rfl ?_
              exact ih4 (i + 1) (nI (pv t at9 (i + 1))) (by omega) (by omega) (by rw [if_neg (by omega)]) (by intro k hk2; by_cases h : k = i; (rw [h]; exact ⟨c17, c36⟩); exact hk k (by omega)) (by omega)
  refine g_obC 0 rfl [.ref (r 0), .ref (r 1), .ref (r 2), .int (nI rc), .ref (r 3), .int (nI tl), .ref (r 4), .ref (r 5), .ref (r 6), .ref (r 7), .ref (r 8), .ref (r 9), .ref (r 10), .ref (r 11), .ref (r 12), .int (nI (at9 + 0)), .int (lf9), .int (pl9), .int (vl9), .int (nI fa), .int (nI rs9), .int (cs), .int (nI dn)] (by rfl) (w2 := [ob 9 q [.ref (r 0), .ref (r 1), .ref (r 2), .int (nI rc), .ref (r 3), .int (nI tl), .ref (r 4), .ref (r 5), .ref (r 6), .ref (r 7), .ref (r 8), .ref (r 9), .ref (r 10), .ref (r 11), .ref (r 12), .int (nI (at9 + 0)), .int (lf9), .int (pl9), .int (vl9), .int (nI fa), .int (nI rs9), .int (cs), .int (nI dn)], ai E (r 3) 60 t]) rfl ?_
  refine g_lv [2, 3, 1, 0] rfl ?_
  exact loop4 ((4 - 0) + 1) 0 (-1) (Nat.lt_succ_self _) (by omega) (by rfl) (by intro k hk; omega) (by omega)
set_option maxHeartbeats 4000000 in
set_option maxRecDepth 100000 in
theorem c_X9_takes (l : Launch) (E : En) (q : Nat) (r : Nat → Nat) (rc : Nat) (tl : Nat) (at9 : Nat) (lf9 : Int32) (pl9 : Int32) (vl9 : Int32) (fa : Nat) (rs9 : Nat) (cs : Int32) (dn : Nat) (t : Nat → Nat) (c9 : Nat) (hL : tl ≤ 60) (ha : at9 ≤ tl) (ht : BT t) (hc : c9 < 2 ^ 31) : CtI l yX9_takes wsX9_takes ({ frames := 0, cells := 0, slots := 0, locals := 0 } : Room) E [.ref q, .int (nI c9)] [ob 9 q [.ref (r 0), .ref (r 1), .ref (r 2), .int (nI rc), .ref (r 3), .int (nI tl), .ref (r 4), .ref (r 5), .ref (r 6), .ref (r 7), .ref (r 8), .ref (r 9), .ref (r 10), .ref (r 11), .ref (r 12), .int (nI at9), .int (lf9), .int (pl9), .int (vl9), .int (nI fa), .int (nI rs9), .int (cs), .int (nI dn)], ai E (r 3) 60 t] (fun rr uu => rr = (bi (at9 < tl ∧ t at9 = c9)) ∧ uu = [ob 9 q [.ref (r 0), .ref (r 1), .ref (r 2), .int (nI rc), .ref (r 3), .int (nI tl), .ref (r 4), .ref (r 5), .ref (r 6), .ref (r 7), .ref (r 8), .ref (r 9), .ref (r 10), .ref (r 11), .ref (r 12), .int (nI (sA t tl 0 at9 c9)), .int (lf9), .int (pl9), .int (vl9), .int (nI fa), .int (nI rs9), .int (cs), .int (nI dn)], ai E (r 3) 60 t]) := by
  refine CtI.of cX9_takes 3 RX9 .boolean rfl (by decide) rfl (Or.inr rfl) (Nat.le_of_ble_eq_true rfl) (fun _ r u hp => by obtain ⟨rfl, -⟩ := hp; exact bi_narrow _) ?_
  intro Γ F hret
  show G Γ E 0 0 0 [(0, .ref q), (1, .int (nI c9))] [] [ob 9 q [.ref (r 0), .ref (r 1), .ref (r 2), .int (nI rc), .ref (r 3), .int (nI tl), .ref (r 4), .ref (r 5), .ref (r 6), .ref (r 7), .ref (r 8), .ref (r 9), .ref (r 10), .ref (r 11), .ref (r 12), .int (nI at9), .int (lf9), .int (pl9), .int (vl9), .int (nI fa), .int (nI rs9), .int (cs), .int (nI dn)], ai E (r 3) 60 t]
  refine g_aload_n F 0 dX9_takes_0 rfl rfl ?_
  refine g_get F 0 15 dX9_takes_1 rfl rfl (by decide) (by decide +kernel) (by decide +kernel) rfl ?_
  refine g_aload_n F 0 dX9_takes_4 rfl rfl ?_
  refine g_get F 0 5 dX9_takes_5 rfl rfl (by decide) (by decide +kernel) (by decide +kernel) rfl ?_
  refine g_icmp_geN (tgt := 28) F dX9_takes_8 (by decide) (by omega) (by omega) (fun c8 => ?_) (fun c8 => ?_)
  · skip
    refine g_iconst (v := nI 0) F dX9_takes_28 (by decide) ?_
    refine g_istore_n (lv2 := [(2, .int (nI 0)), (0, .ref q), (1, .int (nI c9))]) F dX9_takes_29 rfl (by decide) rfl ?_
    refine g_aload_n F 1 dX9_takes_30 rfl rfl ?_
    refine g_dup F dX9_takes_31 rfl ?_
    refine g_get F 0 15 dX9_takes_32 rfl rfl (by decide) (by decide +kernel) (by decide +kernel) rfl ?_
    refine g_iload_n F 0 dX9_takes_35 rfl rfl ?_
    refine g_if_eqN (tgt := 43) F dX9_takes_36 (by decide) (by decide) (fun c36 => ?_) (fun c36 => absurd c36 (by decide))
    refine g_iconst (v := nI 0) F dX9_takes_43 (by decide) ?_
    refine g_iaddN F dX9_takes_44 ?_
    refine g_put F 0 15 dX9_takes_45 rfl rfl (by decide) (by decide +kernel) (by decide +kernel) tyX9_ok nmX9 rfl (by decide +kernel) rfl rfl (Nat.le_of_ble_eq_true rfl) rfl (ty := .int) (w2 := [ob 9 q [.ref (r 0), .ref (r 1), .ref (r 2), .int (nI rc), .ref (r 3), .int (nI tl), .ref (r 4), .ref (r 5), .ref (r 6), .ref (r 7), .ref (r 8), .ref (r 9), .ref (r 10), .ref (r 11), .ref (r 12), .int (nI (at9 + 0)), .int (lf9), .int (pl9), .int (vl9), .int (nI fa), .int (nI rs9), .int (cs), .int (nI dn)], ai E (r 3) 60 t]) rfl ?_
    refine g_obC 0 rfl [.ref (r 0), .ref (r 1), .ref (r 2), .int (nI rc), .ref (r 3), .int (nI tl), .ref (r 4), .ref (r 5), .ref (r 6), .ref (r 7), .ref (r 8), .ref (r 9), .ref (r 10), .ref (r 11), .ref (r 12), .int (nI (sA t tl 0 at9 c9)), .int (lf9), .int (pl9), .int (vl9), .int (nI fa), .int (nI rs9), .int (cs), .int (nI dn)] (by rw [sA_0]; rw [if_neg (fun h => by first | exact absurd h.1 (by omega) | exact c21 h.2)]; first | done | rfl) (w2 := [ob 9 q [.ref (r 0), .ref (r 1), .ref (r 2), .int (nI rc), .ref (r 3), .int (nI tl), .ref (r 4), .ref (r 5), .ref (r 6), .ref (r 7), .ref (r 8), .ref (r 9), .ref (r 10), .ref (r 11), .ref (r 12), .int (nI (sA t tl 0 at9 c9)), .int (lf9), .int (pl9), .int (vl9), .int (nI fa), .int (nI rs9), .int (cs), .int (nI dn)], ai E (r 3) 60 t]) rfl ?_
    refine g_iload_n F 0 dX9_takes_48 rfl rfl ?_
    exact hret _ _ _ _ dX9_takes_49 ⟨(bi_neg (by intro h; first | exact absurd h.1 (by omega) | exact c21 h.2)).symm, rfl⟩
  · skip
    have hti := ht at9
    refine g_aload_n F 0 dX9_takes_11 rfl rfl ?_
    refine g_get F 0 4 dX9_takes_12 rfl rfl (by decide) (by decide +kernel) (by decide +kernel) rfl ?_
    refine g_aload_n F 0 dX9_takes_15 rfl rfl ?_
    refine g_get F 0 15 dX9_takes_16 rfl rfl (by decide) (by decide +kernel) (by decide +kernel) rfl ?_
    refine g_iald F 1 dX9_takes_19 rfl (by omega) (by decide) ?_
    refine g_iload_n F 1 dX9_takes_20 rfl rfl ?_
    refine g_icmp_neN (tgt := 28) F dX9_takes_21 (by decide) (by omega) (by omega) (fun c21 => ?_) (fun c21 => ?_)
    · skip
      refine g_iconst (v := nI 0) F dX9_takes_28 (by decide) ?_
      refine g_istore_n (lv2 := [(2, .int (nI 0)), (0, .ref q), (1, .int (nI c9))]) F dX9_takes_29 rfl (by decide) rfl ?_
      refine g_aload_n F 1 dX9_takes_30 rfl rfl ?_
      refine g_dup F dX9_takes_31 rfl ?_
      refine g_get F 0 15 dX9_takes_32 rfl rfl (by decide) (by decide +kernel) (by decide +kernel) rfl ?_
      refine g_iload_n F 0 dX9_takes_35 rfl rfl ?_
      refine g_if_eqN (tgt := 43) F dX9_takes_36 (by decide) (by decide) (fun c36 => ?_) (fun c36 => absurd c36 (by decide))
      refine g_iconst (v := nI 0) F dX9_takes_43 (by decide) ?_
      refine g_iaddN F dX9_takes_44 ?_
      refine g_put F 0 15 dX9_takes_45 rfl rfl (by decide) (by decide +kernel) (by decide +kernel) tyX9_ok nmX9 rfl (by decide +kernel) rfl rfl (Nat.le_of_ble_eq_true rfl) rfl (ty := .int) (w2 := [ob 9 q [.ref (r 0), .ref (r 1), .ref (r 2), .int (nI rc), .ref (r 3), .int (nI tl), .ref (r 4), .ref (r 5), .ref (r 6), .ref (r 7), .ref (r 8), .ref (r 9), .ref (r 10), .ref (r 11), .ref (r 12), .int (nI (at9 + 0)), .int (lf9), .int (pl9), .int (vl9), .int (nI fa), .int (nI rs9), .int (cs), .int (nI dn)], ai E (r 3) 60 t]) rfl ?_
      refine g_obC 0 rfl [.ref (r 0), .ref (r 1), .ref (r 2), .int (nI rc), .ref (r 3), .int (nI tl), .ref (r 4), .ref (r 5), .ref (r 6), .ref (r 7), .ref (r 8), .ref (r 9), .ref (r 10), .ref (r 11), .ref (r 12), .int (nI (sA t tl 0 at9 c9)), .int (lf9), .int (pl9), .int (vl9), .int (nI fa), .int (nI rs9), .int (cs), .int (nI dn)] (by rw [sA_0]; rw [if_neg (fun h => by first | exact absurd h.1 (by omega) | exact c21 h.2)]; first | done | rfl) (w2 := [ob 9 q [.ref (r 0), .ref (r 1), .ref (r 2), .int (nI rc), .ref (r 3), .int (nI tl), .ref (r 4), .ref (r 5), .ref (r 6), .ref (r 7), .ref (r 8), .ref (r 9), .ref (r 10), .ref (r 11), .ref (r 12), .int (nI (sA t tl 0 at9 c9)), .int (lf9), .int (pl9), .int (vl9), .int (nI fa), .int (nI rs9), .int (cs), .int (nI dn)], ai E (r 3) 60 t]) rfl ?_
      refine g_iload_n F 0 dX9_takes_48 rfl rfl ?_
      exact hret _ _ _ _ dX9_takes_49 ⟨(bi_neg (by intro h; first | exact absurd h.1 (by omega) | exact c21 h.2)).symm, rfl⟩
    · skip
      refine g_iconst (v := nI 1) F dX9_takes_24 (by decide) ?_
      refine g_goto (tgt := 29) F dX9_takes_25 (by decide) ?_
      refine g_istore_n (lv2 := [(2, .int (nI 1)), (0, .ref q), (1, .int (nI c9))]) F dX9_takes_29 rfl (by decide) rfl ?_
      refine g_aload_n F 1 dX9_takes_30 rfl rfl ?_
      refine g_dup F dX9_takes_31 rfl ?_
      refine g_get F 0 15 dX9_takes_32 rfl rfl (by decide) (by decide +kernel) (by decide +kernel) rfl ?_
      refine g_iload_n F 0 dX9_takes_35 rfl rfl ?_
      refine g_if_eqN (tgt := 43) F dX9_takes_36 (by decide) (by decide) (fun c36 => absurd c36 (by decide)) (fun c36 => ?_)
      refine g_iconst (v := nI 1) F dX9_takes_39 (by decide) ?_
      refine g_goto (tgt := 44) F dX9_takes_40 (by decide) ?_
      refine g_iaddN F dX9_takes_44 ?_
      refine g_put F 0 15 dX9_takes_45 rfl rfl (by decide) (by decide +kernel) (by decide +kernel) tyX9_ok nmX9 rfl (by decide +kernel) rfl rfl (Nat.le_of_ble_eq_true rfl) rfl (ty := .int) (w2 := [ob 9 q [.ref (r 0), .ref (r 1), .ref (r 2), .int (nI rc), .ref (r 3), .int (nI tl), .ref (r 4), .ref (r 5), .ref (r 6), .ref (r 7), .ref (r 8), .ref (r 9), .ref (r 10), .ref (r 11), .ref (r 12), .int (nI (at9 + 1)), .int (lf9), .int (pl9), .int (vl9), .int (nI fa), .int (nI rs9), .int (cs), .int (nI dn)], ai E (r 3) 60 t]) rfl ?_
      refine g_obC 0 rfl [.ref (r 0), .ref (r 1), .ref (r 2), .int (nI rc), .ref (r 3), .int (nI tl), .ref (r 4), .ref (r 5), .ref (r 6), .ref (r 7), .ref (r 8), .ref (r 9), .ref (r 10), .ref (r 11), .ref (r 12), .int (nI (sA t tl 0 at9 c9)), .int (lf9), .int (pl9), .int (vl9), .int (nI fa), .int (nI rs9), .int (cs), .int (nI dn)] (by rw [sA_0]; rw [if_pos ⟨c8, c21⟩]) (w2 := [ob 9 q [.ref (r 0), .ref (r 1), .ref (r 2), .int (nI rc), .ref (r 3), .int (nI tl), .ref (r 4), .ref (r 5), .ref (r 6), .ref (r 7), .ref (r 8), .ref (r 9), .ref (r 10), .ref (r 11), .ref (r 12), .int (nI (sA t tl 0 at9 c9)), .int (lf9), .int (pl9), .int (vl9), .int (nI fa), .int (nI rs9), .int (cs), .int (nI dn)], ai E (r 3) 60 t]) rfl ?_
      refine g_iload_n F 0 dX9_takes_48 rfl rfl ?_
      exact hret _ _ _ _ dX9_takes_49 ⟨(bi_pos (by exact ⟨c8, c21⟩)).symm, rfl⟩
set_option maxHeartbeats 4000000 in
set_option maxRecDepth 100000 in
theorem c_X9_readsWrite (l : Launch) (E : En) (q : Nat) (r : Nat → Nat) (rc : Nat) (tl : Nat) (at9 : Nat) (lf9 : Int32) (pl9 : Int32) (vl9 : Int32) (fa : Nat) (rs9 : Nat) (cs : Int32) (dn : Nat) (t : Nat → Nat) (hL : tl ≤ 60) (ha : at9 ≤ tl) (ht : BT t) : CtI l yX9_readsWrite wsX9_readsWrite ({ frames := 2, cells := 0, slots := 0, locals := 45 } : Room) E [.ref q] [ob 9 q [.ref (r 0), .ref (r 1), .ref (r 2), .int (nI rc), .ref (r 3), .int (nI tl), .ref (r 4), .ref (r 5), .ref (r 6), .ref (r 7), .ref (r 8), .ref (r 9), .ref (r 10), .ref (r 11), .ref (r 12), .int (nI at9), .int (lf9), .int (pl9), .int (vl9), .int (nI fa), .int (nI rs9), .int (cs), .int (nI dn)], ai E (r 3) 60 t] (fun rr uu => ∃ (lf2 : Int32), ∃ (pl2 : Int32), ∃ (vl2 : Int32), ((prw t tl at9).1 = 1 → lf2 = nI (prw t tl at9).2.2.1 ∧ pl2 = nI (prw t tl at9).2.2.2.1 ∧ vl2 = nI (prw t tl at9).2.2.2.2) ∧ rr = (bi ((prw t tl at9).1 = 1)) ∧ uu = [ob 9 q [.ref (r 0), .ref (r 1), .ref (r 2), .int (nI rc), .ref (r 3), .int (nI tl), .ref (r 4), .ref (r 5), .ref (r 6), .ref (r 7), .ref (r 8), .ref (r 9), .ref (r 10), .ref (r 11), .ref (r 12), .int (nI ((prw t tl at9).2.1)), .int (lf2), .int (pl2), .int (vl2), .int (nI fa), .int (nI rs9), .int (cs), .int (nI dn)], ai E (r 3) 60 t]) := by
  refine CtI.of cX9_readsWrite 2 RX9 .boolean rfl (by decide) rfl (Or.inr rfl) (Nat.le_of_ble_eq_true rfl) (fun _ r u hp => by obtain ⟨_, _, _, -, rfl, -⟩ := hp; exact bi_narrow _) ?_
  intro Γ F hret
  show G Γ E 0 0 0 [(0, .ref q)] [] [ob 9 q [.ref (r 0), .ref (r 1), .ref (r 2), .int (nI rc), .ref (r 3), .int (nI tl), .ref (r 4), .ref (r 5), .ref (r 6), .ref (r 7), .ref (r 8), .ref (r 9), .ref (r 10), .ref (r 11), .ref (r 12), .int (nI at9), .int (lf9), .int (pl9), .int (vl9), .int (nI fa), .int (nI rs9), .int (cs), .int (nI dn)], ai E (r 3) 60 t]
  have i1 := nd_in t tl 2 at9 ha
  refine g_aload_n F 0 dX9_readsWrite_0 rfl rfl ?_
  refine g_aload_n F 0 dX9_readsWrite_1 rfl rfl ?_
  refine g_iconst (v := nI 2) F dX9_readsWrite_2 (by decide) ?_
  refine g_callViW (n := 1) F [0, 1] (c_X9_takeNumber l E q r rc tl at9 lf9 pl9 vl9 fa rs9 cs dn t 2 (by exact hL) (by exact ha) (by exact ht) (by omega)) dX9_readsWrite_3 rfl (by decide) rfl rfl rfl (Nat.le_of_ble_eq_true rfl) ⟨Nat.le_of_ble_eq_true rfl, Nat.le_of_ble_eq_true rfl⟩ rfl rfl ⟨Nat.le_of_ble_eq_true rfl, Nat.le_of_ble_eq_true rfl⟩ 0 rfl rfl gX9_readsWrite_X9_takeNumber (by decide +kernel) (fun r u hp => by obtain ⟨-, rfl⟩ := hp; rfl) ?_
  rintro r_3 u_3 ⟨rfl, rfl⟩
  refine g_ws (w2 := [ob 9 q [.ref (r 0), .ref (r 1), .ref (r 2), .int (nI rc), .ref (r 3), .int (nI tl), .ref (r 4), .ref (r 5), .ref (r 6), .ref (r 7), .ref (r 8), .ref (r 9), .ref (r 10), .ref (r 11), .ref (r 12), .int (nI (at9 + nd t tl at9 2)), .int (lf9), .int (pl9), .int (vl9), .int (nI fa), .int (nI rs9), .int (cs), .int (nI dn)], ai E (r 3) 60 t]) rfl ?_
  refine g_put F 0 16 dX9_readsWrite_6 rfl rfl (by decide) (by decide +kernel) (by decide +kernel) tyX9_ok nmX9 rfl (by decide +kernel) rfl rfl (Nat.le_of_ble_eq_true rfl) rfl (ty := .int) (w2 := [ob 9 q [.ref (r 0), .ref (r 1), .ref (r 2), .int (nI rc), .ref (r 3), .int (nI tl), .ref (r 4), .ref (r 5), .ref (r 6), .ref (r 7), .ref (r 8), .ref (r 9), .ref (r 10), .ref (r 11), .ref (r 12), .int (nI (at9 + nd t tl at9 2)), .int (tn t tl at9 2), .int (pl9), .int (vl9), .int (nI fa), .int (nI rs9), .int (cs), .int (nI dn)], ai E (r 3) 60 t]) rfl ?_
  refine g_aload_n F 0 dX9_readsWrite_9 rfl rfl ?_
  refine g_get F 0 16 dX9_readsWrite_10 rfl rfl (by decide) (by decide +kernel) (by decide +kernel) rfl ?_
  refine g_if_lt (tgt := 29) F dX9_readsWrite_13 (by decide) (fun c13 => ?_) (fun c13 => ?_)
  · skip
    refine g_obC 0 rfl [.ref (r 0), .ref (r 1), .ref (r 2), .int (nI rc), .ref (r 3), .int (nI tl), .ref (r 4), .ref (r 5), .ref (r 6), .ref (r 7), .ref (r 8), .ref (r 9), .ref (r 10), .ref (r 11), .ref (r 12), .int (nI at9), .int (tn t tl at9 2), .int (pl9), .int (vl9), .int (nI fa), .int (nI rs9), .int (cs), .int (nI dn)] (by rw [tn_neg (by decide) c13]; rfl) (w2 := [ob 9 q [.ref (r 0), .ref (r 1), .ref (r 2), .int (nI rc), .ref (r 3), .int (nI tl), .ref (r 4), .ref (r 5), .ref (r 6), .ref (r 7), .ref (r 8), .ref (r 9), .ref (r 10), .ref (r 11), .ref (r 12), .int (nI at9), .int (tn t tl at9 2), .int (pl9), .int (vl9), .int (nI fa), .int (nI rs9), .int (cs), .int (nI dn)], ai E (r 3) 60 t]) rfl ?_
    refine g_iconst (v := nI 0) F dX9_readsWrite_29 (by decide) ?_
    refine g_istore_n (lv2 := [(1, .int (nI 0)), (0, .ref q)]) F dX9_readsWrite_30 rfl (by decide) rfl ?_
    refine g_aload_n F 1 dX9_readsWrite_31 rfl rfl ?_
    refine g_iload_n F 0 dX9_readsWrite_32 rfl rfl ?_
    refine g_if_eqN (tgt := 44) F dX9_readsWrite_33 (by decide) (by decide) (fun c33 => ?_) (fun c33 => absurd c33 (by decide))
    refine g_iconst (v := (-1)) F dX9_readsWrite_44 (by decide) ?_
    refine g_put F 0 17 dX9_readsWrite_45 rfl rfl (by decide) (by decide +kernel) (by decide +kernel) tyX9_ok nmX9 rfl (by decide +kernel) rfl rfl (Nat.le_of_ble_eq_true rfl) rfl (ty := .int) (w2 := [ob 9 q [.ref (r 0), .ref (r 1), .ref (r 2), .int (nI rc), .ref (r 3), .int (nI tl), .ref (r 4), .ref (r 5), .ref (r 6), .ref (r 7), .ref (r 8), .ref (r 9), .ref (r 10), .ref (r 11), .ref (r 12), .int (nI at9), .int (tn t tl at9 2), .int ((-1)), .int (vl9), .int (nI fa), .int (nI rs9), .int (cs), .int (nI dn)], ai E (r 3) 60 t]) rfl ?_
    refine g_iload_n F 0 dX9_readsWrite_48 rfl rfl ?_
    refine g_if_eqN (tgt := 72) F dX9_readsWrite_49 (by decide) (by decide) (fun c49 => ?_) (fun c49 => absurd c49 (by decide))
    refine g_iconst (v := nI 0) F dX9_readsWrite_72 (by decide) ?_
    refine g_istore_n (lv2 := [(1, .int (nI 0)), (0, .ref q)]) F dX9_readsWrite_73 rfl (by decide) rfl ?_
    refine g_aload_n F 1 dX9_readsWrite_74 rfl rfl ?_
    refine g_iload_n F 0 dX9_readsWrite_75 rfl rfl ?_
    refine g_if_eqN (tgt := 87) F dX9_readsWrite_76 (by decide) (by decide) (fun c76 => ?_) (fun c76 => absurd c76 (by decide))
    refine g_iconst (v := (-1)) F dX9_readsWrite_87 (by decide) ?_
    refine g_put F 0 18 dX9_readsWrite_88 rfl rfl (by decide) (by decide +kernel) (by decide +kernel) tyX9_ok nmX9 rfl (by decide +kernel) rfl rfl (Nat.le_of_ble_eq_true rfl) rfl (ty := .int) (w2 := [ob 9 q [.ref (r 0), .ref (r 1), .ref (r 2), .int (nI rc), .ref (r 3), .int (nI tl), .ref (r 4), .ref (r 5), .ref (r 6), .ref (r 7), .ref (r 8), .ref (r 9), .ref (r 10), .ref (r 11), .ref (r 12), .int (nI at9), .int (tn t tl at9 2), .int ((-1)), .int ((-1)), .int (nI fa), .int (nI rs9), .int (cs), .int (nI dn)], ai E (r 3) 60 t]) rfl ?_
    refine g_iload_n F 0 dX9_readsWrite_91 rfl rfl ?_
    refine g_if_eqN (tgt := 115) F dX9_readsWrite_92 (by decide) (by decide) (fun c92 => ?_) (fun c92 => absurd c92 (by decide))
    refine g_iconst (v := nI 0) F dX9_readsWrite_115 (by decide) ?_
    refine g_obC 0 rfl [.ref (r 0), .ref (r 1), .ref (r 2), .int (nI rc), .ref (r 3), .int (nI tl), .ref (r 4), .ref (r 5), .ref (r 6), .ref (r 7), .ref (r 8), .ref (r 9), .ref (r 10), .ref (r 11), .ref (r 12), .int (nI ((prw t tl at9).2.1)), .int (tn t tl at9 2), .int ((-1)), .int ((-1)), .int (nI fa), .int (nI rs9), .int (cs), .int (nI dn)] (by rw [prw_1 (tn_neg (by decide) c13)]) (w2 := [ob 9 q [.ref (r 0), .ref (r 1), .ref (r 2), .int (nI rc), .ref (r 3), .int (nI tl), .ref (r 4), .ref (r 5), .ref (r 6), .ref (r 7), .ref (r 8), .ref (r 9), .ref (r 10), .ref (r 11), .ref (r 12), .int (nI ((prw t tl at9).2.1)), .int (tn t tl at9 2), .int ((-1)), .int ((-1)), .int (nI fa), .int (nI rs9), .int (cs), .int (nI dn)], ai E (r 3) 60 t]) rfl ?_
    exact hret _ _ _ _ dX9_readsWrite_116 ⟨(tn t tl at9 2), (-1), (-1), (by rw [prw_1 (tn_neg (by decide) c13)]; exact fun h => absurd (show (0 : Nat) = 1 from h) (by decide)), (bi_neg (by rw [prw_1 (tn_neg (by decide) c13)]; exact fun h => absurd (show (0 : Nat) = 1 from h) (by decide))).symm, (by rfl)⟩
  · skip
    refine g_aload_n F 0 dX9_readsWrite_16 rfl rfl ?_
    refine g_bipush (v := nI 46) F dX9_readsWrite_17 (by decide) ?_
    refine g_callViW (n := 1) F [0, 1] (c_X9_takes l E q r rc tl (at9 + nd t tl at9 2) (tn t tl at9 2) pl9 vl9 fa rs9 cs dn t 46 (by exact hL) (by exact i1) (by exact ht) (by omega)) dX9_readsWrite_19 rfl (by decide) rfl rfl rfl (Nat.le_of_ble_eq_true rfl) ⟨Nat.le_of_ble_eq_true rfl, Nat.le_of_ble_eq_true rfl⟩ rfl rfl ⟨Nat.le_of_ble_eq_true rfl, Nat.le_of_ble_eq_true rfl⟩ 0 rfl rfl gX9_readsWrite_X9_takes (by decide +kernel) (fun r u hp => by obtain ⟨-, rfl⟩ := hp; rfl) ?_
    rintro r_19 u_19 ⟨rfl, rfl⟩
    refine g_ws (w2 := [ob 9 q [.ref (r 0), .ref (r 1), .ref (r 2), .int (nI rc), .ref (r 3), .int (nI tl), .ref (r 4), .ref (r 5), .ref (r 6), .ref (r 7), .ref (r 8), .ref (r 9), .ref (r 10), .ref (r 11), .ref (r 12), .int (nI (sA t tl 0 (at9 + nd t tl at9 2) 46)), .int (tn t tl at9 2), .int (pl9), .int (vl9), .int (nI fa), .int (nI rs9), .int (cs), .int (nI dn)], ai E (r 3) 60 t]) rfl ?_
    refine g_if_eqB (tgt := 29) F dX9_readsWrite_22 (by decide) (fun c22 => ?_) (fun c22 => ?_)
    · skip
      refine g_obC 0 rfl [.ref (r 0), .ref (r 1), .ref (r 2), .int (nI rc), .ref (r 3), .int (nI tl), .ref (r 4), .ref (r 5), .ref (r 6), .ref (r 7), .ref (r 8), .ref (r 9), .ref (r 10), .ref (r 11), .ref (r 12), .int (nI (at9 + nd t tl at9 2)), .int (tn t tl at9 2), .int (pl9), .int (vl9), .int (nI fa), .int (nI rs9), .int (cs), .int (nI dn)] (by rw [sA_0, if_neg c22]) (w2 := [ob 9 q [.ref (r 0), .ref (r 1), .ref (r 2), .int (nI rc), .ref (r 3), .int (nI tl), .ref (r 4), .ref (r 5), .ref (r 6), .ref (r 7), .ref (r 8), .ref (r 9), .ref (r 10), .ref (r 11), .ref (r 12), .int (nI (at9 + nd t tl at9 2)), .int (tn t tl at9 2), .int (pl9), .int (vl9), .int (nI fa), .int (nI rs9), .int (cs), .int (nI dn)], ai E (r 3) 60 t]) rfl ?_
      refine g_iconst (v := nI 0) F dX9_readsWrite_29 (by decide) ?_
      refine g_istore_n (lv2 := [(1, .int (nI 0)), (0, .ref q)]) F dX9_readsWrite_30 rfl (by decide) rfl ?_
      refine g_aload_n F 1 dX9_readsWrite_31 rfl rfl ?_
      refine g_iload_n F 0 dX9_readsWrite_32 rfl rfl ?_
      refine g_if_eqN (tgt := 44) F dX9_readsWrite_33 (by decide) (by decide) (fun c33 => ?_) (fun c33 => absurd c33 (by decide))
      refine g_iconst (v := (-1)) F dX9_readsWrite_44 (by decide) ?_
      refine g_put F 0 17 dX9_readsWrite_45 rfl rfl (by decide) (by decide +kernel) (by decide +kernel) tyX9_ok nmX9 rfl (by decide +kernel) rfl rfl (Nat.le_of_ble_eq_true rfl) rfl (ty := .int) (w2 := [ob 9 q [.ref (r 0), .ref (r 1), .ref (r 2), .int (nI rc), .ref (r 3), .int (nI tl), .ref (r 4), .ref (r 5), .ref (r 6), .ref (r 7), .ref (r 8), .ref (r 9), .ref (r 10), .ref (r 11), .ref (r 12), .int (nI (at9 + nd t tl at9 2)), .int (tn t tl at9 2), .int ((-1)), .int (vl9), .int (nI fa), .int (nI rs9), .int (cs), .int (nI dn)], ai E (r 3) 60 t]) rfl ?_
      refine g_iload_n F 0 dX9_readsWrite_48 rfl rfl ?_
      refine g_if_eqN (tgt := 72) F dX9_readsWrite_49 (by decide) (by decide) (fun c49 => ?_) (fun c49 => absurd c49 (by decide))
      refine g_iconst (v := nI 0) F dX9_readsWrite_72 (by decide) ?_
      refine g_istore_n (lv2 := [(1, .int (nI 0)), (0, .ref q)]) F dX9_readsWrite_73 rfl (by decide) rfl ?_
      refine g_aload_n F 1 dX9_readsWrite_74 rfl rfl ?_
      refine g_iload_n F 0 dX9_readsWrite_75 rfl rfl ?_
      refine g_if_eqN (tgt := 87) F dX9_readsWrite_76 (by decide) (by decide) (fun c76 => ?_) (fun c76 => absurd c76 (by decide))
      refine g_iconst (v := (-1)) F dX9_readsWrite_87 (by decide) ?_
      refine g_put F 0 18 dX9_readsWrite_88 rfl rfl (by decide) (by decide +kernel) (by decide +kernel) tyX9_ok nmX9 rfl (by decide +kernel) rfl rfl (Nat.le_of_ble_eq_true rfl) rfl (ty := .int) (w2 := [ob 9 q [.ref (r 0), .ref (r 1), .ref (r 2), .int (nI rc), .ref (r 3), .int (nI tl), .ref (r 4), .ref (r 5), .ref (r 6), .ref (r 7), .ref (r 8), .ref (r 9), .ref (r 10), .ref (r 11), .ref (r 12), .int (nI (at9 + nd t tl at9 2)), .int (tn t tl at9 2), .int ((-1)), .int ((-1)), .int (nI fa), .int (nI rs9), .int (cs), .int (nI dn)], ai E (r 3) 60 t]) rfl ?_
      refine g_iload_n F 0 dX9_readsWrite_91 rfl rfl ?_
      refine g_if_eqN (tgt := 115) F dX9_readsWrite_92 (by decide) (by decide) (fun c92 => ?_) (fun c92 => absurd c92 (by decide))
      refine g_iconst (v := nI 0) F dX9_readsWrite_115 (by decide) ?_
      refine g_obC 0 rfl [.ref (r 0), .ref (r 1), .ref (r 2), .int (nI rc), .ref (r 3), .int (nI tl), .ref (r 4), .ref (r 5), .ref (r 6), .ref (r 7), .ref (r 8), .ref (r 9), .ref (r 10), .ref (r 11), .ref (r 12), .int (nI ((prw t tl at9).2.1)), .int (tn t tl at9 2), .int ((-1)), .int ((-1)), .int (nI fa), .int (nI rs9), .int (cs), .int (nI dn)] (by rw [prw_2 (tn_pos c13) c22]) (w2 := [ob 9 q [.ref (r 0), .ref (r 1), .ref (r 2), .int (nI rc), .ref (r 3), .int (nI tl), .ref (r 4), .ref (r 5), .ref (r 6), .ref (r 7), .ref (r 8), .ref (r 9), .ref (r 10), .ref (r 11), .ref (r 12), .int (nI ((prw t tl at9).2.1)), .int (tn t tl at9 2), .int ((-1)), .int ((-1)), .int (nI fa), .int (nI rs9), .int (cs), .int (nI dn)], ai E (r 3) 60 t]) rfl ?_
      exact hret _ _ _ _ dX9_readsWrite_116 ⟨(tn t tl at9 2), (-1), (-1), (by rw [prw_2 (tn_pos c13) c22]; exact fun h => absurd (show (0 : Nat) = 1 from h) (by decide)), (bi_neg (by rw [prw_2 (tn_pos c13) c22]; exact fun h => absurd (show (0 : Nat) = 1 from h) (by decide))).symm, (by rfl)⟩
    · skip
      have i2 := nd_in t tl 1 (at9 + nd t tl at9 2 + 1) c22.1
      refine g_obC 0 rfl [.ref (r 0), .ref (r 1), .ref (r 2), .int (nI rc), .ref (r 3), .int (nI tl), .ref (r 4), .ref (r 5), .ref (r 6), .ref (r 7), .ref (r 8), .ref (r 9), .ref (r 10), .ref (r 11), .ref (r 12), .int (nI (at9 + nd t tl at9 2 + 1)), .int (tn t tl at9 2), .int (pl9), .int (vl9), .int (nI fa), .int (nI rs9), .int (cs), .int (nI dn)] (by rw [sA_0, if_pos c22]) (w2 := [ob 9 q [.ref (r 0), .ref (r 1), .ref (r 2), .int (nI rc), .ref (r 3), .int (nI tl), .ref (r 4), .ref (r 5), .ref (r 6), .ref (r 7), .ref (r 8), .ref (r 9), .ref (r 10), .ref (r 11), .ref (r 12), .int (nI (at9 + nd t tl at9 2 + 1)), .int (tn t tl at9 2), .int (pl9), .int (vl9), .int (nI fa), .int (nI rs9), .int (cs), .int (nI dn)], ai E (r 3) 60 t]) rfl ?_
      refine g_iconst (v := nI 1) F dX9_readsWrite_25 (by decide) ?_
      refine g_goto (tgt := 30) F dX9_readsWrite_26 (by decide) ?_
      refine g_istore_n (lv2 := [(1, .int (nI 1)), (0, .ref q)]) F dX9_readsWrite_30 rfl (by decide) rfl ?_
      refine g_aload_n F 1 dX9_readsWrite_31 rfl rfl ?_
      refine g_iload_n F 0 dX9_readsWrite_32 rfl rfl ?_
      refine g_if_eqN (tgt := 44) F dX9_readsWrite_33 (by decide) (by decide) (fun c33 => absurd c33 (by decide)) (fun c33 => ?_)
      refine g_aload_n F 1 dX9_readsWrite_36 rfl rfl ?_
      refine g_iconst (v := nI 1) F dX9_readsWrite_37 (by decide) ?_
      refine g_callViW (n := 1) F [0, 1] (c_X9_takeNumber l E q r rc tl (at9 + nd t tl at9 2 + 1) (tn t tl at9 2) pl9 vl9 fa rs9 cs dn t 1 (by exact hL) (by exact c22.1) (by exact ht) (by omega)) dX9_readsWrite_38 rfl (by decide) rfl rfl rfl (Nat.le_of_ble_eq_true rfl) ⟨Nat.le_of_ble_eq_true rfl, Nat.le_of_ble_eq_true rfl⟩ rfl rfl ⟨Nat.le_of_ble_eq_true rfl, Nat.le_of_ble_eq_true rfl⟩ 0 rfl rfl gX9_readsWrite_X9_takeNumber (by decide +kernel) (fun r u hp => by obtain ⟨-, rfl⟩ := hp; rfl) ?_
      rintro r_38 u_38 ⟨rfl, rfl⟩
      refine g_ws (w2 := [ob 9 q [.ref (r 0), .ref (r 1), .ref (r 2), .int (nI rc), .ref (r 3), .int (nI tl), .ref (r 4), .ref (r 5), .ref (r 6), .ref (r 7), .ref (r 8), .ref (r 9), .ref (r 10), .ref (r 11), .ref (r 12), .int (nI ((at9 + nd t tl at9 2 + 1) + nd t tl (at9 + nd t tl at9 2 + 1) 1)), .int (tn t tl at9 2), .int (pl9), .int (vl9), .int (nI fa), .int (nI rs9), .int (cs), .int (nI dn)], ai E (r 3) 60 t]) rfl ?_
      refine g_goto (tgt := 45) F dX9_readsWrite_41 (by decide) ?_
      refine g_put F 0 17 dX9_readsWrite_45 rfl rfl (by decide) (by decide +kernel) (by decide +kernel) tyX9_ok nmX9 rfl (by decide +kernel) rfl rfl (Nat.le_of_ble_eq_true rfl) rfl (ty := .int) (w2 := [ob 9 q [.ref (r 0), .ref (r 1), .ref (r 2), .int (nI rc), .ref (r 3), .int (nI tl), .ref (r 4), .ref (r 5), .ref (r 6), .ref (r 7), .ref (r 8), .ref (r 9), .ref (r 10), .ref (r 11), .ref (r 12), .int (nI ((at9 + nd t tl at9 2 + 1) + nd t tl (at9 + nd t tl at9 2 + 1) 1)), .int (tn t tl at9 2), .int (tn t tl (at9 + nd t tl at9 2 + 1) 1), .int (vl9), .int (nI fa), .int (nI rs9), .int (cs), .int (nI dn)], ai E (r 3) 60 t]) rfl ?_
      refine g_iload_n F 0 dX9_readsWrite_48 rfl rfl ?_
      refine g_if_eqN (tgt := 72) F dX9_readsWrite_49 (by decide) (by decide) (fun c49 => absurd c49 (by decide)) (fun c49 => ?_)
      refine g_aload_n F 1 dX9_readsWrite_52 rfl rfl ?_
      refine g_get F 0 17 dX9_readsWrite_53 rfl rfl (by decide) (by decide +kernel) (by decide +kernel) rfl ?_
      refine g_if_lt (tgt := 72) F dX9_readsWrite_56 (by decide) (fun c56 => ?_) (fun c56 => ?_)
      · skip
        refine g_obC 0 rfl [.ref (r 0), .ref (r 1), .ref (r 2), .int (nI rc), .ref (r 3), .int (nI tl), .ref (r 4), .ref (r 5), .ref (r 6), .ref (r 7), .ref (r 8), .ref (r 9), .ref (r 10), .ref (r 11), .ref (r 12), .int (nI (at9 + nd t tl at9 2 + 1)), .int (tn t tl at9 2), .int (tn t tl (at9 + nd t tl at9 2 + 1) 1), .int (vl9), .int (nI fa), .int (nI rs9), .int (cs), .int (nI dn)] (by rw [tn_neg (by decide) c56]) (w2 := [ob 9 q [.ref (r 0), .ref (r 1), .ref (r 2), .int (nI rc), .ref (r 3), .int (nI tl), .ref (r 4), .ref (r 5), .ref (r 6), .ref (r 7), .ref (r 8), .ref (r 9), .ref (r 10), .ref (r 11), .ref (r 12), .int (nI (at9 + nd t tl at9 2 + 1)), .int (tn t tl at9 2), .int (tn t tl (at9 + nd t tl at9 2 + 1) 1), .int (vl9), .int (nI fa), .int (nI rs9), .int (cs), .int (nI dn)], ai E (r 3) 60 t]) rfl ?_
        refine g_iconst (v := nI 0) F dX9_readsWrite_72 (by decide) ?_
        refine g_istore_n (lv2 := [(1, .int (nI 0)), (0, .ref q)]) F dX9_readsWrite_73 rfl (by decide) rfl ?_
        refine g_aload_n F 1 dX9_readsWrite_74 rfl rfl ?_
        refine g_iload_n F 0 dX9_readsWrite_75 rfl rfl ?_
        refine g_if_eqN (tgt := 87) F dX9_readsWrite_76 (by decide) (by decide) (fun c76 => ?_) (fun c76 => absurd c76 (by decide))
        refine g_iconst (v := (-1)) F dX9_readsWrite_87 (by decide) ?_
        refine g_put F 0 18 dX9_readsWrite_88 rfl rfl (by decide) (by decide +kernel) (by decide +kernel) tyX9_ok nmX9 rfl (by decide +kernel) rfl rfl (Nat.le_of_ble_eq_true rfl) rfl (ty := .int) (w2 := [ob 9 q [.ref (r 0), .ref (r 1), .ref (r 2), .int (nI rc), .ref (r 3), .int (nI tl), .ref (r 4), .ref (r 5), .ref (r 6), .ref (r 7), .ref (r 8), .ref (r 9), .ref (r 10), .ref (r 11), .ref (r 12), .int (nI (at9 + nd t tl at9 2 + 1)), .int (tn t tl at9 2), .int (tn t tl (at9 + nd t tl at9 2 + 1) 1), .int ((-1)), .int (nI fa), .int (nI rs9), .int (cs), .int (nI dn)], ai E (r 3) 60 t]) rfl ?_
        refine g_iload_n F 0 dX9_readsWrite_91 rfl rfl ?_
        refine g_if_eqN (tgt := 115) F dX9_readsWrite_92 (by decide) (by decide) (fun c92 => ?_) (fun c92 => absurd c92 (by decide))
        refine g_iconst (v := nI 0) F dX9_readsWrite_115 (by decide) ?_
        refine g_obC 0 rfl [.ref (r 0), .ref (r 1), .ref (r 2), .int (nI rc), .ref (r 3), .int (nI tl), .ref (r 4), .ref (r 5), .ref (r 6), .ref (r 7), .ref (r 8), .ref (r 9), .ref (r 10), .ref (r 11), .ref (r 12), .int (nI ((prw t tl at9).2.1)), .int (tn t tl at9 2), .int (tn t tl (at9 + nd t tl at9 2 + 1) 1), .int ((-1)), .int (nI fa), .int (nI rs9), .int (cs), .int (nI dn)] (by rw [prw_3 (tn_pos c13) c22 (tn_neg (by decide) c56)]) (w2 := [ob 9 q [.ref (r 0), .ref (r 1), .ref (r 2), .int (nI rc), .ref (r 3), .int (nI tl), .ref (r 4), .ref (r 5), .ref (r 6), .ref (r 7), .ref (r 8), .ref (r 9), .ref (r 10), .ref (r 11), .ref (r 12), .int (nI ((prw t tl at9).2.1)), .int (tn t tl at9 2), .int (tn t tl (at9 + nd t tl at9 2 + 1) 1), .int ((-1)), .int (nI fa), .int (nI rs9), .int (cs), .int (nI dn)], ai E (r 3) 60 t]) rfl ?_
        exact hret _ _ _ _ dX9_readsWrite_116 ⟨(tn t tl at9 2), (tn t tl (at9 + nd t tl at9 2 + 1) 1), (-1), (by rw [prw_3 (tn_pos c13) c22 (tn_neg (by decide) c56)]; exact fun h => absurd (show (0 : Nat) = 1 from h) (by decide)), (bi_neg (by rw [prw_3 (tn_pos c13) c22 (tn_neg (by decide) c56)]; exact fun h => absurd (show (0 : Nat) = 1 from h) (by decide))).symm, (by rfl)⟩
      · skip
        refine g_aload_n F 1 dX9_readsWrite_59 rfl rfl ?_
        refine g_bipush (v := nI 61) F dX9_readsWrite_60 (by decide) ?_
        refine g_callViW (n := 1) F [0, 1] (c_X9_takes l E q r rc tl ((at9 + nd t tl at9 2 + 1) + nd t tl (at9 + nd t tl at9 2 + 1) 1) (tn t tl at9 2) (tn t tl (at9 + nd t tl at9 2 + 1) 1) vl9 fa rs9 cs dn t 61 (by exact hL) (by exact i2) (by exact ht) (by omega)) dX9_readsWrite_62 rfl (by decide) rfl rfl rfl (Nat.le_of_ble_eq_true rfl) ⟨Nat.le_of_ble_eq_true rfl, Nat.le_of_ble_eq_true rfl⟩ rfl rfl ⟨Nat.le_of_ble_eq_true rfl, Nat.le_of_ble_eq_true rfl⟩ 0 rfl rfl gX9_readsWrite_X9_takes (by decide +kernel) (fun r u hp => by obtain ⟨-, rfl⟩ := hp; rfl) ?_
        rintro r_62 u_62 ⟨rfl, rfl⟩
        refine g_ws (w2 := [ob 9 q [.ref (r 0), .ref (r 1), .ref (r 2), .int (nI rc), .ref (r 3), .int (nI tl), .ref (r 4), .ref (r 5), .ref (r 6), .ref (r 7), .ref (r 8), .ref (r 9), .ref (r 10), .ref (r 11), .ref (r 12), .int (nI (sA t tl 0 ((at9 + nd t tl at9 2 + 1) + nd t tl (at9 + nd t tl at9 2 + 1) 1) 61)), .int (tn t tl at9 2), .int (tn t tl (at9 + nd t tl at9 2 + 1) 1), .int (vl9), .int (nI fa), .int (nI rs9), .int (cs), .int (nI dn)], ai E (r 3) 60 t]) rfl ?_
        refine g_if_eqB (tgt := 72) F dX9_readsWrite_65 (by decide) (fun c65 => ?_) (fun c65 => ?_)
        · skip
          refine g_obC 0 rfl [.ref (r 0), .ref (r 1), .ref (r 2), .int (nI rc), .ref (r 3), .int (nI tl), .ref (r 4), .ref (r 5), .ref (r 6), .ref (r 7), .ref (r 8), .ref (r 9), .ref (r 10), .ref (r 11), .ref (r 12), .int (nI (at9 + nd t tl at9 2 + 1 + nd t tl (at9 + nd t tl at9 2 + 1) 1)), .int (tn t tl at9 2), .int (tn t tl (at9 + nd t tl at9 2 + 1) 1), .int (vl9), .int (nI fa), .int (nI rs9), .int (cs), .int (nI dn)] (by rw [sA_0, if_neg c65]) (w2 := [ob 9 q [.ref (r 0), .ref (r 1), .ref (r 2), .int (nI rc), .ref (r 3), .int (nI tl), .ref (r 4), .ref (r 5), .ref (r 6), .ref (r 7), .ref (r 8), .ref (r 9), .ref (r 10), .ref (r 11), .ref (r 12), .int (nI (at9 + nd t tl at9 2 + 1 + nd t tl (at9 + nd t tl at9 2 + 1) 1)), .int (tn t tl at9 2), .int (tn t tl (at9 + nd t tl at9 2 + 1) 1), .int (vl9), .int (nI fa), .int (nI rs9), .int (cs), .int (nI dn)], ai E (r 3) 60 t]) rfl ?_
          refine g_iconst (v := nI 0) F dX9_readsWrite_72 (by decide) ?_
          refine g_istore_n (lv2 := [(1, .int (nI 0)), (0, .ref q)]) F dX9_readsWrite_73 rfl (by decide) rfl ?_
          refine g_aload_n F 1 dX9_readsWrite_74 rfl rfl ?_
          refine g_iload_n F 0 dX9_readsWrite_75 rfl rfl ?_
          refine g_if_eqN (tgt := 87) F dX9_readsWrite_76 (by decide) (by decide) (fun c76 => ?_) (fun c76 => absurd c76 (by decide))
          refine g_iconst (v := (-1)) F dX9_readsWrite_87 (by decide) ?_
          refine g_put F 0 18 dX9_readsWrite_88 rfl rfl (by decide) (by decide +kernel) (by decide +kernel) tyX9_ok nmX9 rfl (by decide +kernel) rfl rfl (Nat.le_of_ble_eq_true rfl) rfl (ty := .int) (w2 := [ob 9 q [.ref (r 0), .ref (r 1), .ref (r 2), .int (nI rc), .ref (r 3), .int (nI tl), .ref (r 4), .ref (r 5), .ref (r 6), .ref (r 7), .ref (r 8), .ref (r 9), .ref (r 10), .ref (r 11), .ref (r 12), .int (nI (at9 + nd t tl at9 2 + 1 + nd t tl (at9 + nd t tl at9 2 + 1) 1)), .int (tn t tl at9 2), .int (tn t tl (at9 + nd t tl at9 2 + 1) 1), .int ((-1)), .int (nI fa), .int (nI rs9), .int (cs), .int (nI dn)], ai E (r 3) 60 t]) rfl ?_
          refine g_iload_n F 0 dX9_readsWrite_91 rfl rfl ?_
          refine g_if_eqN (tgt := 115) F dX9_readsWrite_92 (by decide) (by decide) (fun c92 => ?_) (fun c92 => absurd c92 (by decide))
          refine g_iconst (v := nI 0) F dX9_readsWrite_115 (by decide) ?_
          refine g_obC 0 rfl [.ref (r 0), .ref (r 1), .ref (r 2), .int (nI rc), .ref (r 3), .int (nI tl), .ref (r 4), .ref (r 5), .ref (r 6), .ref (r 7), .ref (r 8), .ref (r 9), .ref (r 10), .ref (r 11), .ref (r 12), .int (nI ((prw t tl at9).2.1)), .int (tn t tl at9 2), .int (tn t tl (at9 + nd t tl at9 2 + 1) 1), .int ((-1)), .int (nI fa), .int (nI rs9), .int (cs), .int (nI dn)] (by rw [prw_4 (tn_pos c13) c22 (tn_pos c56) c65]) (w2 := [ob 9 q [.ref (r 0), .ref (r 1), .ref (r 2), .int (nI rc), .ref (r 3), .int (nI tl), .ref (r 4), .ref (r 5), .ref (r 6), .ref (r 7), .ref (r 8), .ref (r 9), .ref (r 10), .ref (r 11), .ref (r 12), .int (nI ((prw t tl at9).2.1)), .int (tn t tl at9 2), .int (tn t tl (at9 + nd t tl at9 2 + 1) 1), .int ((-1)), .int (nI fa), .int (nI rs9), .int (cs), .int (nI dn)], ai E (r 3) 60 t]) rfl ?_
          exact hret _ _ _ _ dX9_readsWrite_116 ⟨(tn t tl at9 2), (tn t tl (at9 + nd t tl at9 2 + 1) 1), (-1), (by rw [prw_4 (tn_pos c13) c22 (tn_pos c56) c65]; exact fun h => absurd (show (0 : Nat) = 1 from h) (by decide)), (bi_neg (by rw [prw_4 (tn_pos c13) c22 (tn_pos c56) c65]; exact fun h => absurd (show (0 : Nat) = 1 from h) (by decide))).symm, (by rfl)⟩
        · skip
          have i3 := nd_in t tl 3 (at9 + nd t tl at9 2 + 1 + nd t tl (at9 + nd t tl at9 2 + 1) 1 + 1) c65.1
          refine g_obC 0 rfl [.ref (r 0), .ref (r 1), .ref (r 2), .int (nI rc), .ref (r 3), .int (nI tl), .ref (r 4), .ref (r 5), .ref (r 6), .ref (r 7), .ref (r 8), .ref (r 9), .ref (r 10), .ref (r 11), .ref (r 12), .int (nI (at9 + nd t tl at9 2 + 1 + nd t tl (at9 + nd t tl at9 2 + 1) 1 + 1)), .int (tn t tl at9 2), .int (tn t tl (at9 + nd t tl at9 2 + 1) 1), .int (vl9), .int (nI fa), .int (nI rs9), .int (cs), .int (nI dn)] (by rw [sA_0, if_pos c65]) (w2 := [ob 9 q [.ref (r 0), .ref (r 1), .ref (r 2), .int (nI rc), .ref (r 3), .int (nI tl), .ref (r 4), .ref (r 5), .ref (r 6), .ref (r 7), .ref (r 8), .ref (r 9), .ref (r 10), .ref (r 11), .ref (r 12), .int (nI (at9 + nd t tl at9 2 + 1 + nd t tl (at9 + nd t tl at9 2 + 1) 1 + 1)), .int (tn t tl at9 2), .int (tn t tl (at9 + nd t tl at9 2 + 1) 1), .int (vl9), .int (nI fa), .int (nI rs9), .int (cs), .int (nI dn)], ai E (r 3) 60 t]) rfl ?_
          refine g_iconst (v := nI 1) F dX9_readsWrite_68 (by decide) ?_
          refine g_goto (tgt := 73) F dX9_readsWrite_69 (by decide) ?_
          refine g_istore_n (lv2 := [(1, .int (nI 1)), (0, .ref q)]) F dX9_readsWrite_73 rfl (by decide) rfl ?_
          refine g_aload_n F 1 dX9_readsWrite_74 rfl rfl ?_
          refine g_iload_n F 0 dX9_readsWrite_75 rfl rfl ?_
          refine g_if_eqN (tgt := 87) F dX9_readsWrite_76 (by decide) (by decide) (fun c76 => absurd c76 (by decide)) (fun c76 => ?_)
          refine g_aload_n F 1 dX9_readsWrite_79 rfl rfl ?_
          refine g_iconst (v := nI 3) F dX9_readsWrite_80 (by decide) ?_
          refine g_callViW (n := 1) F [0, 1] (c_X9_takeNumber l E q r rc tl (at9 + nd t tl at9 2 + 1 + nd t tl (at9 + nd t tl at9 2 + 1) 1 + 1) (tn t tl at9 2) (tn t tl (at9 + nd t tl at9 2 + 1) 1) vl9 fa rs9 cs dn t 3 (by exact hL) (by exact c65.1) (by exact ht) (by omega)) dX9_readsWrite_81 rfl (by decide) rfl rfl rfl (Nat.le_of_ble_eq_true rfl) ⟨Nat.le_of_ble_eq_true rfl, Nat.le_of_ble_eq_true rfl⟩ rfl rfl ⟨Nat.le_of_ble_eq_true rfl, Nat.le_of_ble_eq_true rfl⟩ 0 rfl rfl gX9_readsWrite_X9_takeNumber (by decide +kernel) (fun r u hp => by obtain ⟨-, rfl⟩ := hp; rfl) ?_
          rintro r_81 u_81 ⟨rfl, rfl⟩
          refine g_ws (w2 := [ob 9 q [.ref (r 0), .ref (r 1), .ref (r 2), .int (nI rc), .ref (r 3), .int (nI tl), .ref (r 4), .ref (r 5), .ref (r 6), .ref (r 7), .ref (r 8), .ref (r 9), .ref (r 10), .ref (r 11), .ref (r 12), .int (nI ((at9 + nd t tl at9 2 + 1 + nd t tl (at9 + nd t tl at9 2 + 1) 1 + 1) + nd t tl (at9 + nd t tl at9 2 + 1 + nd t tl (at9 + nd t tl at9 2 + 1) 1 + 1) 3)), .int (tn t tl at9 2), .int (tn t tl (at9 + nd t tl at9 2 + 1) 1), .int (vl9), .int (nI fa), .int (nI rs9), .int (cs), .int (nI dn)], ai E (r 3) 60 t]) rfl ?_
          refine g_goto (tgt := 88) F dX9_readsWrite_84 (by decide) ?_
          refine g_put F 0 18 dX9_readsWrite_88 rfl rfl (by decide) (by decide +kernel) (by decide +kernel) tyX9_ok nmX9 rfl (by decide +kernel) rfl rfl (Nat.le_of_ble_eq_true rfl) rfl (ty := .int) (w2 := [ob 9 q [.ref (r 0), .ref (r 1), .ref (r 2), .int (nI rc), .ref (r 3), .int (nI tl), .ref (r 4), .ref (r 5), .ref (r 6), .ref (r 7), .ref (r 8), .ref (r 9), .ref (r 10), .ref (r 11), .ref (r 12), .int (nI ((at9 + nd t tl at9 2 + 1 + nd t tl (at9 + nd t tl at9 2 + 1) 1 + 1) + nd t tl (at9 + nd t tl at9 2 + 1 + nd t tl (at9 + nd t tl at9 2 + 1) 1 + 1) 3)), .int (tn t tl at9 2), .int (tn t tl (at9 + nd t tl at9 2 + 1) 1), .int (tn t tl (at9 + nd t tl at9 2 + 1 + nd t tl (at9 + nd t tl at9 2 + 1) 1 + 1) 3), .int (nI fa), .int (nI rs9), .int (cs), .int (nI dn)], ai E (r 3) 60 t]) rfl ?_
          refine g_iload_n F 0 dX9_readsWrite_91 rfl rfl ?_
          refine g_if_eqN (tgt := 115) F dX9_readsWrite_92 (by decide) (by decide) (fun c92 => absurd c92 (by decide)) (fun c92 => ?_)
          refine g_aload_n F 1 dX9_readsWrite_95 rfl rfl ?_
          refine g_get F 0 18 dX9_readsWrite_96 rfl rfl (by decide) (by decide +kernel) (by decide +kernel) rfl ?_
          refine g_if_lt (tgt := 115) F dX9_readsWrite_99 (by decide) (fun c99 => ?_) (fun c99 => ?_)
          · skip
            refine g_obC 0 rfl [.ref (r 0), .ref (r 1), .ref (r 2), .int (nI rc), .ref (r 3), .int (nI tl), .ref (r 4), .ref (r 5), .ref (r 6), .ref (r 7), .ref (r 8), .ref (r 9), .ref (r 10), .ref (r 11), .ref (r 12), .int (nI (at9 + nd t tl at9 2 + 1 + nd t tl (at9 + nd t tl at9 2 + 1) 1 + 1)), .int (tn t tl at9 2), .int (tn t tl (at9 + nd t tl at9 2 + 1) 1), .int (tn t tl (at9 + nd t tl at9 2 + 1 + nd t tl (at9 + nd t tl at9 2 + 1) 1 + 1) 3), .int (nI fa), .int (nI rs9), .int (cs), .int (nI dn)] (by rw [tn_neg (by decide) c99]) (w2 := [ob 9 q [.ref (r 0), .ref (r 1), .ref (r 2), .int (nI rc), .ref (r 3), .int (nI tl), .ref (r 4), .ref (r 5), .ref (r 6), .ref (r 7), .ref (r 8), .ref (r 9), .ref (r 10), .ref (r 11), .ref (r 12), .int (nI (at9 + nd t tl at9 2 + 1 + nd t tl (at9 + nd t tl at9 2 + 1) 1 + 1)), .int (tn t tl at9 2), .int (tn t tl (at9 + nd t tl at9 2 + 1) 1), .int (tn t tl (at9 + nd t tl at9 2 + 1 + nd t tl (at9 + nd t tl at9 2 + 1) 1 + 1) 3), .int (nI fa), .int (nI rs9), .int (cs), .int (nI dn)], ai E (r 3) 60 t]) rfl ?_
            refine g_iconst (v := nI 0) F dX9_readsWrite_115 (by decide) ?_
            refine g_obC 0 rfl [.ref (r 0), .ref (r 1), .ref (r 2), .int (nI rc), .ref (r 3), .int (nI tl), .ref (r 4), .ref (r 5), .ref (r 6), .ref (r 7), .ref (r 8), .ref (r 9), .ref (r 10), .ref (r 11), .ref (r 12), .int (nI ((prw t tl at9).2.1)), .int (tn t tl at9 2), .int (tn t tl (at9 + nd t tl at9 2 + 1) 1), .int (tn t tl (at9 + nd t tl at9 2 + 1 + nd t tl (at9 + nd t tl at9 2 + 1) 1 + 1) 3), .int (nI fa), .int (nI rs9), .int (cs), .int (nI dn)] (by rw [prw_5 (tn_pos c13) c22 (tn_pos c56) c65 (tn_neg (by decide) c99)]) (w2 := [ob 9 q [.ref (r 0), .ref (r 1), .ref (r 2), .int (nI rc), .ref (r 3), .int (nI tl), .ref (r 4), .ref (r 5), .ref (r 6), .ref (r 7), .ref (r 8), .ref (r 9), .ref (r 10), .ref (r 11), .ref (r 12), .int (nI ((prw t tl at9).2.1)), .int (tn t tl at9 2), .int (tn t tl (at9 + nd t tl at9 2 + 1) 1), .int (tn t tl (at9 + nd t tl at9 2 + 1 + nd t tl (at9 + nd t tl at9 2 + 1) 1 + 1) 3), .int (nI fa), .int (nI rs9), .int (cs), .int (nI dn)], ai E (r 3) 60 t]) rfl ?_
            exact hret _ _ _ _ dX9_readsWrite_116 ⟨(tn t tl at9 2), (tn t tl (at9 + nd t tl at9 2 + 1) 1), (tn t tl (at9 + nd t tl at9 2 + 1 + nd t tl (at9 + nd t tl at9 2 + 1) 1 + 1) 3), (by rw [prw_5 (tn_pos c13) c22 (tn_pos c56) c65 (tn_neg (by decide) c99)]; exact fun h => absurd (show (0 : Nat) = 1 from h) (by decide)), (bi_neg (by rw [prw_5 (tn_pos c13) c22 (tn_pos c56) c65 (tn_neg (by decide) c99)]; exact fun h => absurd (show (0 : Nat) = 1 from h) (by decide))).symm, (by rfl)⟩
          · skip
            refine g_aload_n F 1 dX9_readsWrite_102 rfl rfl ?_
            refine g_bipush (v := nI 59) F dX9_readsWrite_103 (by decide) ?_
            refine g_callViW (n := 1) F [0, 1] (c_X9_takes l E q r rc tl ((at9 + nd t tl at9 2 + 1 + nd t tl (at9 + nd t tl at9 2 + 1) 1 + 1) + nd t tl (at9 + nd t tl at9 2 + 1 + nd t tl (at9 + nd t tl at9 2 + 1) 1 + 1) 3) (tn t tl at9 2) (tn t tl (at9 + nd t tl at9 2 + 1) 1) (tn t tl (at9 + nd t tl at9 2 + 1 + nd t tl (at9 + nd t tl at9 2 + 1) 1 + 1) 3) fa rs9 cs dn t 59 (by exact hL) (by exact i3) (by exact ht) (by omega)) dX9_readsWrite_105 rfl (by decide) rfl rfl rfl (Nat.le_of_ble_eq_true rfl) ⟨Nat.le_of_ble_eq_true rfl, Nat.le_of_ble_eq_true rfl⟩ rfl rfl ⟨Nat.le_of_ble_eq_true rfl, Nat.le_of_ble_eq_true rfl⟩ 0 rfl rfl gX9_readsWrite_X9_takes (by decide +kernel) (fun r u hp => by obtain ⟨-, rfl⟩ := hp; rfl) ?_
            rintro r_105 u_105 ⟨rfl, rfl⟩
            refine g_ws (w2 := [ob 9 q [.ref (r 0), .ref (r 1), .ref (r 2), .int (nI rc), .ref (r 3), .int (nI tl), .ref (r 4), .ref (r 5), .ref (r 6), .ref (r 7), .ref (r 8), .ref (r 9), .ref (r 10), .ref (r 11), .ref (r 12), .int (nI (sA t tl 0 ((at9 + nd t tl at9 2 + 1 + nd t tl (at9 + nd t tl at9 2 + 1) 1 + 1) + nd t tl (at9 + nd t tl at9 2 + 1 + nd t tl (at9 + nd t tl at9 2 + 1) 1 + 1) 3) 59)), .int (tn t tl at9 2), .int (tn t tl (at9 + nd t tl at9 2 + 1) 1), .int (tn t tl (at9 + nd t tl at9 2 + 1 + nd t tl (at9 + nd t tl at9 2 + 1) 1 + 1) 3), .int (nI fa), .int (nI rs9), .int (cs), .int (nI dn)], ai E (r 3) 60 t]) rfl ?_
            refine g_if_eqB (tgt := 115) F dX9_readsWrite_108 (by decide) (fun c108 => ?_) (fun c108 => ?_)
            · skip
              refine g_obC 0 rfl [.ref (r 0), .ref (r 1), .ref (r 2), .int (nI rc), .ref (r 3), .int (nI tl), .ref (r 4), .ref (r 5), .ref (r 6), .ref (r 7), .ref (r 8), .ref (r 9), .ref (r 10), .ref (r 11), .ref (r 12), .int (nI (at9 + nd t tl at9 2 + 1 + nd t tl (at9 + nd t tl at9 2 + 1) 1 + 1 + nd t tl (at9 + nd t tl at9 2 + 1 + nd t tl (at9 + nd t tl at9 2 + 1) 1 + 1) 3)), .int (tn t tl at9 2), .int (tn t tl (at9 + nd t tl at9 2 + 1) 1), .int (tn t tl (at9 + nd t tl at9 2 + 1 + nd t tl (at9 + nd t tl at9 2 + 1) 1 + 1) 3), .int (nI fa), .int (nI rs9), .int (cs), .int (nI dn)] (by rw [sA_0, if_neg c108]) (w2 := [ob 9 q [.ref (r 0), .ref (r 1), .ref (r 2), .int (nI rc), .ref (r 3), .int (nI tl), .ref (r 4), .ref (r 5), .ref (r 6), .ref (r 7), .ref (r 8), .ref (r 9), .ref (r 10), .ref (r 11), .ref (r 12), .int (nI (at9 + nd t tl at9 2 + 1 + nd t tl (at9 + nd t tl at9 2 + 1) 1 + 1 + nd t tl (at9 + nd t tl at9 2 + 1 + nd t tl (at9 + nd t tl at9 2 + 1) 1 + 1) 3)), .int (tn t tl at9 2), .int (tn t tl (at9 + nd t tl at9 2 + 1) 1), .int (tn t tl (at9 + nd t tl at9 2 + 1 + nd t tl (at9 + nd t tl at9 2 + 1) 1 + 1) 3), .int (nI fa), .int (nI rs9), .int (cs), .int (nI dn)], ai E (r 3) 60 t]) rfl ?_
              refine g_iconst (v := nI 0) F dX9_readsWrite_115 (by decide) ?_
              refine g_obC 0 rfl [.ref (r 0), .ref (r 1), .ref (r 2), .int (nI rc), .ref (r 3), .int (nI tl), .ref (r 4), .ref (r 5), .ref (r 6), .ref (r 7), .ref (r 8), .ref (r 9), .ref (r 10), .ref (r 11), .ref (r 12), .int (nI ((prw t tl at9).2.1)), .int (tn t tl at9 2), .int (tn t tl (at9 + nd t tl at9 2 + 1) 1), .int (tn t tl (at9 + nd t tl at9 2 + 1 + nd t tl (at9 + nd t tl at9 2 + 1) 1 + 1) 3), .int (nI fa), .int (nI rs9), .int (cs), .int (nI dn)] (by rw [prw_6 (tn_pos c13) c22 (tn_pos c56) c65 (tn_pos c99) c108]) (w2 := [ob 9 q [.ref (r 0), .ref (r 1), .ref (r 2), .int (nI rc), .ref (r 3), .int (nI tl), .ref (r 4), .ref (r 5), .ref (r 6), .ref (r 7), .ref (r 8), .ref (r 9), .ref (r 10), .ref (r 11), .ref (r 12), .int (nI ((prw t tl at9).2.1)), .int (tn t tl at9 2), .int (tn t tl (at9 + nd t tl at9 2 + 1) 1), .int (tn t tl (at9 + nd t tl at9 2 + 1 + nd t tl (at9 + nd t tl at9 2 + 1) 1 + 1) 3), .int (nI fa), .int (nI rs9), .int (cs), .int (nI dn)], ai E (r 3) 60 t]) rfl ?_
              exact hret _ _ _ _ dX9_readsWrite_116 ⟨(tn t tl at9 2), (tn t tl (at9 + nd t tl at9 2 + 1) 1), (tn t tl (at9 + nd t tl at9 2 + 1 + nd t tl (at9 + nd t tl at9 2 + 1) 1 + 1) 3), (by rw [prw_6 (tn_pos c13) c22 (tn_pos c56) c65 (tn_pos c99) c108]; exact fun h => absurd (show (0 : Nat) = 1 from h) (by decide)), (bi_neg (by rw [prw_6 (tn_pos c13) c22 (tn_pos c56) c65 (tn_pos c99) c108]; exact fun h => absurd (show (0 : Nat) = 1 from h) (by decide))).symm, (by rfl)⟩
            · skip
              refine g_obC 0 rfl [.ref (r 0), .ref (r 1), .ref (r 2), .int (nI rc), .ref (r 3), .int (nI tl), .ref (r 4), .ref (r 5), .ref (r 6), .ref (r 7), .ref (r 8), .ref (r 9), .ref (r 10), .ref (r 11), .ref (r 12), .int (nI (at9 + nd t tl at9 2 + 1 + nd t tl (at9 + nd t tl at9 2 + 1) 1 + 1 + nd t tl (at9 + nd t tl at9 2 + 1 + nd t tl (at9 + nd t tl at9 2 + 1) 1 + 1) 3 + 1)), .int (tn t tl at9 2), .int (tn t tl (at9 + nd t tl at9 2 + 1) 1), .int (tn t tl (at9 + nd t tl at9 2 + 1 + nd t tl (at9 + nd t tl at9 2 + 1) 1 + 1) 3), .int (nI fa), .int (nI rs9), .int (cs), .int (nI dn)] (by rw [sA_0, if_pos c108]) (w2 := [ob 9 q [.ref (r 0), .ref (r 1), .ref (r 2), .int (nI rc), .ref (r 3), .int (nI tl), .ref (r 4), .ref (r 5), .ref (r 6), .ref (r 7), .ref (r 8), .ref (r 9), .ref (r 10), .ref (r 11), .ref (r 12), .int (nI (at9 + nd t tl at9 2 + 1 + nd t tl (at9 + nd t tl at9 2 + 1) 1 + 1 + nd t tl (at9 + nd t tl at9 2 + 1 + nd t tl (at9 + nd t tl at9 2 + 1) 1 + 1) 3 + 1)), .int (tn t tl at9 2), .int (tn t tl (at9 + nd t tl at9 2 + 1) 1), .int (tn t tl (at9 + nd t tl at9 2 + 1 + nd t tl (at9 + nd t tl at9 2 + 1) 1 + 1) 3), .int (nI fa), .int (nI rs9), .int (cs), .int (nI dn)], ai E (r 3) 60 t]) rfl ?_
              refine g_iconst (v := nI 1) F dX9_readsWrite_111 (by decide) ?_
              refine g_goto (tgt := 116) F dX9_readsWrite_112 (by decide) ?_
              refine g_obC 0 rfl [.ref (r 0), .ref (r 1), .ref (r 2), .int (nI rc), .ref (r 3), .int (nI tl), .ref (r 4), .ref (r 5), .ref (r 6), .ref (r 7), .ref (r 8), .ref (r 9), .ref (r 10), .ref (r 11), .ref (r 12), .int (nI ((prw t tl at9).2.1)), .int (tn t tl at9 2), .int (tn t tl (at9 + nd t tl at9 2 + 1) 1), .int (tn t tl (at9 + nd t tl at9 2 + 1 + nd t tl (at9 + nd t tl at9 2 + 1) 1 + 1) 3), .int (nI fa), .int (nI rs9), .int (cs), .int (nI dn)] (by rw [prw_7 (tn_pos c13) c22 (tn_pos c56) c65 (tn_pos c99) c108]) (w2 := [ob 9 q [.ref (r 0), .ref (r 1), .ref (r 2), .int (nI rc), .ref (r 3), .int (nI tl), .ref (r 4), .ref (r 5), .ref (r 6), .ref (r 7), .ref (r 8), .ref (r 9), .ref (r 10), .ref (r 11), .ref (r 12), .int (nI ((prw t tl at9).2.1)), .int (tn t tl at9 2), .int (tn t tl (at9 + nd t tl at9 2 + 1) 1), .int (tn t tl (at9 + nd t tl at9 2 + 1 + nd t tl (at9 + nd t tl at9 2 + 1) 1 + 1) 3), .int (nI fa), .int (nI rs9), .int (cs), .int (nI dn)], ai E (r 3) 60 t]) rfl ?_
              exact hret _ _ _ _ dX9_readsWrite_116 ⟨(tn t tl at9 2), (tn t tl (at9 + nd t tl at9 2 + 1) 1), (tn t tl (at9 + nd t tl at9 2 + 1 + nd t tl (at9 + nd t tl at9 2 + 1) 1 + 1) 3), (by rw [prw_7 (tn_pos c13) c22 (tn_pos c56) c65 (tn_pos c99) c108]; exact fun _ => ⟨tn_is (tn_pos c13), tn_is (tn_pos c56), tn_is (tn_pos c99)⟩), (bi_pos (by rw [prw_7 (tn_pos c13) c22 (tn_pos c56) c65 (tn_pos c99) c108])).symm, (by rfl)⟩
set_option maxHeartbeats 4000000 in
set_option maxRecDepth 100000 in
theorem c_X9_faults (l : Launch) (E : En) (q : Nat) (r : Nat → Nat) (rc : Nat) (tl : Nat) (at9 : Nat) (lf9 : Int32) (pl9 : Int32) (vl9 : Int32) (fa : Nat) (rs9 : Nat) (cs : Int32) (dn : Nat) (f1 : Nat) (f2 : Nat) (f3 : Int32)  : CtV l yX9_faults wsX9_faults ({ frames := 0, cells := 0, slots := 0, locals := 0 } : Room) E [.ref q, .int (nI f1), .int (nI f2), .int (f3)] [ob 9 q [.ref (r 0), .ref (r 1), .ref (r 2), .int (nI rc), .ref (r 3), .int (nI tl), .ref (r 4), .ref (r 5), .ref (r 6), .ref (r 7), .ref (r 8), .ref (r 9), .ref (r 10), .ref (r 11), .ref (r 12), .int (nI at9), .int (lf9), .int (pl9), .int (vl9), .int (nI fa), .int (nI rs9), .int (cs), .int (nI dn)]] (fun uu => uu = [ob 9 q [.ref (r 0), .ref (r 1), .ref (r 2), .int (nI rc), .ref (r 3), .int (nI tl), .ref (r 4), .ref (r 5), .ref (r 6), .ref (r 7), .ref (r 8), .ref (r 9), .ref (r 10), .ref (r 11), .ref (r 12), .int (nI at9), .int (lf9), .int (pl9), .int (vl9), .int (nI f1), .int (nI f2), .int (f3), .int (nI dn)]]) := by
  refine CtV.of cX9_faults 4 RX9 rfl (by decide) rfl (Nat.le_of_ble_eq_true rfl) ?_
  intro Γ F hin0 hret
  show G Γ E 0 0 0 [(0, .ref q), (1, .int (nI f1)), (2, .int (nI f2)), (3, .int (f3))] [] [ob 9 q [.ref (r 0), .ref (r 1), .ref (r 2), .int (nI rc), .ref (r 3), .int (nI tl), .ref (r 4), .ref (r 5), .ref (r 6), .ref (r 7), .ref (r 8), .ref (r 9), .ref (r 10), .ref (r 11), .ref (r 12), .int (nI at9), .int (lf9), .int (pl9), .int (vl9), .int (nI fa), .int (nI rs9), .int (cs), .int (nI dn)]]
  refine g_aload_n F 0 dX9_faults_0 rfl rfl ?_
  refine g_iload_n F 1 dX9_faults_1 rfl rfl ?_
  refine g_put F 0 19 dX9_faults_2 rfl rfl (by decide) (by decide +kernel) (by decide +kernel) tyX9_ok nmX9 rfl (by decide +kernel) rfl rfl (Nat.le_of_ble_eq_true rfl) rfl (ty := .int) (w2 := [ob 9 q [.ref (r 0), .ref (r 1), .ref (r 2), .int (nI rc), .ref (r 3), .int (nI tl), .ref (r 4), .ref (r 5), .ref (r 6), .ref (r 7), .ref (r 8), .ref (r 9), .ref (r 10), .ref (r 11), .ref (r 12), .int (nI at9), .int (lf9), .int (pl9), .int (vl9), .int (nI f1), .int (nI rs9), .int (cs), .int (nI dn)]]) rfl ?_
  refine g_aload_n F 0 dX9_faults_5 rfl rfl ?_
  refine g_iload_n F 2 dX9_faults_6 rfl rfl ?_
  refine g_put F 0 20 dX9_faults_7 rfl rfl (by decide) (by decide +kernel) (by decide +kernel) tyX9_ok nmX9 rfl (by decide +kernel) rfl rfl (Nat.le_of_ble_eq_true rfl) rfl (ty := .int) (w2 := [ob 9 q [.ref (r 0), .ref (r 1), .ref (r 2), .int (nI rc), .ref (r 3), .int (nI tl), .ref (r 4), .ref (r 5), .ref (r 6), .ref (r 7), .ref (r 8), .ref (r 9), .ref (r 10), .ref (r 11), .ref (r 12), .int (nI at9), .int (lf9), .int (pl9), .int (vl9), .int (nI f1), .int (nI f2), .int (cs), .int (nI dn)]]) rfl ?_
  refine g_aload_n F 0 dX9_faults_10 rfl rfl ?_
  refine g_iload_n F 3 dX9_faults_11 rfl rfl ?_
  refine g_put F 0 21 dX9_faults_12 rfl rfl (by decide) (by decide +kernel) (by decide +kernel) tyX9_ok nmX9 rfl (by decide +kernel) rfl rfl (Nat.le_of_ble_eq_true rfl) rfl (ty := .int) (w2 := [ob 9 q [.ref (r 0), .ref (r 1), .ref (r 2), .int (nI rc), .ref (r 3), .int (nI tl), .ref (r 4), .ref (r 5), .ref (r 6), .ref (r 7), .ref (r 8), .ref (r 9), .ref (r 10), .ref (r 11), .ref (r 12), .int (nI at9), .int (lf9), .int (pl9), .int (vl9), .int (nI f1), .int (nI f2), .int (f3), .int (nI dn)]]) rfl ?_
  exact hret _ _ _ dX9_faults_15 rfl
set_option maxHeartbeats 4000000 in
set_option maxRecDepth 100000 in
theorem c_X9_plays (l : Launch) (E : En) (q : Nat) (r : Nat → Nat) (rc : Nat) (tl : Nat) (at9 : Nat) (lf9 : Int32) (pl9 : Int32) (vl9 : Int32) (fa : Nat) (rs9 : Nat) (cs : Int32) (dn : Nat) (S : Nat → Nat) (C : CS) (B : Nat → Nat) (Q : Nat → Nat) (K : Nat → Int32) (La : Nat → Nat) (Pa : Nat → Nat) (Ra : Nat → Nat) (Mo : Nat → Nat) (t : Nat → Nat) (hR : Rel S C) (hI : IC C) (hL : tl ≤ 60) (ht : BT t) : CtV l yX9_plays wsX9_plays ({ frames := 5, cells := 0, slots := 0, locals := 115 } : Room) E [.ref q] [ob 9 q [.ref (r 0), .ref (r 1), .ref (r 2), .int (nI rc), .ref (r 3), .int (nI tl), .ref (r 4), .ref (r 5), .ref (r 6), .ref (r 7), .ref (r 8), .ref (r 9), .ref (r 10), .ref (r 11), .ref (r 12), .int (nI at9), .int (lf9), .int (pl9), .int (vl9), .int (nI fa), .int (nI rs9), .int (cs), .int (nI dn)], ai E (r 0) 892 S, ai E (r 4) 3 B, ai E (r 5) 3 Q, ax E (r 6) 3 K, ai E (r 8) 4 La, ai E (r 9) 4 Pa, ai E (r 10) 4 Ra, ai E (r 11) 4 Mo, ai E (r 3) 60 t] (fun uu => ∃ (S2 : Nat → Nat), ∃ (B2 : Nat → Nat), ∃ (Q2 : Nat → Nat), ∃ (K2 : Nat → Int32), ∃ (La2 : Nat → Nat), ∃ (Pa2 : Nat → Nat), ∃ (Ra2 : Nat → Nat), ∃ (Mo2 : Nat → Nat), ∃ (at2 : Nat), ∃ (lf2 : Int32), ∃ (pl2 : Int32), ∃ (vl2 : Int32), ∃ (fa2 : Nat), ∃ (rs2 : Nat), ∃ (cs2 : Int32), ∃ (dn2 : Nat), (Rel S2 (tr0 t tl C).2.2.2.2) ∧ ((tr0 t tl C).2.1 = rs2) ∧ ((tr0 t tl C).2.2.2.1 = dn2) ∧ (¬ rs2 = 0 → (tr0 t tl C).1 = fa2) ∧ (rs2 = 2 → cs2 = -1000004) ∧ (¬ rs2 = 0 → ¬ rs2 = 2 → (tr0 t tl C).2.2.1 = cs2) ∧ uu = [ob 9 q [.ref (r 0), .ref (r 1), .ref (r 2), .int (nI rc), .ref (r 3), .int (nI tl), .ref (r 4), .ref (r 5), .ref (r 6), .ref (r 7), .ref (r 8), .ref (r 9), .ref (r 10), .ref (r 11), .ref (r 12), .int (nI at2), .int (lf2), .int (pl2), .int (vl2), .int (nI fa2), .int (nI rs2), .int (cs2), .int (nI dn2)], ai E (r 0) 892 S2, ai E (r 4) 3 B2, ai E (r 5) 3 Q2, ax E (r 6) 3 K2, ai E (r 8) 4 La2, ai E (r 9) 4 Pa2, ai E (r 10) 4 Ra2, ai E (r 11) 4 Mo2, ai E (r 3) 60 t]) := by
  refine CtV.of cX9_plays 3 RX9 rfl (by decide) rfl (Nat.le_of_ble_eq_true rfl) ?_
  intro Γ F hin0 hret
  show G Γ E 0 0 0 [(0, .ref q)] [] [ob 9 q [.ref (r 0), .ref (r 1), .ref (r 2), .int (nI rc), .ref (r 3), .int (nI tl), .ref (r 4), .ref (r 5), .ref (r 6), .ref (r 7), .ref (r 8), .ref (r 9), .ref (r 10), .ref (r 11), .ref (r 12), .int (nI at9), .int (lf9), .int (pl9), .int (vl9), .int (nI fa), .int (nI rs9), .int (cs), .int (nI dn)], ai E (r 0) 892 S, ai E (r 4) 3 B, ai E (r 5) 3 Q, ax E (r 6) 3 K, ai E (r 8) 4 La, ai E (r 9) 4 Pa, ai E (r 10) 4 Ra, ai E (r 11) 4 Mo, ai E (r 3) 60 t]
  refine g_aload_n F 0 dX9_plays_0 rfl rfl ?_
  refine g_iconst (v := nI 0) F dX9_plays_1 (by decide) ?_
  refine g_put F 0 15 dX9_plays_2 rfl rfl (by decide) (by decide +kernel) (by decide +kernel) tyX9_ok nmX9 rfl (by decide +kernel) rfl rfl (Nat.le_of_ble_eq_true rfl) rfl (ty := .int) (w2 := [ob 9 q [.ref (r 0), .ref (r 1), .ref (r 2), .int (nI rc), .ref (r 3), .int (nI tl), .ref (r 4), .ref (r 5), .ref (r 6), .ref (r 7), .ref (r 8), .ref (r 9), .ref (r 10), .ref (r 11), .ref (r 12), .int (nI 0), .int (lf9), .int (pl9), .int (vl9), .int (nI fa), .int (nI rs9), .int (cs), .int (nI dn)], ai E (r 0) 892 S, ai E (r 4) 3 B, ai E (r 5) 3 Q, ax E (r 6) 3 K, ai E (r 8) 4 La, ai E (r 9) 4 Pa, ai E (r 10) 4 Ra, ai E (r 11) 4 Mo, ai E (r 3) 60 t]) rfl ?_
  refine g_aload_n F 0 dX9_plays_5 rfl rfl ?_
  refine g_iconst (v := nI 0) F dX9_plays_6 (by decide) ?_
  refine g_put F 0 22 dX9_plays_7 rfl rfl (by decide) (by decide +kernel) (by decide +kernel) tyX9_ok nmX9 rfl (by decide +kernel) rfl rfl (Nat.le_of_ble_eq_true rfl) rfl (ty := .int) (w2 := [ob 9 q [.ref (r 0), .ref (r 1), .ref (r 2), .int (nI rc), .ref (r 3), .int (nI tl), .ref (r 4), .ref (r 5), .ref (r 6), .ref (r 7), .ref (r 8), .ref (r 9), .ref (r 10), .ref (r 11), .ref (r 12), .int (nI 0), .int (lf9), .int (pl9), .int (vl9), .int (nI fa), .int (nI rs9), .int (cs), .int (nI 0)], ai E (r 0) 892 S, ai E (r 4) 3 B, ai E (r 5) 3 Q, ax E (r 6) 3 K, ai E (r 8) 4 La, ai E (r 9) 4 Pa, ai E (r 10) 4 Ra, ai E (r 11) 4 Mo, ai E (r 3) 60 t]) rfl ?_
  refine g_aload_n F 0 dX9_plays_10 rfl rfl ?_
  refine g_iconst (v := nI 0) F dX9_plays_11 (by decide) ?_
  refine g_put F 0 20 dX9_plays_12 rfl rfl (by decide) (by decide +kernel) (by decide +kernel) tyX9_ok nmX9 rfl (by decide +kernel) rfl rfl (Nat.le_of_ble_eq_true rfl) rfl (ty := .int) (w2 := [ob 9 q [.ref (r 0), .ref (r 1), .ref (r 2), .int (nI rc), .ref (r 3), .int (nI tl), .ref (r 4), .ref (r 5), .ref (r 6), .ref (r 7), .ref (r 8), .ref (r 9), .ref (r 10), .ref (r 11), .ref (r 12), .int (nI 0), .int (lf9), .int (pl9), .int (vl9), .int (nI fa), .int (nI 0), .int (cs), .int (nI 0)], ai E (r 0) 892 S, ai E (r 4) 3 B, ai E (r 5) 3 Q, ax E (r 6) 3 K, ai E (r 8) 4 La, ai E (r 9) 4 Pa, ai E (r 10) 4 Ra, ai E (r 11) 4 Mo, ai E (r 3) 60 t]) rfl ?_
  have loop15 : ∀ (n : Nat) (g : Nat) (Cc : CS) (Sv : Nat → Nat) (av : Nat) (lv9 : Int32) (pv9 : Int32) (vv9 : Int32) (fav : Nat) (rsv : Nat) (csv : Int32) (dnv : Nat) (Bv : Nat → Nat) (Qv : Nat → Nat) (Kv : Nat → Int32) (Lav : Nat → Nat) (Pav : Nat → Nat) (Rav : Nat → Nat) (Mov : Nat → Nat), g < n → (Rel Sv Cc) → (IC Cc) → (PI t tl C Cc av dnv rsv fav csv g) → (av ≤ tl) → (rsv ≤ 3) → G Γ E 0 0 15 [(0, .ref q)] [] [ob 9 q [.ref (r 0), .ref (r 1), .ref (r 2), .int (nI rc), .ref (r 3), .int (nI tl), .ref (r 4), .ref (r 5), .ref (r 6), .ref (r 7), .ref (r 8), .ref (r 9), .ref (r 10), .ref (r 11), .ref (r 12), .int (nI av), .int (lv9), .int (pv9), .int (vv9), .int (nI fav), .int (nI rsv), .int (csv), .int (nI dnv)], ai E (r 0) 892 Sv, ai E (r 4) 3 Bv, ai E (r 5) 3 Qv, ax E (r 6) 3 Kv, ai E (r 8) 4 Lav, ai E (r 9) 4 Pav, ai E (r 10) 4 Rav, ai E (r 11) 4 Mov, ai E (r 3) 60 t] := by
    intro n
    induction n with
    | zero => intro g Cc Sv av lv9 pv9 vv9 fav rsv csv dnv Bv Qv Kv Lav Pav Rav Mov hz; exact absurd hz (Nat.not_lt_zero _)
    | succ n ih15 =>
      intro g Cc Sv av lv9 pv9 vv9 fav rsv csv dnv Bv Qv Kv Lav Pav Rav Mov hz15 hS hIc hPI hav hrs3
      refine g_aload_n F 0 dX9_plays_15 rfl rfl ?_
      refine g_get F 0 15 dX9_plays_16 rfl rfl (by decide) (by decide +kernel) (by decide +kernel) rfl ?_
      refine g_aload_n F 0 dX9_plays_19 rfl rfl ?_
      refine g_get F 0 5 dX9_plays_20 rfl rfl (by decide) (by decide +kernel) (by decide +kernel) rfl ?_
      refine g_icmp_geN (tgt := 150) F dX9_plays_23 (by decide) (by omega) (by omega) (fun c23 => ?_) (fun c23 => ?_)
      · skip
        exact hret _ _ _ dX9_plays_150 ⟨Sv, Bv, Qv, Kv, Lav, Pav, Rav, Mov, av, lv9, pv9, vv9, fav, rsv, csv, dnv, (by have h9 := PI_end hPI (Or.inl c23); rw [h9.2.2.1]; exact hS), (by have h9 := PI_end hPI (Or.inl c23); exact h9.1), (by have h9 := PI_end hPI (Or.inl c23); exact h9.2.1), (by have h9 := PI_end hPI (Or.inl c23); exact h9.2.2.2.1), (by have h9 := PI_end hPI (Or.inl c23); exact h9.2.2.2.2.1), (by have h9 := PI_end hPI (Or.inl c23); exact h9.2.2.2.2.2), (by rfl)⟩
      · skip
        refine g_aload_n F 0 dX9_plays_26 rfl rfl ?_
        refine g_get F 0 20 dX9_plays_27 rfl rfl (by decide) (by decide +kernel) (by decide +kernel) rfl ?_
        refine g_if_neN (tgt := 150) F dX9_plays_30 (by decide) (by omega) (fun c30 => ?_) (fun c30 => ?_)
        · skip
          exact hret _ _ _ dX9_plays_150 ⟨Sv, Bv, Qv, Kv, Lav, Pav, Rav, Mov, av, lv9, pv9, vv9, fav, rsv, csv, dnv, (by have h9 := PI_end hPI (Or.inr c30); rw [h9.2.2.1]; exact hS), (by have h9 := PI_end hPI (Or.inr c30); exact h9.1), (by have h9 := PI_end hPI (Or.inr c30); exact h9.2.1), (by have h9 := PI_end hPI (Or.inr c30); exact h9.2.2.2.1), (by have h9 := PI_end hPI (Or.inr c30); exact h9.2.2.2.2.1), (by have h9 := PI_end hPI (Or.inr c30); exact h9.2.2.2.2.2), (by rfl)⟩
        · skip
          obtain ⟨g9, hg9, hg8, htot⟩ := PI_run hPI c30 c23
          have hna : ¬ tl ≤ av := by omega
          have hrs0 := c30
          have hbd := prw_bd (t := t) hav
          refine g_aload_n F 0 dX9_plays_33 rfl rfl ?_
          refine g_get F 0 15 dX9_plays_34 rfl rfl (by decide) (by decide +kernel) (by decide +kernel) rfl ?_
          refine g_istore_n (lv2 := [(1, .int (nI av)), (0, .ref q)]) F dX9_plays_37 rfl (by decide) rfl ?_
          refine g_aload_n F 1 dX9_plays_38 rfl rfl ?_
          refine g_callViW (n := 0) F [0, 9] (c_X9_readsWrite l E q r rc tl av lv9 pv9 vv9 fav rsv csv dnv t (by exact hL) (by exact hav) (by exact ht)) dX9_plays_39 rfl (by decide) rfl rfl rfl (Nat.le_of_ble_eq_true rfl) ⟨Nat.le_of_ble_eq_true rfl, Nat.le_of_ble_eq_true rfl⟩ rfl rfl ⟨Nat.le_of_ble_eq_true rfl, Nat.le_of_ble_eq_true rfl⟩ 0 rfl rfl gX9_plays_X9_readsWrite (by decide +kernel) (fun r u hp => by obtain ⟨_, _, _, -, -, rfl⟩ := hp; rfl) ?_
          rintro r_39 u_39 ⟨lf2_39, pl2_39, vl2_39, hok_39, rfl, rfl⟩
          refine g_ws (w2 := [ob 9 q [.ref (r 0), .ref (r 1), .ref (r 2), .int (nI rc), .ref (r 3), .int (nI tl), .ref (r 4), .ref (r 5), .ref (r 6), .ref (r 7), .ref (r 8), .ref (r 9), .ref (r 10), .ref (r 11), .ref (r 12), .int (nI ((prw t tl av).2.1)), .int (lf2_39), .int (pl2_39), .int (vl2_39), .int (nI fav), .int (nI rsv), .int (csv), .int (nI dnv)], ai E (r 0) 892 Sv, ai E (r 4) 3 Bv, ai E (r 5) 3 Qv, ax E (r 6) 3 Kv, ai E (r 8) 4 Lav, ai E (r 9) 4 Pav, ai E (r 10) 4 Rav, ai E (r 11) 4 Mov, ai E (r 3) 60 t]) rfl ?_
          refine g_if_neB (tgt := 60) F dX9_plays_42 (by decide) (fun c42 => ?_) (fun c42 => ?_)
          · skip
            have hpl : pl_ t tl av < 100 := hbd.2.2.2.1
            have hpp : pp_ t tl av < 10 := hbd.2.2.2.2.1
            have hpv : pv_ t tl av < 1000 := hbd.2.2.2.2.2
            obtain ⟨h91, h92, h93⟩ := hok_39 c42
            refine g_obC 0 rfl [.ref (r 0), .ref (r 1), .ref (r 2), .int (nI rc), .ref (r 3), .int (nI tl), .ref (r 4), .ref (r 5), .ref (r 6), .ref (r 7), .ref (r 8), .ref (r 9), .ref (r 10), .ref (r 11), .ref (r 12), .int (nI ((prw t tl av).2.1)), .int (nI (pl_ t tl av)), .int (nI (pp_ t tl av)), .int (nI (pv_ t tl av)), .int (nI fav), .int (nI rsv), .int (csv), .int (nI dnv)] (by rw [h91, h92, h93]) (w2 := [ob 9 q [.ref (r 0), .ref (r 1), .ref (r 2), .int (nI rc), .ref (r 3), .int (nI tl), .ref (r 4), .ref (r 5), .ref (r 6), .ref (r 7), .ref (r 8), .ref (r 9), .ref (r 10), .ref (r 11), .ref (r 12), .int (nI ((prw t tl av).2.1)), .int (nI (pl_ t tl av)), .int (nI (pp_ t tl av)), .int (nI (pv_ t tl av)), .int (nI fav), .int (nI rsv), .int (csv), .int (nI dnv)], ai E (r 0) 892 Sv, ai E (r 4) 3 Bv, ai E (r 5) 3 Qv, ax E (r 6) 3 Kv, ai E (r 8) 4 Lav, ai E (r 9) 4 Pav, ai E (r 10) 4 Rav, ai E (r 11) 4 Mov, ai E (r 3) 60 t]) rfl ?_
            refine g_aload_n F 1 dX9_plays_60 rfl rfl ?_
            refine g_get F 0 16 dX9_plays_61 rfl rfl (by decide) (by decide +kernel) (by decide +kernel) rfl ?_
            refine g_callSiR (n := 1) F [] (c_X9_isLeaf l E (nI (pl_ t tl av)) ) dX9_plays_64 rfl (by decide) rfl rfl rfl (Nat.le_of_ble_eq_true rfl) ⟨Nat.le_of_ble_eq_true rfl, Nat.le_of_ble_eq_true rfl⟩ rfl rfl ⟨Nat.le_of_ble_eq_true rfl, Nat.le_of_ble_eq_true rfl⟩ ggX9_plays_X9_isLeaf (by decide +kernel) (by decide +kernel) (by decide +kernel) (by decide +kernel) (fun r u hp => by obtain ⟨-, h⟩ := hp; exact h) ?_
            rintro r_64 u_64 ⟨rfl, -⟩
            refine g_if_eqB (tgt := 78) F dX9_plays_67 (by decide) (fun c67 => ?_) (fun c67 => ?_)
            · skip
              refine g_aload_n F 1 dX9_plays_78 rfl rfl ?_
              refine g_iload_n F 0 dX9_plays_79 rfl rfl ?_
              refine g_iconst (v := nI 2) F dX9_plays_80 (by decide) ?_
              refine g_ldc (v := (-1000004)) F dX9_plays_81 (by decide +kernel) ?_
              refine g_callVvW (n := 3) F [0] (c_X9_faults l E q r rc tl ((prw t tl av).2.1) (nI (pl_ t tl av)) (nI (pp_ t tl av)) (nI (pv_ t tl av)) fav rsv csv dnv av 2 (-1000004) ) dX9_plays_83 rfl (by decide) rfl rfl rfl (Nat.le_of_ble_eq_true rfl) ⟨Nat.le_of_ble_eq_true rfl, Nat.le_of_ble_eq_true rfl⟩ rfl rfl ⟨Nat.le_of_ble_eq_true rfl, Nat.le_of_ble_eq_true rfl⟩ 0 rfl rfl gX9_plays_X9_faults (by decide +kernel) (fun u hp => by obtain rfl := hp; rfl) ?_
              rintro u_83 rfl
              refine g_ws (w2 := [ob 9 q [.ref (r 0), .ref (r 1), .ref (r 2), .int (nI rc), .ref (r 3), .int (nI tl), .ref (r 4), .ref (r 5), .ref (r 6), .ref (r 7), .ref (r 8), .ref (r 9), .ref (r 10), .ref (r 11), .ref (r 12), .int (nI ((prw t tl av).2.1)), .int (nI (pl_ t tl av)), .int (nI (pp_ t tl av)), .int (nI (pv_ t tl av)), .int (nI av), .int (nI 2), .int (-1000004), .int (nI dnv)], ai E (r 0) 892 Sv, ai E (r 4) 3 Bv, ai E (r 5) 3 Qv, ax E (r 6) 3 Kv, ai E (r 8) 4 Lav, ai E (r 9) 4 Pav, ai E (r 10) 4 Rav, ai E (r 11) 4 Mov, ai E (r 3) 60 t]) rfl ?_
              refine g_goto (tgt := 147) F dX9_plays_86 (by decide) ?_
              refine g_goto (tgt := 15) F dX9_plays_147 (by decide) ?_
              refine g_lv [1] rfl ?_
              exact ih15 g9 Cc Sv ((prw t tl av).2.1) (nI (pl_ t tl av)) (nI (pp_ t tl av)) (nI (pv_ t tl av)) av 2 (-1000004) dnv Bv Qv Kv Lav Pav Rav Mov (by omega) (by exact hS) (by exact hIc) (by rw [trF_2 hna c42 (fun h => c67 ((rng_nI (by decide) (by omega)).mpr h.1))] at htot; exact Or.inr ⟨by decide, by rw [← htot], by rw [← htot], by rw [← htot], by rw [← htot], fun _ => rfl, fun h => absurd rfl h⟩) (by exact hbd.2.1) (by first | decide | omega)
            · skip
              refine g_aload_n F 1 dX9_plays_70 rfl rfl ?_
              refine g_get F 0 17 dX9_plays_71 rfl rfl (by decide) (by decide +kernel) (by decide +kernel) rfl ?_
              refine g_iconst (v := nI 3) F dX9_plays_74 (by decide) ?_
              refine g_icmp_leN (tgt := 89) F dX9_plays_75 (by decide) (by omega) (by omega) (fun c75 => ?_) (fun c75 => ?_)
              · skip
                have hlp : pl_ t tl av < 16 ∧ pp_ t tl av < 4 := ⟨(rng_nI (by decide) (by omega)).mp c67, by omega⟩
                have hr3 : rng (nI (pl_ t tl av)) 16 ∧ rng (nI (pp_ t tl av)) 4 ∧ rng (nI (pv_ t tl av)) 1000 := ⟨c67, (rng_nI (by decide) (by omega)).mpr hlp.2, (rng_nI (by decide) (by omega)).mpr hpv⟩
                refine g_aload_n F 1 dX9_plays_89 rfl rfl ?_
                refine g_aload_n F 1 dX9_plays_90 rfl rfl ?_
                refine g_get F 0 16 dX9_plays_91 rfl rfl (by decide) (by decide +kernel) (by decide +kernel) rfl ?_
                refine g_aload_n F 1 dX9_plays_94 rfl rfl ?_
                refine g_get F 0 17 dX9_plays_95 rfl rfl (by decide) (by decide +kernel) (by decide +kernel) rfl ?_
                refine g_aload_n F 1 dX9_plays_98 rfl rfl ?_
                refine g_get F 0 18 dX9_plays_99 rfl rfl (by decide) (by decide +kernel) (by decide +kernel) rfl ?_
                refine g_callViW (n := 3) F [0, 1, 2, 3, 4] (c_X9_whyNotWritten l E q r rc tl ((prw t tl av).2.1) (nI (pl_ t tl av)) (nI (pp_ t tl av)) (nI (pv_ t tl av)) fav rsv csv dnv Sv Cc Bv Qv Kv (nI (pl_ t tl av)) (nI (pp_ t tl av)) (nI (pv_ t tl av)) (by exact hS) (by exact hIc)) dX9_plays_102 rfl (by decide) rfl rfl rfl (Nat.le_of_ble_eq_true rfl) ⟨Nat.le_of_ble_eq_true rfl, Nat.le_of_ble_eq_true rfl⟩ rfl rfl ⟨Nat.le_of_ble_eq_true rfl, Nat.le_of_ble_eq_true rfl⟩ 0 rfl rfl gX9_plays_X9_whyNotWritten (by decide +kernel) (fun r u hp => by obtain ⟨_, _, _, -, -, rfl⟩ := hp; rfl) ?_
                rintro r_102 u_102 ⟨B2_102, Q2_102, K2_102, hW_102, rfl, rfl⟩
                refine g_ws (w2 := [ob 9 q [.ref (r 0), .ref (r 1), .ref (r 2), .int (nI rc), .ref (r 3), .int (nI tl), .ref (r 4), .ref (r 5), .ref (r 6), .ref (r 7), .ref (r 8), .ref (r 9), .ref (r 10), .ref (r 11), .ref (r 12), .int (nI ((prw t tl av).2.1)), .int (nI (pl_ t tl av)), .int (nI (pp_ t tl av)), .int (nI (pv_ t tl av)), .int (nI fav), .int (nI rsv), .int (csv), .int (nI dnv)], ai E (r 0) 892 Sv, ai E (r 4) 3 B2_102, ai E (r 5) 3 Q2_102, ax E (r 6) 3 K2_102, ai E (r 8) 4 Lav, ai E (r 9) 4 Pav, ai E (r 10) 4 Rav, ai E (r 11) 4 Mov, ai E (r 3) 60 t]) rfl ?_
                rw [dv_nI (show pl_ t tl av < 2 ^ 31 by omega)] at hW_102
                refine g_top (cI (rng (nI (pl_ t tl av)) 16 ∧ rng (nI (pp_ t tl av)) 4 ∧ rng (nI (pv_ t tl av)) 1000) (wrE Cc (dv (nI (pl_ t tl av)))) (-1000001)) (wrE Cc (pl_ t tl av)) (by rw [cI_pos hr3, dv_nI (by omega)]) ?_
                refine g_istore_n (lv2 := [(2, .int (wrE Cc (pl_ t tl av))), (1, .int (nI av)), (0, .ref q)]) F dX9_plays_105 rfl (by decide) rfl ?_
                refine g_iload_n F 0 dX9_plays_106 rfl rfl ?_
                refine g_if_ge (tgt := 120) F dX9_plays_107 (by decide) (fun c107 => ?_) (fun c107 => ?_)
                · skip
                  have hE3 : wrE Cc (pl_ t tl av) = 0 := (wge (P := True) (by rw [cI_pos trivial]; exact c107)).2
                  refine g_obC 0 rfl [.ref (r 0), .ref (r 1), .ref (r 2), .int (nI rc), .ref (r 3), .int (nI tl), .ref (r 4), .ref (r 5), .ref (r 6), .ref (r 7), .ref (r 8), .ref (r 9), .ref (r 10), .ref (r 11), .ref (r 12), .int (nI ((prw t tl av).2.1)), .int (nI (pl_ t tl av)), .int (nI (pp_ t tl av)), .int (nI (pv_ t tl av)), .int (nI fav), .int (nI rsv), .int (csv), .int (nI dnv)] (by rfl) (w2 := [ob 9 q [.ref (r 0), .ref (r 1), .ref (r 2), .int (nI rc), .ref (r 3), .int (nI tl), .ref (r 4), .ref (r 5), .ref (r 6), .ref (r 7), .ref (r 8), .ref (r 9), .ref (r 10), .ref (r 11), .ref (r 12), .int (nI ((prw t tl av).2.1)), .int (nI (pl_ t tl av)), .int (nI (pp_ t tl av)), .int (nI (pv_ t tl av)), .int (nI fav), .int (nI rsv), .int (csv), .int (nI dnv)], ai E (r 0) 892 Sv, ai E (r 4) 3 B2_102, ai E (r 5) 3 Q2_102, ax E (r 6) 3 K2_102, ai E (r 8) 4 Lav, ai E (r 9) 4 Pav, ai E (r 10) 4 Rav, ai E (r 11) 4 Mov, ai E (r 3) 60 t]) rfl ?_
                  refine g_aload_n F 2 dX9_plays_120 rfl rfl ?_
                  refine g_aload_n F 2 dX9_plays_121 rfl rfl ?_
                  refine g_get F 0 16 dX9_plays_122 rfl rfl (by decide) (by decide +kernel) (by decide +kernel) rfl ?_
                  refine g_aload_n F 2 dX9_plays_125 rfl rfl ?_
                  refine g_get F 0 17 dX9_plays_126 rfl rfl (by decide) (by decide +kernel) (by decide +kernel) rfl ?_
                  refine g_aload_n F 2 dX9_plays_129 rfl rfl ?_
                  refine g_get F 0 18 dX9_plays_130 rfl rfl (by decide) (by decide +kernel) (by decide +kernel) rfl ?_
                  refine g_callViW (n := 3) F [0, 1, 2, 3, 4, 5, 6, 7, 8] (c_X9_written l E q r rc tl ((prw t tl av).2.1) (nI (pl_ t tl av)) (nI (pp_ t tl av)) (nI (pv_ t tl av)) fav rsv csv dnv Sv Cc B2_102 Q2_102 K2_102 Lav Pav Rav Mov (pl_ t tl av) (pp_ t tl av) (pv_ t tl av) (by exact hS) (by exact hIc) (by exact hlp.1) (by exact hlp.2) (by exact hpv) (by exact hE3) (by exact hW_102 hr3 hE3)) dX9_plays_133 rfl (by decide) rfl rfl rfl (Nat.le_of_ble_eq_true rfl) ⟨Nat.le_of_ble_eq_true rfl, Nat.le_of_ble_eq_true rfl⟩ rfl rfl ⟨Nat.le_of_ble_eq_true rfl, Nat.le_of_ble_eq_true rfl⟩ 0 rfl rfl gX9_plays_X9_written (by decide +kernel) (fun r u hp => by obtain ⟨_, _, _, _, _, -, -, rfl⟩ := hp; rfl) ?_
                  rintro r_133 u_133 ⟨S2_133, La2_133, Pa2_133, Ra2_133, Mo2_133, hR2_133, rfl, rfl⟩
                  refine g_ws (w2 := [ob 9 q [.ref (r 0), .ref (r 1), .ref (r 2), .int (nI rc), .ref (r 3), .int (nI tl), .ref (r 4), .ref (r 5), .ref (r 6), .ref (r 7), .ref (r 8), .ref (r 9), .ref (r 10), .ref (r 11), .ref (r 12), .int (nI ((prw t tl av).2.1)), .int (nI (pl_ t tl av)), .int (nI (pp_ t tl av)), .int (nI (pv_ t tl av)), .int (nI fav), .int (nI rsv), .int (csv), .int (nI dnv)], ai E (r 0) 892 S2_133, ai E (r 4) 3 B2_102, ai E (r 5) 3 Q2_102, ax E (r 6) 3 K2_102, ai E (r 8) 4 La2_133, ai E (r 9) 4 Pa2_133, ai E (r 10) 4 Ra2_133, ai E (r 11) 4 Mo2_133, ai E (r 3) 60 t]) rfl ?_
                  refine g_pop F dX9_plays_136 rfl ?_
                  refine g_aload_n F 2 dX9_plays_137 rfl rfl ?_
                  refine g_dup F dX9_plays_138 rfl ?_
                  refine g_get F 0 22 dX9_plays_139 rfl rfl (by decide) (by decide +kernel) (by decide +kernel) rfl ?_
                  refine g_iconst (v := nI 1) F dX9_plays_142 (by decide) ?_
                  refine g_iaddN F dX9_plays_143 ?_
                  refine g_put F 0 22 dX9_plays_144 rfl rfl (by decide) (by decide +kernel) (by decide +kernel) tyX9_ok nmX9 rfl (by decide +kernel) rfl rfl (Nat.le_of_ble_eq_true rfl) rfl (ty := .int) (w2 := [ob 9 q [.ref (r 0), .ref (r 1), .ref (r 2), .int (nI rc), .ref (r 3), .int (nI tl), .ref (r 4), .ref (r 5), .ref (r 6), .ref (r 7), .ref (r 8), .ref (r 9), .ref (r 10), .ref (r 11), .ref (r 12), .int (nI ((prw t tl av).2.1)), .int (nI (pl_ t tl av)), .int (nI (pp_ t tl av)), .int (nI (pv_ t tl av)), .int (nI fav), .int (nI rsv), .int (csv), .int (nI (dnv + 1))], ai E (r 0) 892 S2_133, ai E (r 4) 3 B2_102, ai E (r 5) 3 Q2_102, ax E (r 6) 3 K2_102, ai E (r 8) 4 La2_133, ai E (r 9) 4 Pa2_133, ai E (r 10) 4 Ra2_133, ai E (r 11) 4 Mo2_133, ai E (r 3) 60 t]) rfl ?_
                  refine g_goto (tgt := 15) F dX9_plays_147 (by decide) ?_
                  refine g_lv [2] rfl ?_
                  exact ih15 g9 (wrS Cc (pl_ t tl av) (pp_ t tl av) (pv_ t tl av)) S2_133 ((prw t tl av).2.1) (nI (pl_ t tl av)) (nI (pp_ t tl av)) (nI (pv_ t tl av)) fav rsv csv (dnv + 1) B2_102 Q2_102 K2_102 La2_133 Pa2_133 Ra2_133 Mo2_133 (by omega) (by exact hR2_133) (by exact IC_wrS hIc hlp.1 hlp.2 hbd.2.2.2.2.2 hE3) (by rw [trF_go hna c42 hlp hE3] at htot; exact Or.inl ⟨hrs0, hbd.2.1, by have := hbd.2.2.1 c42; omega, htot⟩) (by exact hbd.2.1) (by first | decide | omega)
                · skip
                  have hE3 : ¬ wrE Cc (pl_ t tl av) = 0 := fun z => c107 (by rw [z]; decide)
                  refine g_aload_n F 2 dX9_plays_110 rfl rfl ?_
                  refine g_iload_n F 1 dX9_plays_111 rfl rfl ?_
                  refine g_iconst (v := nI 3) F dX9_plays_112 (by decide) ?_
                  refine g_iload_n F 0 dX9_plays_113 rfl rfl ?_
                  refine g_callVvW (n := 3) F [0] (c_X9_faults l E q r rc tl ((prw t tl av).2.1) (nI (pl_ t tl av)) (nI (pp_ t tl av)) (nI (pv_ t tl av)) fav rsv csv dnv av 3 (wrE Cc (pl_ t tl av)) ) dX9_plays_114 rfl (by decide) rfl rfl rfl (Nat.le_of_ble_eq_true rfl) ⟨Nat.le_of_ble_eq_true rfl, Nat.le_of_ble_eq_true rfl⟩ rfl rfl ⟨Nat.le_of_ble_eq_true rfl, Nat.le_of_ble_eq_true rfl⟩ 0 rfl rfl gX9_plays_X9_faults (by decide +kernel) (fun u hp => by obtain rfl := hp; rfl) ?_
                  rintro u_114 rfl
                  refine g_ws (w2 := [ob 9 q [.ref (r 0), .ref (r 1), .ref (r 2), .int (nI rc), .ref (r 3), .int (nI tl), .ref (r 4), .ref (r 5), .ref (r 6), .ref (r 7), .ref (r 8), .ref (r 9), .ref (r 10), .ref (r 11), .ref (r 12), .int (nI ((prw t tl av).2.1)), .int (nI (pl_ t tl av)), .int (nI (pp_ t tl av)), .int (nI (pv_ t tl av)), .int (nI av), .int (nI 3), .int (wrE Cc (pl_ t tl av)), .int (nI dnv)], ai E (r 0) 892 Sv, ai E (r 4) 3 B2_102, ai E (r 5) 3 Q2_102, ax E (r 6) 3 K2_102, ai E (r 8) 4 Lav, ai E (r 9) 4 Pav, ai E (r 10) 4 Rav, ai E (r 11) 4 Mov, ai E (r 3) 60 t]) rfl ?_
                  refine g_goto (tgt := 147) F dX9_plays_117 (by decide) ?_
                  refine g_goto (tgt := 15) F dX9_plays_147 (by decide) ?_
                  refine g_lv [2] rfl ?_
                  exact ih15 g9 Cc Sv ((prw t tl av).2.1) (nI (pl_ t tl av)) (nI (pp_ t tl av)) (nI (pv_ t tl av)) av 3 (wrE Cc (pl_ t tl av)) dnv B2_102 Q2_102 K2_102 Lav Pav Rav Mov (by omega) (by exact hS) (by exact hIc) (by rw [trF_3 hna c42 hlp hE3] at htot; exact Or.inr ⟨by decide, by rw [← htot], by rw [← htot], by rw [← htot], by rw [← htot], fun h => absurd h (by decide), fun _ => by rw [← htot]⟩) (by exact hbd.2.1) (by first | decide | omega)
              · skip
                refine g_aload_n F 1 dX9_plays_78 rfl rfl ?_
                refine g_iload_n F 0 dX9_plays_79 rfl rfl ?_
                refine g_iconst (v := nI 2) F dX9_plays_80 (by decide) ?_
                refine g_ldc (v := (-1000004)) F dX9_plays_81 (by decide +kernel) ?_
                refine g_callVvW (n := 3) F [0] (c_X9_faults l E q r rc tl ((prw t tl av).2.1) (nI (pl_ t tl av)) (nI (pp_ t tl av)) (nI (pv_ t tl av)) fav rsv csv dnv av 2 (-1000004) ) dX9_plays_83 rfl (by decide) rfl rfl rfl (Nat.le_of_ble_eq_true rfl) ⟨Nat.le_of_ble_eq_true rfl, Nat.le_of_ble_eq_true rfl⟩ rfl rfl ⟨Nat.le_of_ble_eq_true rfl, Nat.le_of_ble_eq_true rfl⟩ 0 rfl rfl gX9_plays_X9_faults (by decide +kernel) (fun u hp => by obtain rfl := hp; rfl) ?_
                rintro u_83 rfl
                refine g_ws (w2 := [ob 9 q [.ref (r 0), .ref (r 1), .ref (r 2), .int (nI rc), .ref (r 3), .int (nI tl), .ref (r 4), .ref (r 5), .ref (r 6), .ref (r 7), .ref (r 8), .ref (r 9), .ref (r 10), .ref (r 11), .ref (r 12), .int (nI ((prw t tl av).2.1)), .int (nI (pl_ t tl av)), .int (nI (pp_ t tl av)), .int (nI (pv_ t tl av)), .int (nI av), .int (nI 2), .int (-1000004), .int (nI dnv)], ai E (r 0) 892 Sv, ai E (r 4) 3 Bv, ai E (r 5) 3 Qv, ax E (r 6) 3 Kv, ai E (r 8) 4 Lav, ai E (r 9) 4 Pav, ai E (r 10) 4 Rav, ai E (r 11) 4 Mov, ai E (r 3) 60 t]) rfl ?_
                refine g_goto (tgt := 147) F dX9_plays_86 (by decide) ?_
                refine g_goto (tgt := 15) F dX9_plays_147 (by decide) ?_
                refine g_lv [1] rfl ?_
                exact ih15 g9 Cc Sv ((prw t tl av).2.1) (nI (pl_ t tl av)) (nI (pp_ t tl av)) (nI (pv_ t tl av)) av 2 (-1000004) dnv Bv Qv Kv Lav Pav Rav Mov (by omega) (by exact hS) (by exact hIc) (by rw [trF_2 hna c42 (fun h => absurd h.2 (by omega))] at htot; exact Or.inr ⟨by decide, by rw [← htot], by rw [← htot], by rw [← htot], by rw [← htot], fun _ => rfl, fun h => absurd rfl h⟩) (by exact hbd.2.1) (by first | decide | omega)
          · skip
            refine g_aload_n F 1 dX9_plays_45 rfl rfl ?_
            refine g_iload_n F 0 dX9_plays_46 rfl rfl ?_
            refine g_iconst (v := nI 1) F dX9_plays_47 (by decide) ?_
            refine g_aload_n F 1 dX9_plays_48 rfl rfl ?_
            refine g_get F 0 15 dX9_plays_49 rfl rfl (by decide) (by decide +kernel) (by decide +kernel) rfl ?_
            refine g_iload_n F 0 dX9_plays_52 rfl rfl ?_
            refine g_isubN F dX9_plays_53 (by exact hbd.1) ?_
            refine g_callVvW (n := 3) F [0] (c_X9_faults l E q r rc tl ((prw t tl av).2.1) lf2_39 pl2_39 vl2_39 fav rsv csv dnv av 1 (nI (((prw t tl av).2.1) - av)) ) dX9_plays_54 rfl (by decide) rfl rfl rfl (Nat.le_of_ble_eq_true rfl) ⟨Nat.le_of_ble_eq_true rfl, Nat.le_of_ble_eq_true rfl⟩ rfl rfl ⟨Nat.le_of_ble_eq_true rfl, Nat.le_of_ble_eq_true rfl⟩ 0 rfl rfl gX9_plays_X9_faults (by decide +kernel) (fun u hp => by obtain rfl := hp; rfl) ?_
            rintro u_54 rfl
            refine g_ws (w2 := [ob 9 q [.ref (r 0), .ref (r 1), .ref (r 2), .int (nI rc), .ref (r 3), .int (nI tl), .ref (r 4), .ref (r 5), .ref (r 6), .ref (r 7), .ref (r 8), .ref (r 9), .ref (r 10), .ref (r 11), .ref (r 12), .int (nI ((prw t tl av).2.1)), .int (lf2_39), .int (pl2_39), .int (vl2_39), .int (nI av), .int (nI 1), .int (nI (((prw t tl av).2.1) - av)), .int (nI dnv)], ai E (r 0) 892 Sv, ai E (r 4) 3 Bv, ai E (r 5) 3 Qv, ax E (r 6) 3 Kv, ai E (r 8) 4 Lav, ai E (r 9) 4 Pav, ai E (r 10) 4 Rav, ai E (r 11) 4 Mov, ai E (r 3) 60 t]) rfl ?_
            refine g_goto (tgt := 147) F dX9_plays_57 (by decide) ?_
            refine g_goto (tgt := 15) F dX9_plays_147 (by decide) ?_
            refine g_lv [1] rfl ?_
            exact ih15 g9 Cc Sv ((prw t tl av).2.1) lf2_39 pl2_39 vl2_39 av 1 (nI (((prw t tl av).2.1) - av)) dnv Bv Qv Kv Lav Pav Rav Mov (by omega) (by exact hS) (by exact hIc) (by rw [trF_1 hna c42] at htot; exact Or.inr ⟨by decide, by rw [← htot], by rw [← htot], by rw [← htot], by rw [← htot], fun h => absurd h (by decide), fun _ => by rw [← htot]⟩) (by exact hbd.2.1) (by first | decide | omega)
  refine g_lv [0] rfl ?_
  exact loop15 (61 + 1) 61 C S 0 lf9 pl9 vl9 fa 0 cs 0 B Q K La Pa Ra Mo (Nat.lt_succ_self _) (by exact hR) (by exact hI) (by exact Or.inl ⟨rfl, Nat.zero_le _, by omega, rfl⟩) (by exact Nat.zero_le _) (by omega)
set_option maxHeartbeats 4000000 in
set_option maxRecDepth 100000 in
theorem c_X9_tries (l : Launch) (E : En) (q : Nat) (r : Nat → Nat) (rc : Nat) (tl : Nat) (at9 : Nat) (lf9 : Int32) (pl9 : Int32) (vl9 : Int32) (fa : Nat) (rs9 : Nat) (cs : Int32) (dn : Nat) (S : Nat → Nat) (C : CS) (Kp : Nat → Nat) (B : Nat → Nat) (Q : Nat → Nat) (K : Nat → Int32) (La : Nat → Nat) (Pa : Nat → Nat) (Ra : Nat → Nat) (Mo : Nat → Nat) (t : Nat → Nat) (hR : Rel S C) (hI : IC C) (hL : tl ≤ 60) (ht : BT t) : CtV l yX9_tries wsX9_tries ({ frames := 6, cells := 0, slots := 0, locals := 137 } : Room) E [.ref q] [ob 9 q [.ref (r 0), .ref (r 1), .ref (r 2), .int (nI rc), .ref (r 3), .int (nI tl), .ref (r 4), .ref (r 5), .ref (r 6), .ref (r 7), .ref (r 8), .ref (r 9), .ref (r 10), .ref (r 11), .ref (r 12), .int (nI at9), .int (lf9), .int (pl9), .int (vl9), .int (nI fa), .int (nI rs9), .int (cs), .int (nI dn)], ai E (r 0) 892 S, ai E (r 1) 892 Kp, ai E (r 4) 3 B, ai E (r 5) 3 Q, ax E (r 6) 3 K, ai E (r 8) 4 La, ai E (r 9) 4 Pa, ai E (r 10) 4 Ra, ai E (r 11) 4 Mo, ai E (r 3) 60 t] (fun uu => ∃ (S2 : Nat → Nat), ∃ (Kp2 : Nat → Nat), ∃ (B2 : Nat → Nat), ∃ (Q2 : Nat → Nat), ∃ (K2 : Nat → Int32), ∃ (La2 : Nat → Nat), ∃ (Pa2 : Nat → Nat), ∃ (Ra2 : Nat → Nat), ∃ (Mo2 : Nat → Nat), ∃ (at2 : Nat), ∃ (lf2 : Int32), ∃ (pl2 : Int32), ∃ (vl2 : Int32), ∃ (fa2 : Nat), ∃ (rs2 : Nat), ∃ (cs2 : Int32), ∃ (dn2 : Nat), (Rel S2 C) ∧ ((tr0 t tl C).2.1 = rs2) ∧ ((tr0 t tl C).2.2.2.1 = dn2) ∧ (¬ rs2 = 0 → (tr0 t tl C).1 = fa2) ∧ (rs2 = 2 → cs2 = -1000004) ∧ (¬ rs2 = 0 → ¬ rs2 = 2 → (tr0 t tl C).2.2.1 = cs2) ∧ uu = [ob 9 q [.ref (r 0), .ref (r 1), .ref (r 2), .int (nI rc), .ref (r 3), .int (nI tl), .ref (r 4), .ref (r 5), .ref (r 6), .ref (r 7), .ref (r 8), .ref (r 9), .ref (r 10), .ref (r 11), .ref (r 12), .int (nI at2), .int (lf2), .int (pl2), .int (vl2), .int (nI fa2), .int (nI rs2), .int (cs2), .int (nI dn2)], ai E (r 0) 892 S2, ai E (r 1) 892 Kp2, ai E (r 4) 3 B2, ai E (r 5) 3 Q2, ax E (r 6) 3 K2, ai E (r 8) 4 La2, ai E (r 9) 4 Pa2, ai E (r 10) 4 Ra2, ai E (r 11) 4 Mo2, ai E (r 3) 60 t]) := by
  refine CtV.of cX9_tries 1 RX9 rfl (by decide) rfl (Nat.le_of_ble_eq_true rfl) ?_
  intro Γ F hin0 hret
  show G Γ E 0 0 0 [(0, .ref q)] [] [ob 9 q [.ref (r 0), .ref (r 1), .ref (r 2), .int (nI rc), .ref (r 3), .int (nI tl), .ref (r 4), .ref (r 5), .ref (r 6), .ref (r 7), .ref (r 8), .ref (r 9), .ref (r 10), .ref (r 11), .ref (r 12), .int (nI at9), .int (lf9), .int (pl9), .int (vl9), .int (nI fa), .int (nI rs9), .int (cs), .int (nI dn)], ai E (r 0) 892 S, ai E (r 1) 892 Kp, ai E (r 4) 3 B, ai E (r 5) 3 Q, ax E (r 6) 3 K, ai E (r 8) 4 La, ai E (r 9) 4 Pa, ai E (r 10) 4 Ra, ai E (r 11) 4 Mo, ai E (r 3) 60 t]
  refine g_aload_n F 0 dX9_tries_0 rfl rfl ?_
  refine g_get F 0 0 dX9_tries_1 rfl rfl (by decide) (by decide +kernel) (by decide +kernel) rfl ?_
  refine g_iconst (v := nI 0) F dX9_tries_4 (by decide) ?_
  refine g_aload_n F 0 dX9_tries_5 rfl rfl ?_
  refine g_get F 0 1 dX9_tries_6 rfl rfl (by decide) (by decide +kernel) (by decide +kernel) rfl ?_
  refine g_iconst (v := nI 0) F dX9_tries_9 (by decide) ?_
  refine g_callSvW (n := 4) F [1, 2] (c_X9_copy l E (r 0) 892 S 0 (r 1) 892 Kp 0 (by omega) (by omega) (by omega) (by omega)) dX9_tries_10 rfl (by decide) rfl rfl rfl (Nat.le_of_ble_eq_true rfl) ⟨Nat.le_of_ble_eq_true rfl, Nat.le_of_ble_eq_true rfl⟩ rfl rfl ⟨Nat.le_of_ble_eq_true rfl, Nat.le_of_ble_eq_true rfl⟩ ggX9_tries_X9_copy (by decide +kernel) (by decide +kernel) (by decide +kernel) (by decide +kernel) (fun u hp => by obtain ⟨_, -, rfl⟩ := hp; rfl) ?_
  rintro u_10 ⟨T2_10, hT_10, rfl⟩
  refine g_ws (w2 := [ob 9 q [.ref (r 0), .ref (r 1), .ref (r 2), .int (nI rc), .ref (r 3), .int (nI tl), .ref (r 4), .ref (r 5), .ref (r 6), .ref (r 7), .ref (r 8), .ref (r 9), .ref (r 10), .ref (r 11), .ref (r 12), .int (nI at9), .int (lf9), .int (pl9), .int (vl9), .int (nI fa), .int (nI rs9), .int (cs), .int (nI dn)], ai E (r 0) 892 S, ai E (r 1) 892 T2_10, ai E (r 4) 3 B, ai E (r 5) 3 Q, ax E (r 6) 3 K, ai E (r 8) 4 La, ai E (r 9) 4 Pa, ai E (r 10) 4 Ra, ai E (r 11) 4 Mo, ai E (r 3) 60 t]) rfl ?_
  refine g_aload_n F 0 dX9_tries_13 rfl rfl ?_
  refine g_callVvW (n := 0) F [0, 1, 3, 4, 5, 6, 7, 8, 9, 10] (c_X9_plays l E q r rc tl at9 lf9 pl9 vl9 fa rs9 cs dn S C B Q K La Pa Ra Mo t (by exact hR) (by exact hI) (by exact hL) (by exact ht)) dX9_tries_14 rfl (by decide) rfl rfl rfl (Nat.le_of_ble_eq_true rfl) ⟨Nat.le_of_ble_eq_true rfl, Nat.le_of_ble_eq_true rfl⟩ rfl rfl ⟨Nat.le_of_ble_eq_true rfl, Nat.le_of_ble_eq_true rfl⟩ 0 rfl rfl gX9_tries_X9_plays (by decide +kernel) (fun u hp => by obtain ⟨_, _, _, _, _, _, _, _, _, _, _, _, _, _, _, _, -, -, -, -, -, -, rfl⟩ := hp; rfl) ?_
  rintro u_14 ⟨S2_14, B2_14, Q2_14, K2_14, La2_14, Pa2_14, Ra2_14, Mo2_14, at2_14, lf2_14, pl2_14, vl2_14, fa2_14, rs2_14, cs2_14, dn2_14, hR2_14, hT1_14, hT2_14, hT3_14, hT4_14, hT5_14, rfl⟩
  refine g_ws (w2 := [ob 9 q [.ref (r 0), .ref (r 1), .ref (r 2), .int (nI rc), .ref (r 3), .int (nI tl), .ref (r 4), .ref (r 5), .ref (r 6), .ref (r 7), .ref (r 8), .ref (r 9), .ref (r 10), .ref (r 11), .ref (r 12), .int (nI at2_14), .int (lf2_14), .int (pl2_14), .int (vl2_14), .int (nI fa2_14), .int (nI rs2_14), .int (cs2_14), .int (nI dn2_14)], ai E (r 0) 892 S2_14, ai E (r 1) 892 T2_10, ai E (r 4) 3 B2_14, ai E (r 5) 3 Q2_14, ax E (r 6) 3 K2_14, ai E (r 8) 4 La2_14, ai E (r 9) 4 Pa2_14, ai E (r 10) 4 Ra2_14, ai E (r 11) 4 Mo2_14, ai E (r 3) 60 t]) rfl ?_
  refine g_aload_n F 0 dX9_tries_17 rfl rfl ?_
  refine g_get F 0 1 dX9_tries_18 rfl rfl (by decide) (by decide +kernel) (by decide +kernel) rfl ?_
  refine g_iconst (v := nI 0) F dX9_tries_21 (by decide) ?_
  refine g_aload_n F 0 dX9_tries_22 rfl rfl ?_
  refine g_get F 0 0 dX9_tries_23 rfl rfl (by decide) (by decide +kernel) (by decide +kernel) rfl ?_
  refine g_iconst (v := nI 0) F dX9_tries_26 (by decide) ?_
  refine g_callSvW (n := 4) F [2, 1] (c_X9_copy l E (r 1) 892 T2_10 0 (r 0) 892 S2_14 0 (by omega) (by omega) (by omega) (by omega)) dX9_tries_27 rfl (by decide) rfl rfl rfl (Nat.le_of_ble_eq_true rfl) ⟨Nat.le_of_ble_eq_true rfl, Nat.le_of_ble_eq_true rfl⟩ rfl rfl ⟨Nat.le_of_ble_eq_true rfl, Nat.le_of_ble_eq_true rfl⟩ ggX9_tries_X9_copy (by decide +kernel) (by decide +kernel) (by decide +kernel) (by decide +kernel) (fun u hp => by obtain ⟨_, -, rfl⟩ := hp; rfl) ?_
  rintro u_27 ⟨T2_27, hT_27, rfl⟩
  refine g_ws (w2 := [ob 9 q [.ref (r 0), .ref (r 1), .ref (r 2), .int (nI rc), .ref (r 3), .int (nI tl), .ref (r 4), .ref (r 5), .ref (r 6), .ref (r 7), .ref (r 8), .ref (r 9), .ref (r 10), .ref (r 11), .ref (r 12), .int (nI at2_14), .int (lf2_14), .int (pl2_14), .int (vl2_14), .int (nI fa2_14), .int (nI rs2_14), .int (cs2_14), .int (nI dn2_14)], ai E (r 0) 892 T2_27, ai E (r 1) 892 T2_10, ai E (r 4) 3 B2_14, ai E (r 5) 3 Q2_14, ax E (r 6) 3 K2_14, ai E (r 8) 4 La2_14, ai E (r 9) 4 Pa2_14, ai E (r 10) 4 Ra2_14, ai E (r 11) 4 Mo2_14, ai E (r 3) 60 t]) rfl ?_
  exact hret _ _ _ dX9_tries_30 ⟨T2_27, T2_10, B2_14, Q2_14, K2_14, La2_14, Pa2_14, Ra2_14, Mo2_14, at2_14, lf2_14, pl2_14, vl2_14, fa2_14, rs2_14, cs2_14, dn2_14, (by exact hR.arr hI.2.2.2.1 (fun j hj => by have h1 := hT_10.1 j hj; have h2 := hT_27.1 j hj; simp only [Nat.zero_add] at h1 h2; rw [h2, h1])), (by exact hT1_14), (by exact hT2_14), (by exact hT3_14), (by exact hT4_14), (by exact hT5_14), (by rfl)⟩
set_option maxHeartbeats 4000000 in
set_option maxRecDepth 100000 in
theorem c_X9_fault (l : Launch) (E : En) (q : Nat) (r : Nat → Nat) (rc : Nat) (tl : Nat) (at9 : Nat) (lf9 : Int32) (pl9 : Int32) (vl9 : Int32) (fa : Nat) (rs9 : Nat) (cs : Int32) (dn : Nat) (S : Nat → Nat) (C : CS) (Kp : Nat → Nat) (B : Nat → Nat) (Q : Nat → Nat) (K : Nat → Int32) (La : Nat → Nat) (Pa : Nat → Nat) (Ra : Nat → Nat) (Mo : Nat → Nat) (t : Nat → Nat) (x1 : Int32) (hR : Rel S C) (hI : IC C) (hL : tl ≤ 60) (ht : BT t) : CtI l yX9_fault wsX9_fault ({ frames := 7, cells := 0, slots := 0, locals := 157 } : Room) E [.ref q, .int (x1)] [ob 9 q [.ref (r 0), .ref (r 1), .ref (r 2), .int (nI rc), .ref (r 3), .int (nI tl), .ref (r 4), .ref (r 5), .ref (r 6), .ref (r 7), .ref (r 8), .ref (r 9), .ref (r 10), .ref (r 11), .ref (r 12), .int (nI at9), .int (lf9), .int (pl9), .int (vl9), .int (nI fa), .int (nI rs9), .int (cs), .int (nI dn)], ai E (r 0) 892 S, ai E (r 1) 892 Kp, ai E (r 4) 3 B, ai E (r 5) 3 Q, ax E (r 6) 3 K, ai E (r 8) 4 La, ai E (r 9) 4 Pa, ai E (r 10) 4 Ra, ai E (r 11) 4 Mo, ai E (r 3) 60 t] (fun rr uu => ∃ (S2 : Nat → Nat), ∃ (Kp2 : Nat → Nat), ∃ (B2 : Nat → Nat), ∃ (Q2 : Nat → Nat), ∃ (K2 : Nat → Int32), ∃ (La2 : Nat → Nat), ∃ (Pa2 : Nat → Nat), ∃ (Ra2 : Nat → Nat), ∃ (Mo2 : Nat → Nat), ∃ (at2 : Nat), ∃ (lf2 : Int32), ∃ (pl2 : Int32), ∃ (vl2 : Int32), ∃ (fa2 : Nat), ∃ (rs2 : Nat), ∃ (cs2 : Int32), ∃ (dn2 : Nat), (Rel S2 C) ∧ rr = (p_fault t tl C x1) ∧ uu = [ob 9 q [.ref (r 0), .ref (r 1), .ref (r 2), .int (nI rc), .ref (r 3), .int (nI tl), .ref (r 4), .ref (r 5), .ref (r 6), .ref (r 7), .ref (r 8), .ref (r 9), .ref (r 10), .ref (r 11), .ref (r 12), .int (nI at2), .int (lf2), .int (pl2), .int (vl2), .int (nI fa2), .int (nI rs2), .int (cs2), .int (nI dn2)], ai E (r 0) 892 S2, ai E (r 1) 892 Kp2, ai E (r 4) 3 B2, ai E (r 5) 3 Q2, ax E (r 6) 3 K2, ai E (r 8) 4 La2, ai E (r 9) 4 Pa2, ai E (r 10) 4 Ra2, ai E (r 11) 4 Mo2, ai E (r 3) 60 t]) := by
  refine CtI.of cX9_fault 2 RX9 .int rfl (by decide) rfl (Or.inl rfl) (Nat.le_of_ble_eq_true rfl) (fun h => by cases h) ?_
  intro Γ F hret
  show G Γ E 0 0 0 [(0, .ref q), (1, .int (x1))] [] [ob 9 q [.ref (r 0), .ref (r 1), .ref (r 2), .int (nI rc), .ref (r 3), .int (nI tl), .ref (r 4), .ref (r 5), .ref (r 6), .ref (r 7), .ref (r 8), .ref (r 9), .ref (r 10), .ref (r 11), .ref (r 12), .int (nI at9), .int (lf9), .int (pl9), .int (vl9), .int (nI fa), .int (nI rs9), .int (cs), .int (nI dn)], ai E (r 0) 892 S, ai E (r 1) 892 Kp, ai E (r 4) 3 B, ai E (r 5) 3 Q, ax E (r 6) 3 K, ai E (r 8) 4 La, ai E (r 9) 4 Pa, ai E (r 10) 4 Ra, ai E (r 11) 4 Mo, ai E (r 3) 60 t]
  refine g_iload_n F 1 dX9_fault_0 rfl rfl ?_
  refine g_iconst (v := nI 0) F dX9_fault_1 (by decide) ?_
  refine g_iconst (v := nI 2) F dX9_fault_2 (by decide) ?_
  refine g_callSiR (n := 3) F [] (c_X9_within_x l E x1 2 (by omega)) dX9_fault_3 rfl (by decide) rfl rfl rfl (Nat.le_of_ble_eq_true rfl) ⟨Nat.le_of_ble_eq_true rfl, Nat.le_of_ble_eq_true rfl⟩ rfl rfl ⟨Nat.le_of_ble_eq_true rfl, Nat.le_of_ble_eq_true rfl⟩ ggX9_fault_X9_within (by decide +kernel) (by decide +kernel) (by decide +kernel) (by decide +kernel) (fun r u hp => by obtain ⟨-, h⟩ := hp; exact h) ?_
  rintro r_3 u_3 ⟨rfl, -⟩
  refine g_if_neB (tgt := 12) F dX9_fault_6 (by decide) (fun c6 => ?_) (fun c6 => ?_)
  · skip
    obtain ⟨k9, hk9, rfl⟩ := rng_of (by decide) (c6)
    have hP : rng (nI k9) 3 := (rng_nI (by decide) (by omega)).mpr hk9
    have hre := tr0_re (t := t) (L := tl) (C := C)
    refine g_aload_n F 0 dX9_fault_12 rfl rfl ?_
    refine g_callVvW (n := 0) F [0, 1, 2, 3, 4, 5, 6, 7, 8, 9, 10] (c_X9_tries l E q r rc tl at9 lf9 pl9 vl9 fa rs9 cs dn S C Kp B Q K La Pa Ra Mo t (by exact hR) (by exact hI) (by exact hL) (by exact ht)) dX9_fault_13 rfl (by decide) rfl rfl rfl (Nat.le_of_ble_eq_true rfl) ⟨Nat.le_of_ble_eq_true rfl, Nat.le_of_ble_eq_true rfl⟩ rfl rfl ⟨Nat.le_of_ble_eq_true rfl, Nat.le_of_ble_eq_true rfl⟩ 0 rfl rfl gX9_fault_X9_tries (by decide +kernel) (fun u hp => by obtain ⟨_, _, _, _, _, _, _, _, _, _, _, _, _, _, _, _, _, -, -, -, -, -, -, rfl⟩ := hp; rfl) ?_
    rintro u_13 ⟨S2_13, Kp2_13, B2_13, Q2_13, K2_13, La2_13, Pa2_13, Ra2_13, Mo2_13, at2_13, lf2_13, pl2_13, vl2_13, fa2_13, rs2_13, cs2_13, dn2_13, hR2_13, hT1_13, hT2_13, hT3_13, hT4_13, hT5_13, rfl⟩
    refine g_ws (w2 := [ob 9 q [.ref (r 0), .ref (r 1), .ref (r 2), .int (nI rc), .ref (r 3), .int (nI tl), .ref (r 4), .ref (r 5), .ref (r 6), .ref (r 7), .ref (r 8), .ref (r 9), .ref (r 10), .ref (r 11), .ref (r 12), .int (nI at2_13), .int (lf2_13), .int (pl2_13), .int (vl2_13), .int (nI fa2_13), .int (nI rs2_13), .int (cs2_13), .int (nI dn2_13)], ai E (r 0) 892 S2_13, ai E (r 1) 892 Kp2_13, ai E (r 4) 3 B2_13, ai E (r 5) 3 Q2_13, ax E (r 6) 3 K2_13, ai E (r 8) 4 La2_13, ai E (r 9) 4 Pa2_13, ai E (r 10) 4 Ra2_13, ai E (r 11) 4 Mo2_13, ai E (r 3) 60 t]) rfl ?_
    have hre2 : rs2_13 ≤ 3 := by rw [← hT1_13]; exact hre.1
    refine g_aload_n F 0 dX9_fault_16 rfl rfl ?_
    refine g_get F 0 20 dX9_fault_17 rfl rfl (by decide) (by decide +kernel) (by decide +kernel) rfl ?_
    refine g_if_neN (tgt := 28) F dX9_fault_20 (by decide) (by omega) (fun c20 => ?_) (fun c20 => ?_)
    · skip
      refine g_iload_n F 1 dX9_fault_28 rfl rfl ?_
      refine g_if_neN (tgt := 39) F dX9_fault_29 (by decide) (by omega) (fun c29 => ?_) (fun c29 => ?_)
      · skip
        refine g_iload_n F 1 dX9_fault_39 rfl rfl ?_
        refine g_iconst (v := nI 1) F dX9_fault_40 (by decide) ?_
        refine g_icmp_neN (tgt := 51) F dX9_fault_41 (by decide) (by omega) (by omega) (fun c41 => ?_) (fun c41 => ?_)
        · skip
          refine g_aload_n F 0 dX9_fault_51 rfl rfl ?_
          refine g_get F 0 21 dX9_fault_52 rfl rfl (by decide) (by decide +kernel) (by decide +kernel) rfl ?_
          exact hret _ _ _ _ dX9_fault_55 ⟨S2_13, Kp2_13, B2_13, Q2_13, K2_13, La2_13, Pa2_13, Ra2_13, Mo2_13, at2_13, lf2_13, pl2_13, vl2_13, fa2_13, rs2_13, cs2_13, dn2_13, (by exact hR2_13), (by unfold p_fault; rw [cI_pos hP, dv_nI (by omega)]; rw [hT1_13]; rw [if_neg c20, if_neg c29, if_neg c41]; by_cases h9 : rs2_13 = 2; (rw [if_pos h9, hT4_13 h9]); (rw [if_neg h9, hT5_13 c20 h9])), (by rfl)⟩
        · skip
          refine g_aload_n F 0 dX9_fault_44 rfl rfl ?_
          refine g_get F 0 20 dX9_fault_45 rfl rfl (by decide) (by decide +kernel) (by decide +kernel) rfl ?_
          refine g_goto (tgt := 55) F dX9_fault_48 (by decide) ?_
          exact hret _ _ _ _ dX9_fault_55 ⟨S2_13, Kp2_13, B2_13, Q2_13, K2_13, La2_13, Pa2_13, Ra2_13, Mo2_13, at2_13, lf2_13, pl2_13, vl2_13, fa2_13, rs2_13, cs2_13, dn2_13, (by exact hR2_13), (by unfold p_fault; rw [cI_pos hP, dv_nI (by omega)]; rw [hT1_13]; rw [if_neg c20, if_neg c29, if_pos c41]), (by rfl)⟩
      · skip
        refine g_aload_n F 0 dX9_fault_32 rfl rfl ?_
        refine g_get F 0 19 dX9_fault_33 rfl rfl (by decide) (by decide +kernel) (by decide +kernel) rfl ?_
        refine g_goto (tgt := 55) F dX9_fault_36 (by decide) ?_
        exact hret _ _ _ _ dX9_fault_55 ⟨S2_13, Kp2_13, B2_13, Q2_13, K2_13, La2_13, Pa2_13, Ra2_13, Mo2_13, at2_13, lf2_13, pl2_13, vl2_13, fa2_13, rs2_13, cs2_13, dn2_13, (by exact hR2_13), (by unfold p_fault; rw [cI_pos hP, dv_nI (by omega)]; rw [hT1_13]; rw [if_neg c20, if_pos c29, hT3_13 c20]), (by rfl)⟩
    · skip
      refine g_ldc (v := (-1000004)) F dX9_fault_23 (by decide +kernel) ?_
      refine g_goto (tgt := 55) F dX9_fault_25 (by decide) ?_
      exact hret _ _ _ _ dX9_fault_55 ⟨S2_13, Kp2_13, B2_13, Q2_13, K2_13, La2_13, Pa2_13, Ra2_13, Mo2_13, at2_13, lf2_13, pl2_13, vl2_13, fa2_13, rs2_13, cs2_13, dn2_13, (by exact hR2_13), (by unfold p_fault; rw [cI_pos hP, dv_nI (by omega)]; rw [hT1_13]; rw [if_pos c20]), (by rfl)⟩
  · skip
    refine g_ldc (v := (-1000001)) F dX9_fault_9 (by decide +kernel) ?_
    exact hret _ _ _ _ dX9_fault_11 ⟨S, Kp, B, Q, K, La, Pa, Ra, Mo, at9, lf9, pl9, vl9, fa, rs9, cs, dn, (by exact hR), (by unfold p_fault; rw [cI_neg c6]), (by rfl)⟩
set_option maxHeartbeats 4000000 in
set_option maxRecDepth 100000 in
theorem c_X9_play (l : Launch) (E : En) (q : Nat) (r : Nat → Nat) (rc : Nat) (tl : Nat) (at9 : Nat) (lf9 : Int32) (pl9 : Int32) (vl9 : Int32) (fa : Nat) (rs9 : Nat) (cs : Int32) (dn : Nat) (S : Nat → Nat) (C : CS) (Kp : Nat → Nat) (B : Nat → Nat) (Q : Nat → Nat) (K : Nat → Int32) (La : Nat → Nat) (Pa : Nat → Nat) (Ra : Nat → Nat) (Mo : Nat → Nat) (t : Nat → Nat) (HH : Nat → Nat) (H : Nat → CS) (hR : Rel S C) (hI : IC C) (hRH : RelH HH H rc) (hrc : rc ≤ 3) (hL : tl ≤ 60) (ht : BT t) : CtI l yX9_play wsX9_play ({ frames := 7, cells := 0, slots := 0, locals := 157 } : Room) E [.ref q] [ob 9 q [.ref (r 0), .ref (r 1), .ref (r 2), .int (nI rc), .ref (r 3), .int (nI tl), .ref (r 4), .ref (r 5), .ref (r 6), .ref (r 7), .ref (r 8), .ref (r 9), .ref (r 10), .ref (r 11), .ref (r 12), .int (nI at9), .int (lf9), .int (pl9), .int (vl9), .int (nI fa), .int (nI rs9), .int (cs), .int (nI dn)], ai E (r 0) 892 S, ai E (r 1) 892 Kp, ai E (r 4) 3 B, ai E (r 5) 3 Q, ax E (r 6) 3 K, ai E (r 8) 4 La, ai E (r 9) 4 Pa, ai E (r 10) 4 Ra, ai E (r 11) 4 Mo, ai E (r 3) 60 t, ai E (r 2) 2676 HH] (fun rr uu => ∃ (S2 : Nat → Nat), ∃ (Kp2 : Nat → Nat), ∃ (B2 : Nat → Nat), ∃ (Q2 : Nat → Nat), ∃ (K2 : Nat → Int32), ∃ (La2 : Nat → Nat), ∃ (Pa2 : Nat → Nat), ∃ (Ra2 : Nat → Nat), ∃ (Mo2 : Nat → Nat), ∃ (at2 : Nat), ∃ (lf2 : Int32), ∃ (pl2 : Int32), ∃ (vl2 : Int32), ∃ (fa2 : Nat), ∃ (rs2 : Nat), ∃ (cs2 : Int32), ∃ (dn2 : Nat), ∃ (H2 : Nat → Nat), (Rel S2 (cI ((tr0 t tl C).2.1 = 0) ((tr0 t tl C).2.2.2.2) C)) ∧ (RelH H2 (cI ((tr0 t tl C).2.1 = 0) (rcH C H rc) H) (cI ((tr0 t tl C).2.1 = 0) (rcn rc) rc)) ∧ rr = (p_play t tl C) ∧ uu = [ob 9 q [.ref (r 0), .ref (r 1), .ref (r 2), .int (nI (cI ((tr0 t tl C).2.1 = 0) (rcn rc) rc)), .ref (r 3), .int (nI tl), .ref (r 4), .ref (r 5), .ref (r 6), .ref (r 7), .ref (r 8), .ref (r 9), .ref (r 10), .ref (r 11), .ref (r 12), .int (nI at2), .int (lf2), .int (pl2), .int (vl2), .int (nI fa2), .int (nI rs2), .int (cs2), .int (nI dn2)], ai E (r 0) 892 S2, ai E (r 1) 892 Kp2, ai E (r 4) 3 B2, ai E (r 5) 3 Q2, ax E (r 6) 3 K2, ai E (r 8) 4 La2, ai E (r 9) 4 Pa2, ai E (r 10) 4 Ra2, ai E (r 11) 4 Mo2, ai E (r 3) 60 t, ai E (r 2) 2676 H2]) := by
  refine CtI.of cX9_play 1 RX9 .int rfl (by decide) rfl (Or.inl rfl) (Nat.le_of_ble_eq_true rfl) (fun h => by cases h) ?_
  intro Γ F hret
  show G Γ E 0 0 0 [(0, .ref q)] [] [ob 9 q [.ref (r 0), .ref (r 1), .ref (r 2), .int (nI rc), .ref (r 3), .int (nI tl), .ref (r 4), .ref (r 5), .ref (r 6), .ref (r 7), .ref (r 8), .ref (r 9), .ref (r 10), .ref (r 11), .ref (r 12), .int (nI at9), .int (lf9), .int (pl9), .int (vl9), .int (nI fa), .int (nI rs9), .int (cs), .int (nI dn)], ai E (r 0) 892 S, ai E (r 1) 892 Kp, ai E (r 4) 3 B, ai E (r 5) 3 Q, ax E (r 6) 3 K, ai E (r 8) 4 La, ai E (r 9) 4 Pa, ai E (r 10) 4 Ra, ai E (r 11) 4 Mo, ai E (r 3) 60 t, ai E (r 2) 2676 HH]
  have hre := tr0_re (t := t) (L := tl) (C := C)
  refine g_aload_n F 0 dX9_play_0 rfl rfl ?_
  refine g_callVvW (n := 0) F [0, 1, 2, 3, 4, 5, 6, 7, 8, 9, 10] (c_X9_tries l E q r rc tl at9 lf9 pl9 vl9 fa rs9 cs dn S C Kp B Q K La Pa Ra Mo t (by exact hR) (by exact hI) (by exact hL) (by exact ht)) dX9_play_1 rfl (by decide) rfl rfl rfl (Nat.le_of_ble_eq_true rfl) ⟨Nat.le_of_ble_eq_true rfl, Nat.le_of_ble_eq_true rfl⟩ rfl rfl ⟨Nat.le_of_ble_eq_true rfl, Nat.le_of_ble_eq_true rfl⟩ 0 rfl rfl gX9_play_X9_tries (by decide +kernel) (fun u hp => by obtain ⟨_, _, _, _, _, _, _, _, _, _, _, _, _, _, _, _, _, -, -, -, -, -, -, rfl⟩ := hp; rfl) ?_
  rintro u_1 ⟨S2_1, Kp2_1, B2_1, Q2_1, K2_1, La2_1, Pa2_1, Ra2_1, Mo2_1, at2_1, lf2_1, pl2_1, vl2_1, fa2_1, rs2_1, cs2_1, dn2_1, hR2_1, hT1_1, hT2_1, hT3_1, hT4_1, hT5_1, rfl⟩
  refine g_ws (w2 := [ob 9 q [.ref (r 0), .ref (r 1), .ref (r 2), .int (nI rc), .ref (r 3), .int (nI tl), .ref (r 4), .ref (r 5), .ref (r 6), .ref (r 7), .ref (r 8), .ref (r 9), .ref (r 10), .ref (r 11), .ref (r 12), .int (nI at2_1), .int (lf2_1), .int (pl2_1), .int (vl2_1), .int (nI fa2_1), .int (nI rs2_1), .int (cs2_1), .int (nI dn2_1)], ai E (r 0) 892 S2_1, ai E (r 1) 892 Kp2_1, ai E (r 4) 3 B2_1, ai E (r 5) 3 Q2_1, ax E (r 6) 3 K2_1, ai E (r 8) 4 La2_1, ai E (r 9) 4 Pa2_1, ai E (r 10) 4 Ra2_1, ai E (r 11) 4 Mo2_1, ai E (r 3) 60 t, ai E (r 2) 2676 HH]) rfl ?_
  have hre2 : rs2_1 ≤ 3 := by rw [← hT1_1]; exact hre.1
  refine g_aload_n F 0 dX9_play_4 rfl rfl ?_
  refine g_get F 0 20 dX9_play_5 rfl rfl (by decide) (by decide +kernel) (by decide +kernel) rfl ?_
  refine g_if_leN (tgt := 14) F dX9_play_8 (by decide) (by omega) (fun c8 => ?_) (fun c8 => ?_)
  · skip
    have hP : (tr0 t tl C).2.1 = 0 := by rw [hT1_1]; exact c8
    refine g_aload_n F 0 dX9_play_14 rfl rfl ?_
    refine g_callVvW (n := 0) F [0, 1, 11] (c_X9_record l E q r rc tl at2_1 lf2_1 pl2_1 vl2_1 fa2_1 rs2_1 cs2_1 dn2_1 S2_1 C HH H (by exact hR2_1) (by assumption) (by assumption) (by omega)) dX9_play_15 rfl (by decide) rfl rfl rfl (Nat.le_of_ble_eq_true rfl) ⟨Nat.le_of_ble_eq_true rfl, Nat.le_of_ble_eq_true rfl⟩ rfl rfl ⟨Nat.le_of_ble_eq_true rfl, Nat.le_of_ble_eq_true rfl⟩ 0 rfl rfl gX9_play_X9_record (by decide +kernel) (fun u hp => by obtain ⟨_, -, rfl⟩ := hp; rfl) ?_
    rintro u_15 ⟨H2_15, hRH2_15, rfl⟩
    refine g_ws (w2 := [ob 9 q [.ref (r 0), .ref (r 1), .ref (r 2), .int (nI (rcn rc)), .ref (r 3), .int (nI tl), .ref (r 4), .ref (r 5), .ref (r 6), .ref (r 7), .ref (r 8), .ref (r 9), .ref (r 10), .ref (r 11), .ref (r 12), .int (nI at2_1), .int (lf2_1), .int (pl2_1), .int (vl2_1), .int (nI fa2_1), .int (nI rs2_1), .int (cs2_1), .int (nI dn2_1)], ai E (r 0) 892 S2_1, ai E (r 1) 892 Kp2_1, ai E (r 4) 3 B2_1, ai E (r 5) 3 Q2_1, ax E (r 6) 3 K2_1, ai E (r 8) 4 La2_1, ai E (r 9) 4 Pa2_1, ai E (r 10) 4 Ra2_1, ai E (r 11) 4 Mo2_1, ai E (r 3) 60 t, ai E (r 2) 2676 H2_15]) rfl ?_
    refine g_aload_n F 0 dX9_play_18 rfl rfl ?_
    refine g_callVvW (n := 0) F [0, 1, 3, 4, 5, 6, 7, 8, 9, 10] (c_X9_plays l E q r (rcn rc) tl at2_1 lf2_1 pl2_1 vl2_1 fa2_1 rs2_1 cs2_1 dn2_1 S2_1 C B2_1 Q2_1 K2_1 La2_1 Pa2_1 Ra2_1 Mo2_1 t (by exact hR2_1) (by exact hI) (by exact hL) (by exact ht)) dX9_play_19 rfl (by decide) rfl rfl rfl (Nat.le_of_ble_eq_true rfl) ⟨Nat.le_of_ble_eq_true rfl, Nat.le_of_ble_eq_true rfl⟩ rfl rfl ⟨Nat.le_of_ble_eq_true rfl, Nat.le_of_ble_eq_true rfl⟩ 0 rfl rfl gX9_play_X9_plays (by decide +kernel) (fun u hp => by obtain ⟨_, _, _, _, _, _, _, _, _, _, _, _, _, _, _, _, -, -, -, -, -, -, rfl⟩ := hp; rfl) ?_
    rintro u_19 ⟨S2_19, B2_19, Q2_19, K2_19, La2_19, Pa2_19, Ra2_19, Mo2_19, at2_19, lf2_19, pl2_19, vl2_19, fa2_19, rs2_19, cs2_19, dn2_19, hR2_19, hT1_19, hT2_19, hT3_19, hT4_19, hT5_19, rfl⟩
    refine g_ws (w2 := [ob 9 q [.ref (r 0), .ref (r 1), .ref (r 2), .int (nI (rcn rc)), .ref (r 3), .int (nI tl), .ref (r 4), .ref (r 5), .ref (r 6), .ref (r 7), .ref (r 8), .ref (r 9), .ref (r 10), .ref (r 11), .ref (r 12), .int (nI at2_19), .int (lf2_19), .int (pl2_19), .int (vl2_19), .int (nI fa2_19), .int (nI rs2_19), .int (cs2_19), .int (nI dn2_19)], ai E (r 0) 892 S2_19, ai E (r 1) 892 Kp2_1, ai E (r 4) 3 B2_19, ai E (r 5) 3 Q2_19, ax E (r 6) 3 K2_19, ai E (r 8) 4 La2_19, ai E (r 9) 4 Pa2_19, ai E (r 10) 4 Ra2_19, ai E (r 11) 4 Mo2_19, ai E (r 3) 60 t, ai E (r 2) 2676 H2_15]) rfl ?_
    refine g_aload_n F 0 dX9_play_22 rfl rfl ?_
    refine g_get F 0 22 dX9_play_23 rfl rfl (by decide) (by decide +kernel) (by decide +kernel) rfl ?_
    exact hret _ _ _ _ dX9_play_26 ⟨S2_19, Kp2_1, B2_19, Q2_19, K2_19, La2_19, Pa2_19, Ra2_19, Mo2_19, at2_19, lf2_19, pl2_19, vl2_19, fa2_19, rs2_19, cs2_19, dn2_19, H2_15, (by rw [cI_pos hP]; exact hR2_19), (by rw [cI_pos hP, cI_pos hP]; exact hRH2_15), (by unfold p_play; rw [if_pos hP, hT2_19]), (by first | (rw [cI_pos hP]; done) | (rw [cI_pos hP]; rfl))⟩
  · skip
    refine g_ldc (v := (-1000002)) F dX9_play_11 (by decide +kernel) ?_
    exact hret _ _ _ _ dX9_play_13 ⟨S2_1, Kp2_1, B2_1, Q2_1, K2_1, La2_1, Pa2_1, Ra2_1, Mo2_1, at2_1, lf2_1, pl2_1, vl2_1, fa2_1, rs2_1, cs2_1, dn2_1, HH, (by rw [cI_neg (fun h => by rw [hT1_1] at h; omega)]; exact hR2_1), (by rw [cI_neg (fun h => by rw [hT1_1] at h; omega), cI_neg (fun h => by rw [hT1_1] at h; omega)]; exact hRH), (by unfold p_play; rw [if_neg (fun h => by rw [hT1_1] at h; omega)]), (by first | (rw [cI_neg (fun h => by rw [hT1_1] at h; omega)]; done) | (rw [cI_neg (fun h => by rw [hT1_1] at h; omega)]; rfl))⟩
