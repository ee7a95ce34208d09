/-! verdicts, texts -/
def cur (t : Nat → Nat) (L a : Nat) : Int32 := if a < L then nI (t a) else (-1)
def isd (x : Int32) : Prop := ¬ x < nI 48 ∧ ¬ nI 57 < x
def BT (t : Nat → Nat) : Prop := ∀ j : Nat, t j < 65536
theorem cur_eq {t : Nat → Nat} {L a c : Nat} (ht : BT t) (hc : c < 65536) : cur t L a = nI c ↔ a < L ∧ t a = c := by
  unfold cur
  by_cases h : a < L
  · rw [if_pos h]
    have := ht a
    constructor
    · intro z; exact ⟨h, (nI_eq (by omega) (by omega)).mp z⟩
    · intro z; rw [z.2]
  · rw [if_neg h]
    constructor
    · intro z
      exfalso
      have h1 : (-1 : Int32) < 0 := by decide
      rw [z] at h1
      exact nI_pos (by omega) h1
    · intro z; exact absurd z.1 h
theorem cur_isd {t : Nat → Nat} {L a : Nat} (ht : BT t) : isd (cur t L a) ↔ a < L ∧ 48 ≤ t a ∧ t a ≤ 57 := by
  unfold isd cur
  by_cases h : a < L
  · rw [if_pos h]
    have := ht a
    rw [nI_ltI (by omega) (by decide), nI_ltI (by decide) (by omega)]
    omega
  · rw [if_neg h]
    constructor
    · intro z; exact absurd (by decide) z.1
    · intro z; exact absurd z.1 h
/-- how many digits stand at a, at most m -/
def nd (t : Nat → Nat) (L : Nat) : Nat → Nat → Nat
  | _, 0 => 0
  | a, m + 1 => if a < L ∧ 48 ≤ t a ∧ t a ≤ 57 then 1 + nd t L (a + 1) m else 0
theorem nd_le (t : Nat → Nat) (L : Nat) : ∀ m a, nd t L a m ≤ m
  | 0, _ => Nat.le_refl 0
  | m + 1, a => by have := nd_le t L m (a + 1); unfold nd; split <;> omega
theorem nd_in (t : Nat → Nat) (L : Nat) : ∀ m a, a ≤ L → a + nd t L a m ≤ L
  | 0, _, h => h
  | m + 1, a, h => by
    unfold nd; split
    · rename_i z
      have := nd_in t L m (a + 1) (by omega)
      omega
    · omega
def pv (t : Nat → Nat) (a : Nat) : Nat → Nat
  | 0 => 0
  | d + 1 => 10 * pv t a d + (t (a + d) - 48)
def nd0 (t : Nat → Nat) (L br a m : Nat) : Nat := if br = 0 then nd t L a m else 0
def pB (t : Nat → Nat) (L br a m : Nat) : Nat := if nd0 t L br a m = 0 then 1 else br
def sA (t : Nat → Nat) (L br a c : Nat) : Nat := if br = 0 ∧ a < L ∧ t a = c then a + 1 else a
def sB (t : Nat → Nat) (L br a c : Nat) : Nat := if br = 0 ∧ a < L ∧ t a = c then br else 1
theorem pv_lt {t : Nat → Nat} {a : Nat} : ∀ d, (∀ k, k < d → t (a + k) ≤ 57) → pv t a d < 10 ^ d
  | 0, _ => Nat.one_pos
  | d + 1, h => by
    have := pv_lt d (fun k hk => h k (by omega))
    have h2 := h d (by omega)
    show 10 * pv t a d + (t (a + d) - 48) < 10 ^ d * 10
    omega
theorem nd_dig {t : Nat → Nat} {L : Nat} : ∀ m a k, k < nd t L a m → a + k < L ∧ 48 ≤ t (a + k) ∧ t (a + k) ≤ 57
  | 0, _, _, h => by unfold nd at h; omega
  | m + 1, a, k, h => by
    unfold nd at h
    split at h
    · rename_i z
      cases k with
      | zero => exact z
      | succ k =>
        have := nd_dig (t := t) (L := L) m (a + 1) k (by omega)
        rw [show a + (k + 1) = a + 1 + k by omega]
        exact this
    · omega
theorem nd_all {t : Nat → Nat} {L : Nat} : ∀ m a i, i ≤ m → (∀ k, k < i → a + k < L ∧ 48 ≤ t (a + k) ∧ t (a + k) ≤ 57) → nd t L a m = i + nd t L (a + i) (m - i)
  | m, a, 0, _, _ => by rw [Nat.add_zero, Nat.sub_zero, Nat.zero_add]
  | 0, a, i + 1, h, _ => by omega
  | m + 1, a, i + 1, h, hk => by
    have h0 := hk 0 (by omega)
    rw [Nat.add_zero] at h0
    have ih := nd_all m (a + 1) i (by omega) (fun k hk2 => by
      have := hk (k + 1) (by omega)
      rw [show a + (k + 1) = a + 1 + k by omega] at this
      exact this)
    have e1 : nd t L a (m + 1) = 1 + nd t L (a + 1) m := by
      show (if _ then _ else _) = _
      rw [if_pos h0]
    rw [e1, ih, show m + 1 - (i + 1) = m - i by omega, show a + (i + 1) = a + 1 + i by omega]
    omega
theorem nd_stop {t : Nat → Nat} {L a m : Nat} (h : m = 0 ∨ ¬ (a < L ∧ 48 ≤ t a ∧ t a ≤ 57)) : nd t L a m = 0 := by
  cases m with
  | zero => rfl
  | succ m =>
    unfold nd
    rcases h with h | h
    · omega
    · rw [if_neg h]
/-- what a write of a text is, from a on: whether it is of the form (1) or not (0); where it ends or breaks off; its leaf, place, value -/
def prw (t : Nat → Nat) (L a : Nat) : Nat × Nat × Nat × Nat × Nat :=
  let d1 := nd t L a 2
  if d1 = 0 then (0, a, 0, 0, 0) else
  let a1 := a + d1
  if ¬ (a1 < L ∧ t a1 = 46) then (0, a1, 0, 0, 0) else
  let d2 := nd t L (a1 + 1) 1
  if d2 = 0 then (0, a1 + 1, 0, 0, 0) else
  let a2 := a1 + 1 + d2
  if ¬ (a2 < L ∧ t a2 = 61) then (0, a2, 0, 0, 0) else
  let d3 := nd t L (a2 + 1) 3
  if d3 = 0 then (0, a2 + 1, 0, 0, 0) else
  let a3 := a2 + 1 + d3
  if ¬ (a3 < L ∧ t a3 = 59) then (0, a3, 0, 0, 0) else (1, a3 + 1, pv t a d1, pv t (a1 + 1) d2, pv t (a2 + 1) d3)
set_option maxHeartbeats 4000000 in
set_option maxRecDepth 100000 in
theorem c_X6_clear (l : Launch) (E : En) (v0 : Nat) (po : Nat) (re : Nat) (ca : Int32) (vw : Nat)  : CtV l yX6_clear wsX6_clear ({ frames := 0, cells := 0, slots := 0, locals := 0 } : Room) E [.ref v0] [ob 6 v0 [.int (nI po), .int (nI re), .int (ca), .int (nI vw)]] (fun uu => uu = [ob 6 v0 [.int (nI 0), .int (nI 0), .int ((nI 0)), .int (nI 0)]]) := by
  refine CtV.of cX6_clear 1 RX6 rfl (by decide) rfl (Nat.le_of_ble_eq_true rfl) ?_
  intro Γ F hin0 hret
  show G Γ E 0 0 0 [(0, .ref v0)] [] [ob 6 v0 [.int (nI po), .int (nI re), .int (ca), .int (nI vw)]]
  refine g_aload_n F 0 dX6_clear_0 rfl rfl ?_
  refine g_iconst (v := nI 0) F dX6_clear_1 (by decide) ?_
  refine g_put F 0 0 dX6_clear_2 rfl rfl (by decide) (by decide +kernel) (by decide +kernel) tyX6_ok nmX6 rfl (by decide +kernel) rfl rfl (Nat.le_of_ble_eq_true rfl) rfl (ty := .int) (w2 := [ob 6 v0 [.int (nI 0), .int (nI re), .int (ca), .int (nI vw)]]) rfl ?_
  refine g_aload_n F 0 dX6_clear_5 rfl rfl ?_
  refine g_iconst (v := nI 0) F dX6_clear_6 (by decide) ?_
  refine g_put F 0 1 dX6_clear_7 rfl rfl (by decide) (by decide +kernel) (by decide +kernel) tyX6_ok nmX6 rfl (by decide +kernel) rfl rfl (Nat.le_of_ble_eq_true rfl) rfl (ty := .int) (w2 := [ob 6 v0 [.int (nI 0), .int (nI 0), .int (ca), .int (nI vw)]]) rfl ?_
  refine g_aload_n F 0 dX6_clear_10 rfl rfl ?_
  refine g_iconst (v := nI 0) F dX6_clear_11 (by decide) ?_
  refine g_put F 0 2 dX6_clear_12 rfl rfl (by decide) (by decide +kernel) (by decide +kernel) tyX6_ok nmX6 rfl (by decide +kernel) rfl rfl (Nat.le_of_ble_eq_true rfl) rfl (ty := .int) (w2 := [ob 6 v0 [.int (nI 0), .int (nI 0), .int (nI 0), .int (nI vw)]]) rfl ?_
  refine g_aload_n F 0 dX6_clear_15 rfl rfl ?_
  refine g_iconst (v := nI 0) F dX6_clear_16 (by decide) ?_
  refine g_put F 0 3 dX6_clear_17 rfl rfl (by decide) (by decide +kernel) (by decide +kernel) tyX6_ok nmX6 rfl (by decide +kernel) rfl rfl (Nat.le_of_ble_eq_true rfl) rfl (ty := .int) (w2 := [ob 6 v0 [.int (nI 0), .int (nI 0), .int (nI 0), .int (nI 0)]]) rfl ?_
  refine g_obC 0 rfl [.int (nI 0), .int (nI 0), .int ((nI 0)), .int (nI 0)] (by rfl) (w2 := [ob 6 v0 [.int (nI 0), .int (nI 0), .int ((nI 0)), .int (nI 0)]]) rfl ?_
  exact hret _ _ _ dX6_clear_20 rfl
set_option maxHeartbeats 4000000 in
set_option maxRecDepth 100000 in
theorem c_X6_blame (l : Launch) (E : En) (v0 : Nat) (po : Nat) (re : Nat) (ca : Int32) (vw : Nat) (p1 : Nat) (p2 : Nat) (p3 : Int32)  : CtV l yX6_blame wsX6_blame ({ frames := 0, cells := 0, slots := 0, locals := 0 } : Room) E [.ref v0, .int (nI p1), .int (nI p2), .int (p3)] [ob 6 v0 [.int (nI po), .int (nI re), .int (ca), .int (nI vw)]] (fun uu => uu = [ob 6 v0 [.int (nI p1), .int (nI p2), .int (p3), .int (nI vw)]]) := by
  refine CtV.of cX6_blame 4 RX6 rfl (by decide) rfl (Nat.le_of_ble_eq_true rfl) ?_
  intro Γ F hin0 hret
  show G Γ E 0 0 0 [(0, .ref v0), (1, .int (nI p1)), (2, .int (nI p2)), (3, .int (p3))] [] [ob 6 v0 [.int (nI po), .int (nI re), .int (ca), .int (nI vw)]]
  refine g_aload_n F 0 dX6_blame_0 rfl rfl ?_
  refine g_iload_n F 1 dX6_blame_1 rfl rfl ?_
  refine g_put F 0 0 dX6_blame_2 rfl rfl (by decide) (by decide +kernel) (by decide +kernel) tyX6_ok nmX6 rfl (by decide +kernel) rfl rfl (Nat.le_of_ble_eq_true rfl) rfl (ty := .int) (w2 := [ob 6 v0 [.int (nI p1), .int (nI re), .int (ca), .int (nI vw)]]) rfl ?_
  refine g_aload_n F 0 dX6_blame_5 rfl rfl ?_
  refine g_iload_n F 2 dX6_blame_6 rfl rfl ?_
  refine g_put F 0 1 dX6_blame_7 rfl rfl (by decide) (by decide +kernel) (by decide +kernel) tyX6_ok nmX6 rfl (by decide +kernel) rfl rfl (Nat.le_of_ble_eq_true rfl) rfl (ty := .int) (w2 := [ob 6 v0 [.int (nI p1), .int (nI p2), .int (ca), .int (nI vw)]]) rfl ?_
  refine g_aload_n F 0 dX6_blame_10 rfl rfl ?_
  refine g_iload_n F 3 dX6_blame_11 rfl rfl ?_
  refine g_put F 0 2 dX6_blame_12 rfl rfl (by decide) (by decide +kernel) (by decide +kernel) tyX6_ok nmX6 rfl (by decide +kernel) rfl rfl (Nat.le_of_ble_eq_true rfl) rfl (ty := .int) (w2 := [ob 6 v0 [.int (nI p1), .int (nI p2), .int (p3), .int (nI vw)]]) rfl ?_
  exact hret _ _ _ dX6_blame_15 rfl
set_option maxHeartbeats 4000000 in
set_option maxRecDepth 100000 in
theorem c_X4_length (l : Launch) (E : En) (x0 : Nat) (x1 : Nat) (L : Nat) (a : Nat) (br : Nat) (lf : Nat) (pl : Nat) (vl : Nat)  : CtI l yX4_length wsX4_length ({ frames := 0, cells := 0, slots := 0, locals := 0 } : Room) E [.ref x0] [ob 4 x0 [.ref x1, .int (nI L), .int (nI a), .int (nI br), .int (nI lf), .int (nI pl), .int (nI vl)]] (fun rr uu => rr = nI L ∧ uu = [ob 4 x0 [.ref x1, .int (nI L), .int (nI a), .int (nI br), .int (nI lf), .int (nI pl), .int (nI vl)]]) := by
  refine CtI.of cX4_length 1 RX4 .int rfl (by decide) rfl (Or.inl rfl) (Nat.le_of_ble_eq_true rfl) (fun h => by cases h) ?_
  intro Γ F hret
  show G Γ E 0 0 0 [(0, .ref x0)] [] [ob 4 x0 [.ref x1, .int (nI L), .int (nI a), .int (nI br), .int (nI lf), .int (nI pl), .int (nI vl)]]
  refine g_aload_n F 0 dX4_length_0 rfl rfl ?_
  refine g_get F 0 1 dX4_length_1 rfl rfl (by decide) (by decide +kernel) (by decide +kernel) rfl ?_
  exact hret _ _ _ _ dX4_length_4 ⟨rfl, rfl⟩
set_option maxHeartbeats 4000000 in
set_option maxRecDepth 100000 in
theorem c_X4_append (l : Launch) (E : En) (x0 : Nat) (x1 : Nat) (L : Nat) (a : Nat) (br : Nat) (lf : Nat) (pl : Nat) (vl : Nat) (t : Nat → Nat) (c : Nat) (hL : L < 60) (hc : c < 65536) : CtV l yX4_append wsX4_append ({ frames := 1, cells := 0, slots := 0, locals := 21 } : Room) E [.ref x0, .int (nI c)] [ob 4 x0 [.ref x1, .int (nI L), .int (nI a), .int (nI br), .int (nI lf), .int (nI pl), .int (nI vl)], ac E x1 60 t] (fun uu => uu = [ob 4 x0 [.ref x1, .int (nI (L + 1)), .int (nI a), .int (nI br), .int (nI lf), .int (nI pl), .int (nI vl)], ac E x1 60 (up t L c)]) := by
  refine CtV.of cX4_append 2 RX4 rfl (by decide) rfl (Nat.le_of_ble_eq_true rfl) ?_
  intro Γ F hin0 hret
  show G Γ E 0 0 0 [(0, .ref x0), (1, .int (nI c))] [] [ob 4 x0 [.ref x1, .int (nI L), .int (nI a), .int (nI br), .int (nI lf), .int (nI pl), .int (nI vl)], ac E x1 60 t]
  refine g_aload_n F 0 dX4_append_0 rfl rfl ?_
  refine g_get F 0 1 dX4_append_1 rfl rfl (by decide) (by decide +kernel) (by decide +kernel) rfl ?_
  refine g_bipush (v := nI 60) F dX4_append_4 (by decide) ?_
  refine g_callSNiR (n := 2) F [] (c_X8_below l E L 60 (by omega) (by omega)) dX4_append_6 rfl (by decide) rfl rfl rfl (Nat.le_of_ble_eq_true rfl) ⟨Nat.le_of_ble_eq_true rfl, Nat.le_of_ble_eq_true rfl⟩ rfl rfl ⟨Nat.le_of_ble_eq_true rfl, Nat.le_of_ble_eq_true rfl⟩ (host := "SummedParents") ggX4_append_X8_below (by decide +kernel) (by decide +kernel) (by decide +kernel) (by decide +kernel) (fun r u hp => by obtain ⟨-, h⟩ := hp; exact h) ?_
  rintro r_6 u_6 ⟨rfl, -⟩
  refine g_if_eqB (tgt := 32) F dX4_append_9 (by decide) (fun c9 => ?_) (fun c9 => ?_)
  · skip
    exact absurd hL c9
  · skip
    refine g_aload_n F 0 dX4_append_12 rfl rfl ?_
    refine g_get F 0 0 dX4_append_13 rfl rfl (by decide) (by decide +kernel) (by decide +kernel) rfl ?_
    refine g_aload_n F 0 dX4_append_16 rfl rfl ?_
    refine g_get F 0 1 dX4_append_17 rfl rfl (by decide) (by decide +kernel) (by decide +kernel) rfl ?_
    refine g_iload_n F 1 dX4_append_20 rfl rfl ?_
    refine g_cast F 1 dX4_append_21 rfl (by omega) (by decide) (by exact nar_c hc) (w2 := [ob 4 x0 [.ref x1, .int (nI L), .int (nI a), .int (nI br), .int (nI lf), .int (nI pl), .int (nI vl)], ac E x1 60 (up t L c)]) rfl ?_
    refine g_aload_n F 0 dX4_append_22 rfl rfl ?_
    refine g_dup F dX4_append_23 rfl ?_
    refine g_get F 0 1 dX4_append_24 rfl rfl (by decide) (by decide +kernel) (by decide +kernel) rfl ?_
    refine g_iconst (v := nI 1) F dX4_append_27 (by decide) ?_
    refine g_iaddN F dX4_append_28 ?_
    refine g_put F 0 1 dX4_append_29 rfl rfl (by decide) (by decide +kernel) (by decide +kernel) tyX4_ok nmX4 rfl (by decide +kernel) rfl rfl (Nat.le_of_ble_eq_true rfl) rfl (ty := .int) (w2 := [ob 4 x0 [.ref x1, .int (nI (L + 1)), .int (nI a), .int (nI br), .int (nI lf), .int (nI pl), .int (nI vl)], ac E x1 60 (up t L c)]) rfl ?_
    exact hret _ _ _ dX4_append_32 rfl
set_option maxHeartbeats 4000000 in
set_option maxRecDepth 100000 in
theorem c_X4_clear (l : Launch) (E : En) (x0 : Nat) (x1 : Nat) (L : Nat) (a : Nat) (br : Nat) (lf : Nat) (pl : Nat) (vl : Nat)  : CtV l yX4_clear wsX4_clear ({ frames := 0, cells := 0, slots := 0, locals := 0 } : Room) E [.ref x0] [ob 4 x0 [.ref x1, .int (nI L), .int (nI a), .int (nI br), .int (nI lf), .int (nI pl), .int (nI vl)]] (fun uu => uu = [ob 4 x0 [.ref x1, .int (nI 0), .int (nI a), .int (nI br), .int (nI lf), .int (nI pl), .int (nI vl)]]) := by
  refine CtV.of cX4_clear 1 RX4 rfl (by decide) rfl (Nat.le_of_ble_eq_true rfl) ?_
  intro Γ F hin0 hret
  show G Γ E 0 0 0 [(0, .ref x0)] [] [ob 4 x0 [.ref x1, .int (nI L), .int (nI a), .int (nI br), .int (nI lf), .int (nI pl), .int (nI vl)]]
  refine g_aload_n F 0 dX4_clear_0 rfl rfl ?_
  refine g_iconst (v := nI 0) F dX4_clear_1 (by decide) ?_
  refine g_put F 0 1 dX4_clear_2 rfl rfl (by decide) (by decide +kernel) (by decide +kernel) tyX4_ok nmX4 rfl (by decide +kernel) rfl rfl (Nat.le_of_ble_eq_true rfl) rfl (ty := .int) (w2 := [ob 4 x0 [.ref x1, .int (nI 0), .int (nI a), .int (nI br), .int (nI lf), .int (nI pl), .int (nI vl)]]) rfl ?_
  exact hret _ _ _ dX4_clear_5 rfl
set_option maxHeartbeats 4000000 in
set_option maxRecDepth 100000 in
theorem c_X4_rewind (l : Launch) (E : En) (x0 : Nat) (x1 : Nat) (L : Nat) (a : Nat) (br : Nat) (lf : Nat) (pl : Nat) (vl : Nat)  : CtV l yX4_rewind wsX4_rewind ({ frames := 0, cells := 0, slots := 0, locals := 0 } : Room) E [.ref x0] [ob 4 x0 [.ref x1, .int (nI L), .int (nI a), .int (nI br), .int (nI lf), .int (nI pl), .int (nI vl)]] (fun uu => uu = [ob 4 x0 [.ref x1, .int (nI L), .int (nI 0), .int (nI br), .int (nI lf), .int (nI pl), .int (nI vl)]]) := by
  refine CtV.of cX4_rewind 1 RX4 rfl (by decide) rfl (Nat.le_of_ble_eq_true rfl) ?_
  intro Γ F hin0 hret
  show G Γ E 0 0 0 [(0, .ref x0)] [] [ob 4 x0 [.ref x1, .int (nI L), .int (nI a), .int (nI br), .int (nI lf), .int (nI pl), .int (nI vl)]]
  refine g_aload_n F 0 dX4_rewind_0 rfl rfl ?_
  refine g_iconst (v := nI 0) F dX4_rewind_1 (by decide) ?_
  refine g_put F 0 2 dX4_rewind_2 rfl rfl (by decide) (by decide +kernel) (by decide +kernel) tyX4_ok nmX4 rfl (by decide +kernel) rfl rfl (Nat.le_of_ble_eq_true rfl) rfl (ty := .int) (w2 := [ob 4 x0 [.ref x1, .int (nI L), .int (nI 0), .int (nI br), .int (nI lf), .int (nI pl), .int (nI vl)]]) rfl ?_
  exact hret _ _ _ dX4_rewind_5 rfl
set_option maxHeartbeats 4000000 in
set_option maxRecDepth 100000 in
theorem c_X4_isAtEnd (l : Launch) (E : En) (x0 : Nat) (x1 : Nat) (L : Nat) (a : Nat) (br : Nat) (lf : Nat) (pl : Nat) (vl : Nat) (hL : L ≤ 60) (ha : a ≤ L) : CtI l yX4_isAtEnd wsX4_isAtEnd ({ frames := 0, cells := 0, slots := 0, locals := 0 } : Room) E [.ref x0] [ob 4 x0 [.ref x1, .int (nI L), .int (nI a), .int (nI br), .int (nI lf), .int (nI pl), .int (nI vl)]] (fun rr uu => rr = bi (L ≤ a) ∧ uu = [ob 4 x0 [.ref x1, .int (nI L), .int (nI a), .int (nI br), .int (nI lf), .int (nI pl), .int (nI vl)]]) := by
  refine CtI.of cX4_isAtEnd 1 RX4 .boolean rfl (by decide) rfl (Or.inr rfl) (Nat.le_of_ble_eq_true rfl) (fun _ r u hp => by obtain ⟨rfl, -⟩ := hp; exact bi_narrow _) ?_
  intro Γ F hret
  show G Γ E 0 0 0 [(0, .ref x0)] [] [ob 4 x0 [.ref x1, .int (nI L), .int (nI a), .int (nI br), .int (nI lf), .int (nI pl), .int (nI vl)]]
  refine g_aload_n F 0 dX4_isAtEnd_0 rfl rfl ?_
  refine g_get F 0 2 dX4_isAtEnd_1 rfl rfl (by decide) (by decide +kernel) (by decide +kernel) rfl ?_
  refine g_aload_n F 0 dX4_isAtEnd_4 rfl rfl ?_
  refine g_get F 0 1 dX4_isAtEnd_5 rfl rfl (by decide) (by decide +kernel) (by decide +kernel) rfl ?_
  refine g_icmp_ltN (tgt := 15) F dX4_isAtEnd_8 (by decide) (by omega) (by omega) (fun c8 => ?_) (fun c8 => ?_)
  · skip
    refine g_iconst (v := nI 0) F dX4_isAtEnd_15 (by decide) ?_
    exact hret _ _ _ _ dX4_isAtEnd_16 ⟨(bi_neg (by omega)).symm, rfl⟩
  · skip
    refine g_iconst (v := nI 1) F dX4_isAtEnd_11 (by decide) ?_
    refine g_goto (tgt := 16) F dX4_isAtEnd_12 (by decide) ?_
    exact hret _ _ _ _ dX4_isAtEnd_16 ⟨(bi_pos (by omega)).symm, rfl⟩
set_option maxHeartbeats 4000000 in
set_option maxRecDepth 100000 in
theorem c_X4_position (l : Launch) (E : En) (x0 : Nat) (x1 : Nat) (L : Nat) (a : Nat) (br : Nat) (lf : Nat) (pl : Nat) (vl : Nat)  : CtI l yX4_position wsX4_position ({ frames := 0, cells := 0, slots := 0, locals := 0 } : Room) E [.ref x0] [ob 4 x0 [.ref x1, .int (nI L), .int (nI a), .int (nI br), .int (nI lf), .int (nI pl), .int (nI vl)]] (fun rr uu => rr = nI a ∧ uu = [ob 4 x0 [.ref x1, .int (nI L), .int (nI a), .int (nI br), .int (nI lf), .int (nI pl), .int (nI vl)]]) := by
  refine CtI.of cX4_position 1 RX4 .int rfl (by decide) rfl (Or.inl rfl) (Nat.le_of_ble_eq_true rfl) (fun h => by cases h) ?_
  intro Γ F hret
  show G Γ E 0 0 0 [(0, .ref x0)] [] [ob 4 x0 [.ref x1, .int (nI L), .int (nI a), .int (nI br), .int (nI lf), .int (nI pl), .int (nI vl)]]
  refine g_aload_n F 0 dX4_position_0 rfl rfl ?_
  refine g_get F 0 2 dX4_position_1 rfl rfl (by decide) (by decide +kernel) (by decide +kernel) rfl ?_
  exact hret _ _ _ _ dX4_position_4 ⟨rfl, rfl⟩
set_option maxHeartbeats 4000000 in
set_option maxRecDepth 100000 in
theorem c_X4_current (l : Launch) (E : En) (x0 : Nat) (x1 : Nat) (L : Nat) (a : Nat) (br : Nat) (lf : Nat) (pl : Nat) (vl : Nat) (t : Nat → Nat) (hL : L ≤ 60) (ha : a ≤ L) : CtI l yX4_current wsX4_current ({ frames := 1, cells := 0, slots := 0, locals := 21 } : Room) E [.ref x0] [ob 4 x0 [.ref x1, .int (nI L), .int (nI a), .int (nI br), .int (nI lf), .int (nI pl), .int (nI vl)], ac E x1 60 t] (fun rr uu => rr = cur t L a ∧ uu = [ob 4 x0 [.ref x1, .int (nI L), .int (nI a), .int (nI br), .int (nI lf), .int (nI pl), .int (nI vl)], ac E x1 60 t]) := by
  refine CtI.of cX4_current 1 RX4 .int rfl (by decide) rfl (Or.inl rfl) (Nat.le_of_ble_eq_true rfl) (fun h => by cases h) ?_
  intro Γ F hret
  show G Γ E 0 0 0 [(0, .ref x0)] [] [ob 4 x0 [.ref x1, .int (nI L), .int (nI a), .int (nI br), .int (nI lf), .int (nI pl), .int (nI vl)], ac E x1 60 t]
  refine g_aload_n F 0 dX4_current_0 rfl rfl ?_
  refine g_get F 0 2 dX4_current_1 rfl rfl (by decide) (by decide +kernel) (by decide +kernel) rfl ?_
  refine g_aload_n F 0 dX4_current_4 rfl rfl ?_
  refine g_get F 0 1 dX4_current_5 rfl rfl (by decide) (by decide +kernel) (by decide +kernel) rfl ?_
  refine g_icmp_geN (tgt := 35) F dX4_current_8 (by decide) (by omega) (by omega) (fun c8 => ?_) (fun c8 => ?_)
  · skip
    refine g_iconst (v := (-1)) F dX4_current_35 (by decide) ?_
    exact hret _ _ _ _ dX4_current_36 ⟨(by unfold cur; first | rw [if_pos c8] | rw [if_neg (by omega)]), rfl⟩
  · skip
    refine g_aload_n F 0 dX4_current_11 rfl rfl ?_
    refine g_get F 0 2 dX4_current_12 rfl rfl (by decide) (by decide +kernel) (by decide +kernel) rfl ?_
    refine g_bipush (v := nI 60) F dX4_current_15 (by decide) ?_
    refine g_callSNiR (n := 2) F [] (c_X8_below l E a 60 (by omega) (by omega)) dX4_current_17 rfl (by decide) rfl rfl rfl (Nat.le_of_ble_eq_true rfl) ⟨Nat.le_of_ble_eq_true rfl, Nat.le_of_ble_eq_true rfl⟩ rfl rfl ⟨Nat.le_of_ble_eq_true rfl, Nat.le_of_ble_eq_true rfl⟩ (host := "SummedParents") ggX4_current_X8_below (by decide +kernel) (by decide +kernel) (by decide +kernel) (by decide +kernel) (fun r u hp => by obtain ⟨-, h⟩ := hp; exact h) ?_
    rintro r_17 u_17 ⟨rfl, -⟩
    refine g_if_eqB (tgt := 35) F dX4_current_20 (by decide) (fun c20 => ?_) (fun c20 => ?_)
    · skip
      exact absurd (show a < 60 by omega) c20
    · skip
      refine g_aload_n F 0 dX4_current_23 rfl rfl ?_
      refine g_get F 0 0 dX4_current_24 rfl rfl (by decide) (by decide +kernel) (by decide +kernel) rfl ?_
      refine g_aload_n F 0 dX4_current_27 rfl rfl ?_
      refine g_get F 0 2 dX4_current_28 rfl rfl (by decide) (by decide +kernel) (by decide +kernel) rfl ?_
      refine g_cald F 1 dX4_current_31 rfl (by omega) (by decide) ?_
      refine g_goto (tgt := 36) F dX4_current_32 (by decide) ?_
      exact hret _ _ _ _ dX4_current_36 ⟨(by unfold cur; first | rw [if_pos c8] | rw [if_neg (by omega)]), rfl⟩
set_option maxHeartbeats 4000000 in
set_option maxRecDepth 100000 in
theorem c_X4_isDigit (l : Launch) (E : En) (x : Int32)  : CtI l yX4_isDigit wsX4_isDigit ({ frames := 0, cells := 0, slots := 0, locals := 0 } : Room) E [.int (x)] [] (fun rr uu => rr = bi (isd x) ∧ uu = []) := by
  refine CtI.of cX4_isDigit 1 RX4 .boolean rfl (by decide) rfl (Or.inr rfl) (Nat.le_of_ble_eq_true rfl) (fun _ r u hp => by obtain ⟨rfl, -⟩ := hp; exact bi_narrow _) ?_
  intro Γ F hret
  show G Γ E 0 0 0 [(0, .int (x))] [] []
  refine g_iload_n F 0 dX4_isDigit_0 rfl rfl ?_
  refine g_bipush (v := nI 48) F dX4_isDigit_1 (by decide) ?_
  refine g_icmp_lt (tgt := 16) F dX4_isDigit_3 (by decide) (fun c3 => ?_) (fun c3 => ?_)
  · skip
    refine g_iconst (v := nI 0) F dX4_isDigit_16 (by decide) ?_
    exact hret _ _ _ _ dX4_isDigit_17 ⟨(bi_neg (by first | exact fun h => h.1 c3 | exact fun h => h.2 c9)).symm, rfl⟩
  · skip
    refine g_iload_n F 0 dX4_isDigit_6 rfl rfl ?_
    refine g_bipush (v := nI 57) F dX4_isDigit_7 (by decide) ?_
    refine g_icmp_gt (tgt := 16) F dX4_isDigit_9 (by decide) (fun c9 => ?_) (fun c9 => ?_)
    · skip
      refine g_iconst (v := nI 0) F dX4_isDigit_16 (by decide) ?_
      exact hret _ _ _ _ dX4_isDigit_17 ⟨(bi_neg (by first | exact fun h => h.1 c3 | exact fun h => h.2 c9)).symm, rfl⟩
    · skip
      refine g_iconst (v := nI 1) F dX4_isDigit_12 (by decide) ?_
      refine g_goto (tgt := 17) F dX4_isDigit_13 (by decide) ?_
      exact hret _ _ _ _ dX4_isDigit_17 ⟨(bi_pos (by exact ⟨c3, c9⟩)).symm, rfl⟩
set_option maxHeartbeats 4000000 in
set_option maxRecDepth 100000 in
theorem c_X4_parseSign (l : Launch) (E : En) (x0 : Nat) (x1 : Nat) (L : Nat) (a : Nat) (br : Nat) (lf : Nat) (pl : Nat) (vl : Nat) (t : Nat → Nat) (c : Nat) (hL : L ≤ 60) (ha : a ≤ L) (hbr : br ≤ 1) (hc : c < 65536) (ht : BT t) : CtV l yX4_parseSign wsX4_parseSign ({ frames := 2, cells := 0, slots := 0, locals := 41 } : Room) E [.ref x0, .int (nI c)] [ob 4 x0 [.ref x1, .int (nI L), .int (nI a), .int (nI br), .int (nI lf), .int (nI pl), .int (nI vl)], ac E x1 60 t] (fun uu => uu = [ob 4 x0 [.ref x1, .int (nI L), .int (nI (sA t L br a c)), .int (nI (sB t L br a c)), .int (nI lf), .int (nI pl), .int (nI vl)], ac E x1 60 t]) := by
  refine CtV.of cX4_parseSign 2 RX4 rfl (by decide) rfl (Nat.le_of_ble_eq_true rfl) ?_
  intro Γ F hin0 hret
  show G Γ E 0 0 0 [(0, .ref x0), (1, .int (nI c))] [] [ob 4 x0 [.ref x1, .int (nI L), .int (nI a), .int (nI br), .int (nI lf), .int (nI pl), .int (nI vl)], ac E x1 60 t]
  refine g_aload_n F 0 dX4_parseSign_0 rfl rfl ?_
  refine g_get F 0 3 dX4_parseSign_1 rfl rfl (by decide) (by decide +kernel) (by decide +kernel) rfl ?_
  refine g_if_neN (tgt := 28) F dX4_parseSign_4 (by decide) (by omega) (fun c4 => ?_) (fun c4 => ?_)
  · skip
    refine g_aload_n F 0 dX4_parseSign_28 rfl rfl ?_
    refine g_iconst (v := nI 1) F dX4_parseSign_29 (by decide) ?_
    refine g_put F 0 3 dX4_parseSign_30 rfl rfl (by decide) (by decide +kernel) (by decide +kernel) tyX4_ok nmX4 rfl (by decide +kernel) (by decide) (by decide) (Nat.le_of_ble_eq_true rfl) rfl (ty := .boolean) (w2 := [ob 4 x0 [.ref x1, .int (nI L), .int (nI a), .int (nI 1), .int (nI lf), .int (nI pl), .int (nI vl)], ac E x1 60 t]) rfl ?_
    refine g_obC 0 rfl [.ref x1, .int (nI L), .int (nI (sA t L br a c)), .int (nI (sB t L br a c)), .int (nI lf), .int (nI pl), .int (nI vl)] (by unfold sA sB; first | (have h9 := (cur_eq (L := L) (a := a) ht hc).mp (Classical.not_not.mp c12); rw [if_pos ⟨c4, h9⟩, if_pos ⟨c4, h9⟩]) | (have h9 := (cur_eq (L := L) (a := a) ht hc).mp c12; rw [if_pos ⟨c4, h9⟩, if_pos ⟨c4, h9⟩]) | (rw [if_neg (fun h => c4 h.1), if_neg (fun h => c4 h.1)]) | (rw [if_neg (fun h => c12 ((cur_eq ht hc).mpr h.2)), if_neg (fun h => c12 ((cur_eq ht hc).mpr h.2))])) (w2 := [ob 4 x0 [.ref x1, .int (nI L), .int (nI (sA t L br a c)), .int (nI (sB t L br a c)), .int (nI lf), .int (nI pl), .int (nI vl)], ac E x1 60 t]) rfl ?_
    exact hret _ _ _ dX4_parseSign_33 rfl
  · skip
    refine g_aload_n F 0 dX4_parseSign_7 rfl rfl ?_
    refine g_callViR (n := 0) F [0, 1] (c_X4_current l E x0 x1 L a br lf pl vl t (by omega) (by omega)) dX4_parseSign_8 rfl (by decide) rfl rfl rfl (Nat.le_of_ble_eq_true rfl) ⟨Nat.le_of_ble_eq_true rfl, Nat.le_of_ble_eq_true rfl⟩ rfl rfl ⟨Nat.le_of_ble_eq_true rfl, Nat.le_of_ble_eq_true rfl⟩ 0 rfl rfl gX4_parseSign_X4_current (by decide +kernel) (fun r u hp => by obtain ⟨-, h⟩ := hp; exact h) ?_
    rintro r_8 u_8 ⟨rfl, -⟩
    refine g_iload_n F 1 dX4_parseSign_11 rfl rfl ?_
    refine g_icmp_ne (tgt := 28) F dX4_parseSign_12 (by decide) (fun c12 => ?_) (fun c12 => ?_)
    · skip
      refine g_aload_n F 0 dX4_parseSign_28 rfl rfl ?_
      refine g_iconst (v := nI 1) F dX4_parseSign_29 (by decide) ?_
      refine g_put F 0 3 dX4_parseSign_30 rfl rfl (by decide) (by decide +kernel) (by decide +kernel) tyX4_ok nmX4 rfl (by decide +kernel) (by decide) (by decide) (Nat.le_of_ble_eq_true rfl) rfl (ty := .boolean) (w2 := [ob 4 x0 [.ref x1, .int (nI L), .int (nI a), .int (nI 1), .int (nI lf), .int (nI pl), .int (nI vl)], ac E x1 60 t]) rfl ?_
      refine g_obC 0 rfl [.ref x1, .int (nI L), .int (nI (sA t L br a c)), .int (nI (sB t L br a c)), .int (nI lf), .int (nI pl), .int (nI vl)] (by unfold sA sB; first | (have h9 := (cur_eq (L := L) (a := a) ht hc).mp (Classical.not_not.mp c12); rw [if_pos ⟨c4, h9⟩, if_pos ⟨c4, h9⟩]) | (have h9 := (cur_eq (L := L) (a := a) ht hc).mp c12; rw [if_pos ⟨c4, h9⟩, if_pos ⟨c4, h9⟩]) | (rw [if_neg (fun h => c4 h.1), if_neg (fun h => c4 h.1)]) | (rw [if_neg (fun h => c12 ((cur_eq ht hc).mpr h.2)), if_neg (fun h => c12 ((cur_eq ht hc).mpr h.2))])) (w2 := [ob 4 x0 [.ref x1, .int (nI L), .int (nI (sA t L br a c)), .int (nI (sB t L br a c)), .int (nI lf), .int (nI pl), .int (nI vl)], ac E x1 60 t]) rfl ?_
      exact hret _ _ _ dX4_parseSign_33 rfl
    · skip
      refine g_aload_n F 0 dX4_parseSign_15 rfl rfl ?_
      refine g_dup F dX4_parseSign_16 rfl ?_
      refine g_get F 0 2 dX4_parseSign_17 rfl rfl (by decide) (by decide +kernel) (by decide +kernel) rfl ?_
      refine g_iconst (v := nI 1) F dX4_parseSign_20 (by decide) ?_
      refine g_iaddN F dX4_parseSign_21 ?_
      refine g_put F 0 2 dX4_parseSign_22 rfl rfl (by decide) (by decide +kernel) (by decide +kernel) tyX4_ok nmX4 rfl (by decide +kernel) rfl rfl (Nat.le_of_ble_eq_true rfl) rfl (ty := .int) (w2 := [ob 4 x0 [.ref x1, .int (nI L), .int (nI (a + 1)), .int (nI br), .int (nI lf), .int (nI pl), .int (nI vl)], ac E x1 60 t]) rfl ?_
      refine g_goto (tgt := 33) F dX4_parseSign_25 (by decide) ?_
      refine g_obC 0 rfl [.ref x1, .int (nI L), .int (nI (sA t L br a c)), .int (nI (sB t L br a c)), .int (nI lf), .int (nI pl), .int (nI vl)] (by unfold sA sB; first | (have h9 := (cur_eq (L := L) (a := a) ht hc).mp (Classical.not_not.mp c12); rw [if_pos ⟨c4, h9⟩, if_pos ⟨c4, h9⟩]) | (have h9 := (cur_eq (L := L) (a := a) ht hc).mp c12; rw [if_pos ⟨c4, h9⟩, if_pos ⟨c4, h9⟩]) | (rw [if_neg (fun h => c4 h.1), if_neg (fun h => c4 h.1)]) | (rw [if_neg (fun h => c12 ((cur_eq ht hc).mpr h.2)), if_neg (fun h => c12 ((cur_eq ht hc).mpr h.2))])) (w2 := [ob 4 x0 [.ref x1, .int (nI L), .int (nI (sA t L br a c)), .int (nI (sB t L br a c)), .int (nI lf), .int (nI pl), .int (nI vl)], ac E x1 60 t]) rfl ?_
      exact hret _ _ _ dX4_parseSign_33 rfl
set_option maxHeartbeats 4000000 in
set_option maxRecDepth 100000 in
theorem c_X4_parseNumber (l : Launch) (E : En) (x0 : Nat) (x1 : Nat) (L : Nat) (a : Nat) (br : Nat) (lf : Nat) (pl : Nat) (vl : Nat) (t : Nat → Nat) (m : Nat) (hL : L ≤ 60) (ha : a ≤ L) (hbr : br ≤ 1) (hm : m ≤ 3) (ht : BT t) : CtI l yX4_parseNumber wsX4_parseNumber ({ frames := 2, cells := 0, slots := 0, locals := 41 } : Room) E [.ref x0, .int (nI m)] [ob 4 x0 [.ref x1, .int (nI L), .int (nI a), .int (nI br), .int (nI lf), .int (nI pl), .int (nI vl)], ac E x1 60 t] (fun rr uu => rr = nI (pv t a (nd0 t L br a m)) ∧ uu = [ob 4 x0 [.ref x1, .int (nI L), .int (nI (a + nd0 t L br a m)), .int (nI (pB t L br a m)), .int (nI lf), .int (nI pl), .int (nI vl)], ac E x1 60 t]) := by
  refine CtI.of cX4_parseNumber 4 RX4 .int rfl (by decide) rfl (Or.inl rfl) (Nat.le_of_ble_eq_true rfl) (fun h => by cases h) ?_
  intro Γ F hret
  show G Γ E 0 0 0 [(0, .ref x0), (1, .int (nI m))] [] [ob 4 x0 [.ref x1, .int (nI L), .int (nI a), .int (nI br), .int (nI lf), .int (nI pl), .int (nI vl)], ac E x1 60 t]
  refine g_iconst (v := nI 0) F dX4_parseNumber_0 (by decide) ?_
  refine g_istore_n (lv2 := [(2, .int (nI 0)), (0, .ref x0), (1, .int (nI m))]) F dX4_parseNumber_1 rfl (by decide) rfl ?_
  refine g_iconst (v := nI 0) F dX4_parseNumber_2 (by decide) ?_
  refine g_istore_n (lv2 := [(3, .int (nI 0)), (2, .int (nI 0)), (0, .ref x0), (1, .int (nI m))]) F dX4_parseNumber_3 rfl (by decide) rfl ?_
  have loop4 : ∀ (n : Nat) (i : Nat) (z : Nat), 4 - i < n → (i ≤ m) → (z = pv t a i) → (∀ k : Nat, k < i → a + k < L ∧ 48 ≤ t (a + k) ∧ t (a + k) ≤ 57) → (0 < i → br = 0) → (a + i ≤ L) → G Γ E 0 0 4 [(0, .ref x0), (1, .int (nI m)), (2, .int (nI z)), (3, .int (nI i))] [] [ob 4 x0 [.ref x1, .int (nI L), .int (nI (a + i)), .int (nI br), .int (nI lf), .int (nI pl), .int (nI vl)], ac E x1 60 t] := by
    intro n
    induction n with
    | zero => intro i z hz; exact absurd hz (Nat.not_lt_zero _)
    | succ n ih4 =>
      intro i z hz4 hi hz hk hb0 hai
      refine g_aload_n F 0 dX4_parseNumber_4 rfl rfl ?_
      refine g_get F 0 3 dX4_parseNumber_5 rfl rfl (by decide) (by decide +kernel) (by decide +kernel) rfl ?_
      refine g_if_neN (tgt := 55) F dX4_parseNumber_8 (by decide) (by omega) (fun c8 => ?_) (fun c8 => ?_)
      · skip
        have hnd : nd0 t L br a m = i := by
          unfold nd0
          first
            | (rw [if_neg c8]; have := hb0; omega)
            | (rw [if_pos c8, nd_all m a i hi hk, nd_stop (Or.inl (by omega)), Nat.add_zero])
            | (rw [if_pos c8, nd_all m a i hi hk, nd_stop (Or.inr (fun h => c23 ((cur_isd ht).mpr h))), Nat.add_zero])
        refine g_iload_n F 3 dX4_parseNumber_55 rfl rfl ?_
        refine g_if_neN (tgt := 64) F dX4_parseNumber_56 (by decide) (by omega) (fun c56 => ?_) (fun c56 => ?_)
        · skip
          refine g_iload_n F 2 dX4_parseNumber_64 rfl rfl ?_
          refine g_obC 0 rfl [.ref x1, .int (nI L), .int (nI (a + nd0 t L br a m)), .int (nI (pB t L br a m)), .int (nI lf), .int (nI pl), .int (nI vl)] (by unfold pB; rw [hnd]; first | rw [if_pos c56] | rw [if_neg c56]) (w2 := [ob 4 x0 [.ref x1, .int (nI L), .int (nI (a + nd0 t L br a m)), .int (nI (pB t L br a m)), .int (nI lf), .int (nI pl), .int (nI vl)], ac E x1 60 t]) rfl ?_
          exact hret _ _ _ _ dX4_parseNumber_65 ⟨(congrArg nI (by rw [hnd, hz])), rfl⟩
        · skip
          refine g_aload_n F 0 dX4_parseNumber_59 rfl rfl ?_
          refine g_iconst (v := nI 1) F dX4_parseNumber_60 (by decide) ?_
          refine g_put F 0 3 dX4_parseNumber_61 rfl rfl (by decide) (by decide +kernel) (by decide +kernel) tyX4_ok nmX4 rfl (by decide +kernel) (by decide) (by decide) (Nat.le_of_ble_eq_true rfl) rfl (ty := .boolean) (w2 := [ob 4 x0 [.ref x1, .int (nI L), .int (nI (a + i)), .int (nI 1), .int (nI lf), .int (nI pl), .int (nI vl)], ac E x1 60 t]) rfl ?_
          refine g_iload_n F 2 dX4_parseNumber_64 rfl rfl ?_
          refine g_obC 0 rfl [.ref x1, .int (nI L), .int (nI (a + nd0 t L br a m)), .int (nI (pB t L br a m)), .int (nI lf), .int (nI pl), .int (nI vl)] (by unfold pB; rw [hnd]; first | rw [if_pos c56] | rw [if_neg c56]) (w2 := [ob 4 x0 [.ref x1, .int (nI L), .int (nI (a + nd0 t L br a m)), .int (nI (pB t L br a m)), .int (nI lf), .int (nI pl), .int (nI vl)], ac E x1 60 t]) rfl ?_
          exact hret _ _ _ _ dX4_parseNumber_65 ⟨(congrArg nI (by rw [hnd, hz])), rfl⟩
      · skip
        refine g_iload_n F 3 dX4_parseNumber_11 rfl rfl ?_
        refine g_iload_n F 1 dX4_parseNumber_12 rfl rfl ?_
        refine g_icmp_geN (tgt := 55) F dX4_parseNumber_13 (by decide) (by omega) (by omega) (fun c13 => ?_) (fun c13 => ?_)
        · skip
          have hnd : nd0 t L br a m = i := by
            unfold nd0
            first
              | (rw [if_neg c8]; have := hb0; omega)
              | (rw [if_pos c8, nd_all m a i hi hk, nd_stop (Or.inl (by omega)), Nat.add_zero])
              | (rw [if_pos c8, nd_all m a i hi hk, nd_stop (Or.inr (fun h => c23 ((cur_isd ht).mpr h))), Nat.add_zero])
          refine g_iload_n F 3 dX4_parseNumber_55 rfl rfl ?_
          refine g_if_neN (tgt := 64) F dX4_parseNumber_56 (by decide) (by omega) (fun c56 => ?_) (fun c56 => ?_)
          · skip
            refine g_iload_n F 2 dX4_parseNumber_64 rfl rfl ?_
            refine g_obC 0 rfl [.ref x1, .int (nI L), .int (nI (a + nd0 t L br a m)), .int (nI (pB t L br a m)), .int (nI lf), .int (nI pl), .int (nI vl)] (by unfold pB; rw [hnd]; first | rw [if_pos c56] | rw [if_neg c56]) (w2 := [ob 4 x0 [.ref x1, .int (nI L), .int (nI (a + nd0 t L br a m)), .int (nI (pB t L br a m)), .int (nI lf), .int (nI pl), .int (nI vl)], ac E x1 60 t]) rfl ?_
            exact hret _ _ _ _ dX4_parseNumber_65 ⟨(congrArg nI (by rw [hnd, hz])), rfl⟩
          · skip
            refine g_aload_n F 0 dX4_parseNumber_59 rfl rfl ?_
            refine g_iconst (v := nI 1) F dX4_parseNumber_60 (by decide) ?_
            refine g_put F 0 3 dX4_parseNumber_61 rfl rfl (by decide) (by decide +kernel) (by decide +kernel) tyX4_ok nmX4 rfl (by decide +kernel) (by decide) (by decide) (Nat.le_of_ble_eq_true rfl) rfl (ty := .boolean) (w2 := [ob 4 x0 [.ref x1, .int (nI L), .int (nI (a + i)), .int (nI 1), .int (nI lf), .int (nI pl), .int (nI vl)], ac E x1 60 t]) rfl ?_
            refine g_iload_n F 2 dX4_parseNumber_64 rfl rfl ?_
            refine g_obC 0 rfl [.ref x1, .int (nI L), .int (nI (a + nd0 t L br a m)), .int (nI (pB t L br a m)), .int (nI lf), .int (nI pl), .int (nI vl)] (by unfold pB; rw [hnd]; first | rw [if_pos c56] | rw [if_neg c56]) (w2 := [ob 4 x0 [.ref x1, .int (nI L), .int (nI (a + nd0 t L br a m)), .int (nI (pB t L br a m)), .int (nI lf), .int (nI pl), .int (nI vl)], ac E x1 60 t]) rfl ?_
            exact hret _ _ _ _ dX4_parseNumber_65 ⟨(congrArg nI (by rw [hnd, hz])), rfl⟩
        · skip
          refine g_aload_n F 0 dX4_parseNumber_16 rfl rfl ?_
          refine g_callViR (n := 0) F [0, 1] (c_X4_current l E x0 x1 L (a + i) br lf pl vl t (by omega) (by omega)) dX4_parseNumber_17 rfl (by decide) rfl rfl rfl (Nat.le_of_ble_eq_true rfl) ⟨Nat.le_of_ble_eq_true rfl, Nat.le_of_ble_eq_true rfl⟩ rfl rfl ⟨Nat.le_of_ble_eq_true rfl, Nat.le_of_ble_eq_true rfl⟩ 0 rfl rfl gX4_parseNumber_X4_current (by decide +kernel) (fun r u hp => by obtain ⟨-, h⟩ := hp; exact h) ?_
          rintro r_17 u_17 ⟨rfl, -⟩
          refine g_callSiR (n := 1) F [] (c_X4_isDigit l E (cur t L (a + i)) ) dX4_parseNumber_20 rfl (by decide) rfl rfl rfl (Nat.le_of_ble_eq_true rfl) ⟨Nat.le_of_ble_eq_true rfl, Nat.le_of_ble_eq_true rfl⟩ rfl rfl ⟨Nat.le_of_ble_eq_true rfl, Nat.le_of_ble_eq_true rfl⟩ ggX4_parseNumber_X4_isDigit (by decide +kernel) (by decide +kernel) (by decide +kernel) (by decide +kernel) (fun r u hp => by obtain ⟨-, h⟩ := hp; exact h) ?_
          rintro r_20 u_20 ⟨rfl, -⟩
          refine g_if_eqB (tgt := 55) F dX4_parseNumber_23 (by decide) (fun c23 => ?_) (fun c23 => ?_)
          · skip
            have hnd : nd0 t L br a m = i := by
              unfold nd0
              first
                | (rw [if_neg c8]; have := hb0; omega)
                | (rw [if_pos c8, nd_all m a i hi hk, nd_stop (Or.inl (by omega)), Nat.add_zero])
                | (rw [if_pos c8, nd_all m a i hi hk, nd_stop (Or.inr (fun h => c23 ((cur_isd ht).mpr h))), Nat.add_zero])
            refine g_iload_n F 3 dX4_parseNumber_55 rfl rfl ?_
            refine g_if_neN (tgt := 64) F dX4_parseNumber_56 (by decide) (by omega) (fun c56 => ?_) (fun c56 => ?_)
            · skip
              refine g_iload_n F 2 dX4_parseNumber_64 rfl rfl ?_
              refine g_obC 0 rfl [.ref x1, .int (nI L), .int (nI (a + nd0 t L br a m)), .int (nI (pB t L br a m)), .int (nI lf), .int (nI pl), .int (nI vl)] (by unfold pB; rw [hnd]; first | rw [if_pos c56] | rw [if_neg c56]) (w2 := [ob 4 x0 [.ref x1, .int (nI L), .int (nI (a + nd0 t L br a m)), .int (nI (pB t L br a m)), .int (nI lf), .int (nI pl), .int (nI vl)], ac E x1 60 t]) rfl ?_
              exact hret _ _ _ _ dX4_parseNumber_65 ⟨(congrArg nI (by rw [hnd, hz])), rfl⟩
            · skip
              refine g_aload_n F 0 dX4_parseNumber_59 rfl rfl ?_
              refine g_iconst (v := nI 1) F dX4_parseNumber_60 (by decide) ?_
              refine g_put F 0 3 dX4_parseNumber_61 rfl rfl (by decide) (by decide +kernel) (by decide +kernel) tyX4_ok nmX4 rfl (by decide +kernel) (by decide) (by decide) (Nat.le_of_ble_eq_true rfl) rfl (ty := .boolean) (w2 := [ob 4 x0 [.ref x1, .int (nI L), .int (nI (a + i)), .int (nI 1), .int (nI lf), .int (nI pl), .int (nI vl)], ac E x1 60 t]) rfl ?_
              refine g_iload_n F 2 dX4_parseNumber_64 rfl rfl ?_
              refine g_obC 0 rfl [.ref x1, .int (nI L), .int (nI (a + nd0 t L br a m)), .int (nI (pB t L br a m)), .int (nI lf), .int (nI pl), .int (nI vl)] (by unfold pB; rw [hnd]; first | rw [if_pos c56] | rw [if_neg c56]) (w2 := [ob 4 x0 [.ref x1, .int (nI L), .int (nI (a + nd0 t L br a m)), .int (nI (pB t L br a m)), .int (nI lf), .int (nI pl), .int (nI vl)], ac E x1 60 t]) rfl ?_
              exact hret _ _ _ _ dX4_parseNumber_65 ⟨(congrArg nI (by rw [hnd, hz])), rfl⟩
          · skip
            have hcd := (cur_isd (L := L) (a := a + i) ht).mp c23
            have hzl : z < 10 ^ i := by rw [hz]; exact pv_lt i (fun k hk2 => (hk k hk2).2.2)
            have hzl2 : 10 ^ i ≤ 10 ^ 3 := Nat.pow_le_pow_right (by decide) (by omega)
            refine g_bipush (v := nI 10) F dX4_parseNumber_26 (by decide) ?_
            refine g_iload_n F 2 dX4_parseNumber_28 rfl rfl ?_
            refine g_imulN F dX4_parseNumber_29 ?_
            refine g_aload_n F 0 dX4_parseNumber_30 rfl rfl ?_
            refine g_callViR (n := 0) F [0, 1] (c_X4_current l E x0 x1 L (a + i) br lf pl vl t (by omega) (by omega)) dX4_parseNumber_31 rfl (by decide) rfl rfl rfl (Nat.le_of_ble_eq_true rfl) ⟨Nat.le_of_ble_eq_true rfl, Nat.le_of_ble_eq_true rfl⟩ rfl rfl ⟨Nat.le_of_ble_eq_true rfl, Nat.le_of_ble_eq_true rfl⟩ 0 rfl rfl gX4_parseNumber_X4_current (by decide +kernel) (fun r u hp => by obtain ⟨-, h⟩ := hp; exact h) ?_
            rintro r_31 u_31 ⟨rfl, -⟩
            refine g_bipush (v := nI 48) F dX4_parseNumber_34 (by decide) ?_
            refine g_isub F dX4_parseNumber_36 ?_
            refine g_top ((cur t L (a + i)) - (nI 48)) (nI (t (a + i) - 48)) (by unfold cur; rw [if_pos hcd.1, pk_sub hcd.2.1]) ?_
            refine g_iaddN F dX4_parseNumber_37 ?_
            refine g_istore_n (lv2 := [(2, .int (nI ((10 * z) + (t (a + i) - 48)))), (0, .ref x0), (1, .int (nI m)), (3, .int (nI i))]) F dX4_parseNumber_38 rfl (by decide) rfl ?_
            refine g_iinc (k := 3) (v := nI (i + 1)) (lv2 := [(3, .int (nI (i + 1))), (2, .int (nI ((10 * z) + (t (a + i) - 48)))), (0, .ref x0), (1, .int (nI m))]) F dX4_parseNumber_39 rfl (nI_1 _) (by decide) rfl ?_
            refine g_aload_n F 2 dX4_parseNumber_42 rfl rfl ?_
            refine g_dup F dX4_parseNumber_43 rfl ?_
            refine g_get F 0 2 dX4_parseNumber_44 rfl rfl (by decide) (by decide +kernel) (by decide +kernel) rfl ?_
            refine g_iconst (v := nI 1) F dX4_parseNumber_47 (by decide) ?_
            refine g_iaddN F dX4_parseNumber_48 ?_
            refine g_put F 0 2 dX4_parseNumber_49 rfl rfl (by decide) (by decide +kernel) (by decide +kernel) tyX4_ok nmX4 rfl (by decide +kernel) rfl rfl (Nat.le_of_ble_eq_true rfl) rfl (ty := .int) (w2 := [ob 4 x0 [.ref x1, .int (nI L), .int (nI ((a + i) + 1)), .int (nI br), .int (nI lf), .int (nI pl), .int (nI vl)], ac E x1 60 t]) rfl ?_
            refine g_goto (tgt := 4) F dX4_parseNumber_52 (by decide) ?_
            refine g_obC 0 rfl [.ref x1, .int (nI L), .int (nI (a + (i + 1))), .int (nI br), .int (nI lf), .int (nI pl), .int (nI vl)] (by rw [Nat.add_assoc]) (w2 := [ob 4 x0 [.ref x1, .int (nI L), .int (nI (a + (i + 1))), .int (nI br), .int (nI lf), .int (nI pl), .int (nI vl)], ac E x1 60 t]) rfl ?_
            refine g_lv [2, 3, 1, 0] rfl ?_
            exact ih4 (i + 1) ((10 * z) + (t (a + i) - 48)) (by omega) (by omega) (by rw [hz]; rfl) (by intro k hk2; by_cases h : k = i; (rw [h]; exact hcd); exact hk k (by omega)) (by intro _; exact c8) (by omega)
  refine g_lv [2, 3, 1, 0] rfl ?_
  exact loop4 ((4 - 0) + 1) 0 0 (Nat.lt_succ_self _) (by omega) (by rfl) (by intro k hk; omega) (by intro h; omega) (by omega)
