/-! what the leaves of the class do, over contents as functions of numbers -/
def BN (N : Nat → Nat) : Prop := ∀ j : Nat, N j < 65536
def BU (U : Nat → Nat) : Prop := ∀ j : Nat, U j ≤ 1
def rng (x : Int32) (n : Nat) : Prop := ¬ x < 0 ∧ ¬ nI n ≤ x
theorem rng_of {x : Int32} {n : Nat} (hn : n < 2 ^ 31) (h : rng x n) : ∃ k : Nat, k < n ∧ x = nI k := by
  rcases pk_ix x hn with h1 | h1 | h1
  · exact absurd h1 h.1
  · exact absurd h1 h.2
  · exact h1
theorem rng_nI {k n : Nat} (hn : n < 2 ^ 31) (hk : k < 2 ^ 31) : rng (nI k) n ↔ k < n := by
  unfold rng
  constructor
  · intro h
    exact Nat.not_le.mp (fun z => h.2 ((nI_leI hn hk).mpr z))
  · intro h
    exact ⟨nI_pos hk, fun z => absurd ((nI_leI hn hk).mp z) (Nat.not_le.mpr h)⟩
def sm (f : Nat → Nat) (s : Nat) : Nat := (4 * (f s) + 3 * (f (s + 1)) + 2 * (f (s + 2)) + (f (s + 3)) + 7) % 251
theorem sm_lt (f : Nat → Nat) (s : Nat) : sm f s < 251 := Nat.mod_lt _ (by decide)
def ch (l v : Nat) : Nat := if v = 0 then l / 4 else l % 4
def nu (N : Nat → Nat) (c b k : Nat) : Nat := N ((c * 96 + b) * 4 + k)
def pn (N : Nat → Nat) (c b k v : Nat) : Nat → Nat := up N ((c * 96 + b) * 4 + k) v
def al (N : Nat → Nat) (b : Nat) : Prop := ∀ k : Nat, k < 4 → nu N 0 b k = nu N 1 b k
def tk (N : Nat → Nat) (b s : Nat) : Nat := if 96 ≤ b then 2 else if sm N ((0 * 96 + b) * 4) = s then 0 else if sm N ((1 * 96 + b) * 4) = s then 1 else 2
theorem tk_le (N : Nat → Nat) (b s : Nat) : tk N b s ≤ 2 := by
  unfold tk; (repeat' split) <;> omega
def ad (U : Nat → Nat) (b : Nat) : Nat → Nat := if b < 96 then up U b 1 else U
def cn0 (U : Nat → Nat) : Nat → Nat
  | 0 => 0
  | i + 1 => cn0 U i + (if U i = 0 then 0 else 1)
theorem cn_ex : ∃ f : (Nat → Nat) → Nat → Nat, (∀ U, f U 0 = 0) ∧ ∀ U i, f U (i + 1) = f U i + (if U i = 0 then 0 else 1) := ⟨cn0, fun _ => rfl, fun _ _ => rfl⟩
noncomputable def cn : (Nat → Nat) → Nat → Nat := Classical.choose cn_ex
theorem cn_0 (U : Nat → Nat) : cn U 0 = 0 := (Classical.choose_spec cn_ex).1 U
theorem cn_s (U : Nat → Nat) (i : Nat) : cn U (i + 1) = cn U i + (if U i = 0 then 0 else 1) := (Classical.choose_spec cn_ex).2 U i
theorem cn_le (U : Nat → Nat) : ∀ i, cn U i ≤ i
  | 0 => by rw [cn_0]; exact Nat.le_refl 0
  | i + 1 => by have := cn_le U i; rw [cn_s]; split <;> omega
def cw0 (U V : Nat → Nat) : Nat → Nat
  | 0 => 0
  | i + 1 => cw0 U V i + (if U i = 0 then 0 else if V i = 0 then 1 else 0)
theorem cw_ex : ∃ f : (Nat → Nat) → (Nat → Nat) → Nat → Nat, (∀ U V, f U V 0 = 0) ∧ ∀ U V i, f U V (i + 1) = f U V i + (if U i = 0 then 0 else if V i = 0 then 1 else 0) := ⟨cw0, fun _ _ => rfl, fun _ _ _ => rfl⟩
noncomputable def cw : (Nat → Nat) → (Nat → Nat) → Nat → Nat := Classical.choose cw_ex
theorem cw_0 (U V : Nat → Nat) : cw U V 0 = 0 := (Classical.choose_spec cw_ex).1 U V
theorem cw_s (U V : Nat → Nat) (i : Nat) : cw U V (i + 1) = cw U V i + (if U i = 0 then 0 else if V i = 0 then 1 else 0) := (Classical.choose_spec cw_ex).2 U V i
theorem cw_le (U V : Nat → Nat) : ∀ i, cw U V i ≤ i
  | 0 => by rw [cw_0]; exact Nat.le_refl 0
  | i + 1 => by have := cw_le U V i; rw [cw_s]; (repeat' split) <;> omega
/-- the first place below n that holds 0, or n -/
def ff0 (U : Nat → Nat) : Nat → Nat
  | 0 => 0
  | n + 1 => if ff0 U n < n then ff0 U n else if U n = 0 then n else n + 1
theorem ff_ex : ∃ f : (Nat → Nat) → Nat → Nat, (∀ U, f U 0 = 0) ∧ ∀ U n, f U (n + 1) = if f U n < n then f U n else if U n = 0 then n else n + 1 := ⟨ff0, fun _ => rfl, fun _ _ => rfl⟩
noncomputable def ff : (Nat → Nat) → Nat → Nat := Classical.choose ff_ex
theorem ff_0 (U : Nat → Nat) : ff U 0 = 0 := (Classical.choose_spec ff_ex).1 U
theorem ff_s (U : Nat → Nat) (n : Nat) : ff U (n + 1) = if ff U n < n then ff U n else if U n = 0 then n else n + 1 := (Classical.choose_spec ff_ex).2 U n
theorem ff_le (U : Nat → Nat) : ∀ n, ff U n ≤ n
  | 0 => by rw [ff_0]; exact Nat.le_refl 0
  | n + 1 => by have := ff_le U n; rw [ff_s]; (repeat' split) <;> omega
theorem ff_is (U : Nat → Nat) {i : Nat} : ∀ n, i < n → U i = 0 → (∀ k, k < i → ¬ U k = 0) → ff U n = i := by
  intro n
  induction n with
  | zero => intro h; omega
  | succ n ih =>
    intro h hi hk
    by_cases hn : i < n
    · have := ih hn hi hk
      rw [ff_s, if_pos (by omega)]; exact this
    · have e : i = n := by omega
      subst e
      have h2 : ∀ m, m ≤ i → ff U m = m := by
        intro m
        induction m with
        | zero => intro _; exact ff_0 U
        | succ m ihm =>
          intro hm
          have := ihm (by omega)
          rw [ff_s, if_neg (by omega), if_neg (hk m (by omega))]
      rw [ff_s, if_neg (by rw [h2 i (Nat.le_refl i)]; omega), if_pos hi]
theorem ff_no (U : Nat → Nat) : ∀ n, (∀ k, k < n → ¬ U k = 0) → ff U n = n := by
  intro m
  induction m with
  | zero => intro _; exact ff_0 U
  | succ m ihm =>
    intro hk
    have := ihm (fun k h => hk k (by omega))
    rw [ff_s, if_neg (by omega), if_neg (hk m (by omega))]
noncomputable def lo (U : Nat → Nat) : Int32 := if ff U 96 < 96 then nI (ff U 96) else (-1)
def cpa (td : Nat) (Wc : Nat → Nat) (v : Nat) : Nat := if v < td then Wc v else 2
def wn (T : Nat → Nat) (v k : Nat) : Nat := T (v * 4 + k)
def ly (N : Nat → Nat) (c b : Nat) (T : Nat → Nat) (v : Nat) : Nat → (Nat → Nat)
  | 0 => N
  | k + 1 => pn (ly N c b T v k) c b k (wn T v k)
def shi (f : Nat → Nat) (i z : Nat) : Nat → Nat := fun j => if i < j ∧ j ≤ z then f (j - 1) else f j
def alt (f : Nat → Nat) (z v : Nat) : Nat → Nat := fun j => if j = 0 then v else if j ≤ z then f (j - 1) else f j
def rmi (f : Nat → Nat) (a h i : Nat) : Nat → Nat := fun j => if a ≤ j ∧ j + h < i then f (j + h) else f j
set_option maxHeartbeats 4000000 in
set_option maxRecDepth 100000 in
theorem c_X8_below (l : Launch) (E : En) (v : Nat) (e : Nat) (hv : v < 2 ^ 31) (he : e < 2 ^ 31) : CtI l yX8_below wsX8_below ({ frames := 0, cells := 0, slots := 0, locals := 0 } : Room) E [.int (nI v), .int (nI e)] [] (fun rr uu => rr = (bi (v < e)) ∧ uu = []) := by
  refine CtI.of cX8_below 2 RX8 .boolean rfl (by decide) rfl (Or.inr rfl) (Nat.le_of_ble_eq_true rfl) (fun _ r u hp => by obtain ⟨rfl, -⟩ := hp; exact bi_narrow _) ?_
  intro Γ F hret
  show G Γ E 0 0 0 [(0, .int (nI v)), (1, .int (nI e))] [] []
  refine g_iload_n F 0 dX8_below_0 rfl rfl ?_
  refine g_if_ltN F dX8_below_1 ⟨13, by decide⟩ (by omega) ?_
  refine g_iload_n F 0 dX8_below_4 rfl rfl ?_
  refine g_iload_n F 1 dX8_below_5 rfl rfl ?_
  refine g_icmp_geN (tgt := 13) F dX8_below_6 (by decide) (by omega) (by omega) (fun c6 => ?_) (fun c6 => ?_)
  · skip
    refine g_iconst (v := nI 0) F dX8_below_13 (by decide) ?_
    exact hret _ _ _ _ dX8_below_14 ⟨(bi_neg (by omega)).symm, rfl⟩
  · skip
    refine g_iconst (v := nI 1) F dX8_below_9 (by decide) ?_
    refine g_goto (tgt := 14) F dX8_below_10 (by decide) ?_
    exact hret _ _ _ _ dX8_below_14 ⟨(bi_pos (by omega)).symm, rfl⟩
set_option maxHeartbeats 4000000 in
set_option maxRecDepth 100000 in
theorem c_X8_below_x (l : Launch) (E : En) (x : Int32) (n : Nat)  : CtI l yX8_below wsX8_below ({ frames := 0, cells := 0, slots := 0, locals := 0 } : Room) E [.int (x), .int (nI n)] [] (fun rr uu => rr = (bi (rng x n)) ∧ uu = []) := by
  refine CtI.of cX8_below 2 RX8 .boolean rfl (by decide) rfl (Or.inr rfl) (Nat.le_of_ble_eq_true rfl) (fun _ r u hp => by obtain ⟨rfl, -⟩ := hp; exact bi_narrow _) ?_
  intro Γ F hret
  show G Γ E 0 0 0 [(0, .int (x)), (1, .int (nI n))] [] []
  refine g_iload_n F 0 dX8_below_0 rfl rfl ?_
  refine g_if_lt (tgt := 13) F dX8_below_1 (by decide) (fun c1 => ?_) (fun c1 => ?_)
  · skip
    refine g_iconst (v := nI 0) F dX8_below_13 (by decide) ?_
    exact hret _ _ _ _ dX8_below_14 ⟨(bi_neg (by first | exact fun h => h.1 c1 | exact fun h => h.2 c6)).symm, rfl⟩
  · skip
    refine g_iload_n F 0 dX8_below_4 rfl rfl ?_
    refine g_iload_n F 1 dX8_below_5 rfl rfl ?_
    refine g_icmp_ge (tgt := 13) F dX8_below_6 (by decide) (fun c6 => ?_) (fun c6 => ?_)
    · skip
      refine g_iconst (v := nI 0) F dX8_below_13 (by decide) ?_
      exact hret _ _ _ _ dX8_below_14 ⟨(bi_neg (by first | exact fun h => h.1 c1 | exact fun h => h.2 c6)).symm, rfl⟩
    · skip
      refine g_iconst (v := nI 1) F dX8_below_9 (by decide) ?_
      refine g_goto (tgt := 14) F dX8_below_10 (by decide) ?_
      exact hret _ _ _ _ dX8_below_14 ⟨(bi_pos (by exact ⟨c1, c6⟩)).symm, rfl⟩
set_option maxHeartbeats 4000000 in
set_option maxRecDepth 100000 in
theorem c_X8_sumFrom (l : Launch) (E : En) (h1 : Nat) (n : Nat) (f : Nat → Nat) (s : Nat) (hn : s + 4 ≤ n) (hn2 : n < 1000) (hb0 : f s < 65536) (hb1 : f (s + 1) < 65536) (hb2 : f (s + 2) < 65536) (hb3 : f (s + 3) < 65536) : CtI l yX8_sumFrom wsX8_sumFrom ({ frames := 0, cells := 0, slots := 0, locals := 0 } : Room) E [.ref h1, .int (nI s)] [ai E h1 n f] (fun rr uu => rr = (nI (sm f s)) ∧ uu = [ai E h1 n f]) := by
  refine CtI.of cX8_sumFrom 2 RX8 .int rfl (by decide) rfl (Or.inl rfl) (Nat.le_of_ble_eq_true rfl) (fun h => by cases h) ?_
  intro Γ F hret
  show G Γ E 0 0 0 [(0, .ref h1), (1, .int (nI s))] [] [ai E h1 n f]
  refine g_iload_n F 1 dX8_sumFrom_0 rfl rfl ?_
  refine g_if_ltN F dX8_sumFrom_1 ⟨12, by decide⟩ (by omega) ?_
  refine g_iload_n F 1 dX8_sumFrom_4 rfl rfl ?_
  refine g_aload_n F 0 dX8_sumFrom_5 rfl rfl ?_
  refine g_alen F 0 dX8_sumFrom_6 rfl ?_
  refine g_iconst (v := nI 4) F dX8_sumFrom_7 (by decide) ?_
  refine g_isubN F dX8_sumFrom_8 (by omega) ?_
  refine g_icmp_leN (tgt := 14) F dX8_sumFrom_9 (by decide) (by omega) (by omega) (fun c9 => ?_) (fun c9 => ?_)
  · skip
    refine g_iconst (v := nI 4) F dX8_sumFrom_14 (by decide) ?_
    refine g_aload_n F 0 dX8_sumFrom_15 rfl rfl ?_
    refine g_iload_n F 1 dX8_sumFrom_16 rfl rfl ?_
    refine g_iald F 0 dX8_sumFrom_17 rfl (by omega) (by omega) ?_
    refine g_imulN F dX8_sumFrom_18 ?_
    refine g_iconst (v := nI 3) F dX8_sumFrom_19 (by decide) ?_
    refine g_aload_n F 0 dX8_sumFrom_20 rfl rfl ?_
    refine g_iload_n F 1 dX8_sumFrom_21 rfl rfl ?_
    refine g_iconst (v := nI 1) F dX8_sumFrom_22 (by decide) ?_
    refine g_iaddN F dX8_sumFrom_23 ?_
    refine g_iald F 0 dX8_sumFrom_24 rfl (by omega) (by omega) ?_
    refine g_imulN F dX8_sumFrom_25 ?_
    refine g_iaddN F dX8_sumFrom_26 ?_
    refine g_iconst (v := nI 2) F dX8_sumFrom_27 (by decide) ?_
    refine g_aload_n F 0 dX8_sumFrom_28 rfl rfl ?_
    refine g_iload_n F 1 dX8_sumFrom_29 rfl rfl ?_
    refine g_iconst (v := nI 2) F dX8_sumFrom_30 (by decide) ?_
    refine g_iaddN F dX8_sumFrom_31 ?_
    refine g_iald F 0 dX8_sumFrom_32 rfl (by omega) (by omega) ?_
    refine g_imulN F dX8_sumFrom_33 ?_
    refine g_iaddN F dX8_sumFrom_34 ?_
    refine g_aload_n F 0 dX8_sumFrom_35 rfl rfl ?_
    refine g_iload_n F 1 dX8_sumFrom_36 rfl rfl ?_
    refine g_iconst (v := nI 3) F dX8_sumFrom_37 (by decide) ?_
    refine g_iaddN F dX8_sumFrom_38 ?_
    refine g_iald F 0 dX8_sumFrom_39 rfl (by omega) (by omega) ?_
    refine g_iaddN F dX8_sumFrom_40 ?_
    refine g_bipush (v := nI 7) F dX8_sumFrom_41 (by decide) ?_
    refine g_iaddN F dX8_sumFrom_43 ?_
    refine g_sipush (v := nI 251) F dX8_sumFrom_44 (by decide) ?_
    refine g_iremN F dX8_sumFrom_47 (by omega) (by decide) (by decide) ?_
    exact hret _ _ _ _ dX8_sumFrom_48 ⟨(congrArg nI (by rfl)), rfl⟩
  · skip
    exact absurd c9 (by omega)
set_option maxHeartbeats 4000000 in
set_option maxRecDepth 100000 in
theorem c_X8_childTowards (l : Launch) (E : En) (l0 : Nat) (v : Nat) (hl : l0 < 16) (hv : v < 3) : CtI l yX8_childTowards wsX8_childTowards ({ frames := 0, cells := 0, slots := 0, locals := 0 } : Room) E [.int (nI l0), .int (nI v)] [] (fun rr uu => rr = (nI (ch l0 v)) ∧ uu = []) := by
  refine CtI.of cX8_childTowards 2 RX8 .int rfl (by decide) rfl (Or.inl rfl) (Nat.le_of_ble_eq_true rfl) (fun h => by cases h) ?_
  intro Γ F hret
  show G Γ E 0 0 0 [(0, .int (nI l0)), (1, .int (nI v))] [] []
  refine g_iload_n F 1 dX8_childTowards_0 rfl rfl ?_
  refine g_if_neN (tgt := 10) F dX8_childTowards_1 (by decide) (by omega) (fun c1 => ?_) (fun c1 => ?_)
  · skip
    refine g_iload_n F 0 dX8_childTowards_10 rfl rfl ?_
    refine g_iconst (v := nI 4) F dX8_childTowards_11 (by decide) ?_
    refine g_iremN F dX8_childTowards_12 (by omega) (by decide) (by decide) ?_
    exact hret _ _ _ _ dX8_childTowards_13 ⟨(congrArg nI (by unfold ch; simp [c1])), rfl⟩
  · skip
    refine g_iload_n F 0 dX8_childTowards_4 rfl rfl ?_
    refine g_iconst (v := nI 4) F dX8_childTowards_5 (by decide) ?_
    refine g_idivN F dX8_childTowards_6 (by omega) (by decide) (by decide) ?_
    refine g_goto (tgt := 13) F dX8_childTowards_7 (by decide) ?_
    exact hret _ _ _ _ dX8_childTowards_13 ⟨(congrArg nI (by unfold ch; simp [c1])), rfl⟩
set_option maxHeartbeats 4000000 in
set_option maxRecDepth 100000 in
theorem c_X0_clear (l : Launch) (E : En) (h0 : Nat) (h1 : Nat) (U : Nat → Nat)  : CtV l yX0_clear wsX0_clear ({ frames := 0, cells := 0, slots := 0, locals := 0 } : Room) E [.ref h0] [ob 0 h0 [.ref h1], az E h1 96 U] (fun uu => uu = [ob 0 h0 [.ref h1], az E h1 96 (fun _ => 0)]) := by
  refine CtV.of cX0_clear 2 RX0 rfl (by decide) rfl (Nat.le_of_ble_eq_true rfl) ?_
  intro Γ F hin0 hret
  show G Γ E 0 0 0 [(0, .ref h0)] [] [ob 0 h0 [.ref h1], az E h1 96 U]
  refine g_iconst (v := nI 0) F dX0_clear_0 (by decide) ?_
  refine g_istore_n (lv2 := [(1, .int (nI 0)), (0, .ref h0)]) F dX0_clear_1 rfl (by decide) rfl ?_
  have loop2 : ∀ (n : Nat) (i : Nat) (V : Nat → Nat), 96 - i < n → (i ≤ 96) → (∀ j, j < i → V j = 0) → G Γ E (0) (0) 2 [(0, .ref h0), (1, .int (nI i))] [] [ob 0 h0 [.ref h1], az E h1 96 V] := by
    intro n
    induction n with
    | zero => intro i V hz; exact absurd hz (Nat.not_lt_zero _)
    | succ n ih2 =>
      intro i V hz2 hi hV
      refine g_iload_n F 1 dX0_clear_2 rfl rfl ?_
      refine g_bipush (v := nI 96) F dX0_clear_3 (by decide) ?_
      refine g_icmp_geN (tgt := 21) F dX0_clear_5 (by decide) (by omega) (by omega) (fun c5 => ?_) (fun c5 => ?_)
      · skip
        refine g_azC 1 rfl (fun _ => 0) (by intro j hj; exact hV j (by omega)) (w2 := [ob 0 h0 [.ref h1], az E h1 96 (fun _ => 0)]) rfl ?_
        exact hret _ _ _ dX0_clear_21 rfl
      · skip
        refine g_aload_n F 0 dX0_clear_8 rfl rfl ?_
        refine g_get F 0 0 dX0_clear_9 rfl rfl (by decide) (by decide +kernel) (by decide +kernel) rfl ?_
        refine g_iload_n F 1 dX0_clear_12 rfl rfl ?_
        refine g_iconst (v := nI 0) F dX0_clear_13 (by decide) ?_
        refine g_zast F 1 dX0_clear_14 rfl (by omega) (by decide) (by decide) (w2 := [ob 0 h0 [.ref h1], az E h1 96 (up V i 0)]) rfl ?_
        refine g_iinc (k := 1) (v := nI (i + 1)) (lv2 := [(1, .int (nI (i + 1))), (0, .ref h0)]) F dX0_clear_15 rfl (nI_1 _) (by decide) rfl ?_
        refine g_goto (tgt := 2) F dX0_clear_18 (by decide) ?_
        refine g_lv [1, 0] rfl ?_
        exact ih2 (i + 1) (up V i 0) (by omega) (by omega) (by intro j hj; by_cases h : j = i; (rw [h]; exact up_s V i 0); (rw [up_n V 0 h]; exact hV j (by omega)))
  refine g_lv [1, 0] rfl ?_
  exact loop2 ((96 - 0) + 1) 0 U (Nat.lt_succ_self _) (by omega) (by intro j hj; omega)
set_option maxHeartbeats 4000000 in
set_option maxRecDepth 100000 in
theorem c_X0_add (l : Launch) (E : En) (h0 : Nat) (h1 : Nat) (U : Nat → Nat) (b : Nat) (hb : b < 2 ^ 31) : CtV l yX0_add wsX0_add ({ frames := 1, cells := 0, slots := 0, locals := 21 } : Room) E [.ref h0, .int (nI b)] [ob 0 h0 [.ref h1], az E h1 96 U] (fun uu => uu = [ob 0 h0 [.ref h1], az E h1 96 (ad U b)]) := by
  refine CtV.of cX0_add 2 RX0 rfl (by decide) rfl (Nat.le_of_ble_eq_true rfl) ?_
  intro Γ F hin0 hret
  show G Γ E 0 0 0 [(0, .ref h0), (1, .int (nI b))] [] [ob 0 h0 [.ref h1], az E h1 96 U]
  refine g_iload_n F 1 dX0_add_0 rfl rfl ?_
  refine g_bipush (v := nI 96) F dX0_add_1 (by decide) ?_
  refine g_callSNiR (n := 2) F [] (c_X8_below l E b 96 (by omega) (by omega)) dX0_add_3 rfl (by decide) rfl rfl rfl (Nat.le_of_ble_eq_true rfl) ⟨Nat.le_of_ble_eq_true rfl, Nat.le_of_ble_eq_true rfl⟩ rfl rfl ⟨Nat.le_of_ble_eq_true rfl, Nat.le_of_ble_eq_true rfl⟩ (host := "SummedParents") ggX0_add_X8_below (by decide +kernel) (by decide +kernel) (by decide +kernel) (by decide +kernel) (fun r u hp => by obtain ⟨-, h⟩ := hp; exact h) ?_
  rintro r_3 u_3 ⟨rfl, -⟩
  refine g_if_eqB (tgt := 16) F dX0_add_6 (by decide) (fun c6 => ?_) (fun c6 => ?_)
  · skip
    exact hret _ _ _ dX0_add_16 (by first | rw [show ad U b = up U b 1 from if_pos c6] | rw [show ad U b = U from if_neg c6])
  · skip
    refine g_aload_n F 0 dX0_add_9 rfl rfl ?_
    refine g_get F 0 0 dX0_add_10 rfl rfl (by decide) (by decide +kernel) (by decide +kernel) rfl ?_
    refine g_iload_n F 1 dX0_add_13 rfl rfl ?_
    refine g_iconst (v := nI 1) F dX0_add_14 (by decide) ?_
    refine g_zast F 1 dX0_add_15 rfl (by omega) (by decide) (by decide) (w2 := [ob 0 h0 [.ref h1], az E h1 96 (up U b 1)]) rfl ?_
    exact hret _ _ _ dX0_add_16 (by first | rw [show ad U b = up U b 1 from if_pos c6] | rw [show ad U b = U from if_neg c6])
set_option maxHeartbeats 4000000 in
set_option maxRecDepth 100000 in
theorem c_X0_holds (l : Launch) (E : En) (h0 : Nat) (h1 : Nat) (U : Nat → Nat) (b : Nat) (hb : b < 2 ^ 31) (hU : BU U) : CtI l yX0_holds wsX0_holds ({ frames := 1, cells := 0, slots := 0, locals := 21 } : Room) E [.ref h0, .int (nI b)] [ob 0 h0 [.ref h1], az E h1 96 U] (fun rr uu => rr = (bi (b < 96 ∧ ¬ U b = 0)) ∧ uu = [ob 0 h0 [.ref h1], az E h1 96 U]) := by
  refine CtI.of cX0_holds 2 RX0 .boolean rfl (by decide) rfl (Or.inr rfl) (Nat.le_of_ble_eq_true rfl) (fun _ r u hp => by obtain ⟨rfl, -⟩ := hp; exact bi_narrow _) ?_
  intro Γ F hret
  show G Γ E 0 0 0 [(0, .ref h0), (1, .int (nI b))] [] [ob 0 h0 [.ref h1], az E h1 96 U]
  refine g_iload_n F 1 dX0_holds_0 rfl rfl ?_
  refine g_bipush (v := nI 96) F dX0_holds_1 (by decide) ?_
  refine g_callSNiR (n := 2) F [] (c_X8_below l E b 96 (by omega) (by omega)) dX0_holds_3 rfl (by decide) rfl rfl rfl (Nat.le_of_ble_eq_true rfl) ⟨Nat.le_of_ble_eq_true rfl, Nat.le_of_ble_eq_true rfl⟩ rfl rfl ⟨Nat.le_of_ble_eq_true rfl, Nat.le_of_ble_eq_true rfl⟩ (host := "SummedParents") ggX0_holds_X8_below (by decide +kernel) (by decide +kernel) (by decide +kernel) (by decide +kernel) (fun r u hp => by obtain ⟨-, h⟩ := hp; exact h) ?_
  rintro r_3 u_3 ⟨rfl, -⟩
  refine g_if_eqB (tgt := 22) F dX0_holds_6 (by decide) (fun c6 => ?_) (fun c6 => ?_)
  · skip
    refine g_iconst (v := nI 0) F dX0_holds_22 (by decide) ?_
    exact hret _ _ _ _ dX0_holds_23 ⟨(bi_neg (by omega)).symm, rfl⟩
  · skip
    refine g_aload_n F 0 dX0_holds_9 rfl rfl ?_
    refine g_get F 0 0 dX0_holds_10 rfl rfl (by decide) (by decide +kernel) (by decide +kernel) rfl ?_
    refine g_iload_n F 1 dX0_holds_13 rfl rfl ?_
    refine g_zald F 1 dX0_holds_14 rfl (by omega) (by decide) ?_
    refine g_if_eqN (tgt := 22) F dX0_holds_15 (by decide) (by exact Nat.lt_of_le_of_lt (hU b) (by decide)) (fun c15 => ?_) (fun c15 => ?_)
    · skip
      refine g_iconst (v := nI 0) F dX0_holds_22 (by decide) ?_
      exact hret _ _ _ _ dX0_holds_23 ⟨(bi_neg (by omega)).symm, rfl⟩
    · skip
      refine g_iconst (v := nI 1) F dX0_holds_18 (by decide) ?_
      refine g_goto (tgt := 23) F dX0_holds_19 (by decide) ?_
      exact hret _ _ _ _ dX0_holds_23 ⟨(bi_pos (by omega)).symm, rfl⟩
set_option maxHeartbeats 4000000 in
set_option maxRecDepth 100000 in
theorem c_X0_size (l : Launch) (E : En) (h0 : Nat) (h1 : Nat) (U : Nat → Nat) (hU : BU U) : CtI l yX0_size wsX0_size ({ frames := 0, cells := 0, slots := 0, locals := 0 } : Room) E [.ref h0] [ob 0 h0 [.ref h1], az E h1 96 U] (fun rr uu => rr = (nI (cn U 96)) ∧ uu = [ob 0 h0 [.ref h1], az E h1 96 U]) := by
  refine CtI.of cX0_size 3 RX0 .int rfl (by decide) rfl (Or.inl rfl) (Nat.le_of_ble_eq_true rfl) (fun h => by cases h) ?_
  intro Γ F hret
  show G Γ E 0 0 0 [(0, .ref h0)] [] [ob 0 h0 [.ref h1], az E h1 96 U]
  refine g_iconst (v := nI 0) F dX0_size_0 (by decide) ?_
  refine g_istore_n (lv2 := [(1, .int (nI 0)), (0, .ref h0)]) F dX0_size_1 rfl (by decide) rfl ?_
  refine g_iconst (v := nI 0) F dX0_size_2 (by decide) ?_
  refine g_istore_n (lv2 := [(2, .int (nI 0)), (1, .int (nI 0)), (0, .ref h0)]) F dX0_size_3 rfl (by decide) rfl ?_
  have loop4 : ∀ (n : Nat) (i : Nat) (z : Nat), 96 - i < n → (i ≤ 96) → (z = cn U i) → G Γ E (0) (0) 4 [(0, .ref h0), (1, .int (nI z)), (2, .int (nI i))] [] [ob 0 h0 [.ref h1], az E h1 96 U] := by
    intro n
    induction n with
    | zero => intro i z hz; exact absurd hz (Nat.not_lt_zero _)
    | succ n ih4 =>
      intro i z hz4 hi hz
      refine g_iload_n F 2 dX0_size_4 rfl rfl ?_
      refine g_bipush (v := nI 96) F dX0_size_5 (by decide) ?_
      refine g_icmp_geN (tgt := 33) F dX0_size_7 (by decide) (by omega) (by omega) (fun c7 => ?_) (fun c7 => ?_)
      · skip
        refine g_iload_n F 1 dX0_size_33 rfl rfl ?_
        exact hret _ _ _ _ dX0_size_34 ⟨(congrArg nI (by rw [hz, show i = 96 by omega])), rfl⟩
      · skip
        refine g_iload_n F 1 dX0_size_10 rfl rfl ?_
        refine g_aload_n F 0 dX0_size_11 rfl rfl ?_
        refine g_get F 0 0 dX0_size_12 rfl rfl (by decide) (by decide +kernel) (by decide +kernel) rfl ?_
        refine g_iload_n F 2 dX0_size_15 rfl rfl ?_
        refine g_zald F 1 dX0_size_16 rfl (by omega) (by decide) ?_
        refine g_if_eqN (tgt := 24) F dX0_size_17 (by decide) (by exact Nat.lt_of_le_of_lt (hU i) (by decide)) (fun c17 => ?_) (fun c17 => ?_)
        · skip
          refine g_iconst (v := nI 0) F dX0_size_24 (by decide) ?_
          refine g_iaddN F dX0_size_25 ?_
          refine g_istore_n (lv2 := [(1, .int (nI (z + 0))), (0, .ref h0), (2, .int (nI i))]) F dX0_size_26 rfl (by decide) rfl ?_
          refine g_iinc (k := 2) (v := nI (i + 1)) (lv2 := [(2, .int (nI (i + 1))), (1, .int (nI (z + 0))), (0, .ref h0)]) F dX0_size_27 rfl (nI_1 _) (by decide) rfl ?_
          refine g_goto (tgt := 4) F dX0_size_30 (by decide) ?_
          refine g_lv [2, 1, 0] rfl ?_
          exact ih4 (i + 1) (z + 0) (by omega) (by omega) (by rw [cn_s]; simp [hz, c17])
        · skip
          refine g_iconst (v := nI 1) F dX0_size_20 (by decide) ?_
          refine g_goto (tgt := 25) F dX0_size_21 (by decide) ?_
          refine g_iaddN F dX0_size_25 ?_
          refine g_istore_n (lv2 := [(1, .int (nI (z + 1))), (0, .ref h0), (2, .int (nI i))]) F dX0_size_26 rfl (by decide) rfl ?_
          refine g_iinc (k := 2) (v := nI (i + 1)) (lv2 := [(2, .int (nI (i + 1))), (1, .int (nI (z + 1))), (0, .ref h0)]) F dX0_size_27 rfl (nI_1 _) (by decide) rfl ?_
          refine g_goto (tgt := 4) F dX0_size_30 (by decide) ?_
          refine g_lv [2, 1, 0] rfl ?_
          exact ih4 (i + 1) (z + 1) (by omega) (by omega) (by rw [cn_s]; simp [hz, c17])
  refine g_lv [2, 1, 0] rfl ?_
  exact loop4 ((96 - 0) + 1) 0 0 (Nat.lt_succ_self _) (by omega) (by rw [cn_0])
set_option maxHeartbeats 4000000 in
set_option maxRecDepth 100000 in
theorem c_X0_sizeWithout (l : Launch) (E : En) (h0 : Nat) (h1 : Nat) (U : Nat → Nat) (g0 : Nat) (g1 : Nat) (V : Nat → Nat) (hU : BU U) (hV : BU V) : CtI l yX0_sizeWithout wsX0_sizeWithout ({ frames := 0, cells := 0, slots := 0, locals := 0 } : Room) E [.ref h0, .ref g0] [ob 0 h0 [.ref h1], az E h1 96 U, ob 0 g0 [.ref g1], az E g1 96 V] (fun rr uu => rr = (nI (cw U V 96)) ∧ uu = [ob 0 h0 [.ref h1], az E h1 96 U, ob 0 g0 [.ref g1], az E g1 96 V]) := by
  refine CtI.of cX0_sizeWithout 4 RX0 .int rfl (by decide) rfl (Or.inl rfl) (Nat.le_of_ble_eq_true rfl) (fun h => by cases h) ?_
  intro Γ F hret
  show G Γ E 0 0 0 [(0, .ref h0), (1, .ref g0)] [] [ob 0 h0 [.ref h1], az E h1 96 U, ob 0 g0 [.ref g1], az E g1 96 V]
  refine g_iconst (v := nI 0) F dX0_sizeWithout_0 (by decide) ?_
  refine g_istore_n (lv2 := [(2, .int (nI 0)), (0, .ref h0), (1, .ref g0)]) F dX0_sizeWithout_1 rfl (by decide) rfl ?_
  refine g_iconst (v := nI 0) F dX0_sizeWithout_2 (by decide) ?_
  refine g_istore_n (lv2 := [(3, .int (nI 0)), (2, .int (nI 0)), (0, .ref h0), (1, .ref g0)]) F dX0_sizeWithout_3 rfl (by decide) rfl ?_
  have loop4 : ∀ (n : Nat) (i : Nat) (z : Nat), 96 - i < n → (i ≤ 96) → (z = cw U V i) → G Γ E (0) (0) 4 [(0, .ref h0), (1, .ref g0), (2, .int (nI z)), (3, .int (nI i))] [] [ob 0 h0 [.ref h1], az E h1 96 U, ob 0 g0 [.ref g1], az E g1 96 V] := by
    intro n
    induction n with
    | zero => intro i z hz; exact absurd hz (Nat.not_lt_zero _)
    | succ n ih4 =>
      intro i z hz4 hi hz
      refine g_iload_n F 3 dX0_sizeWithout_4 rfl rfl ?_
      refine g_bipush (v := nI 96) F dX0_sizeWithout_5 (by decide) ?_
      refine g_icmp_geN (tgt := 42) F dX0_sizeWithout_7 (by decide) (by omega) (by omega) (fun c7 => ?_) (fun c7 => ?_)
      · skip
        refine g_iload_n F 2 dX0_sizeWithout_42 rfl rfl ?_
        exact hret _ _ _ _ dX0_sizeWithout_43 ⟨(congrArg nI (by rw [hz, show i = 96 by omega])), rfl⟩
      · skip
        refine g_iload_n F 2 dX0_sizeWithout_10 rfl rfl ?_
        refine g_aload_n F 0 dX0_sizeWithout_11 rfl rfl ?_
        refine g_get F 0 0 dX0_sizeWithout_12 rfl rfl (by decide) (by decide +kernel) (by decide +kernel) rfl ?_
        refine g_iload_n F 3 dX0_sizeWithout_15 rfl rfl ?_
        refine g_zald F 1 dX0_sizeWithout_16 rfl (by omega) (by decide) ?_
        refine g_if_eqN (tgt := 33) F dX0_sizeWithout_17 (by decide) (by exact Nat.lt_of_le_of_lt (hU i) (by decide)) (fun c17 => ?_) (fun c17 => ?_)
        · skip
          refine g_iconst (v := nI 0) F dX0_sizeWithout_33 (by decide) ?_
          refine g_iaddN F dX0_sizeWithout_34 ?_
          refine g_istore_n (lv2 := [(2, .int (nI (z + 0))), (0, .ref h0), (1, .ref g0), (3, .int (nI i))]) F dX0_sizeWithout_35 rfl (by decide) rfl ?_
          refine g_iinc (k := 3) (v := nI (i + 1)) (lv2 := [(3, .int (nI (i + 1))), (2, .int (nI (z + 0))), (0, .ref h0), (1, .ref g0)]) F dX0_sizeWithout_36 rfl (nI_1 _) (by decide) rfl ?_
          refine g_goto (tgt := 4) F dX0_sizeWithout_39 (by decide) ?_
          refine g_lv [2, 3, 1, 0] rfl ?_
          exact ih4 (i + 1) (z + 0) (by omega) (by omega) (by rw [cw_s]; first | simp [hz, c17, c26] | simp [hz, c17])
        · skip
          refine g_aload_n F 1 dX0_sizeWithout_20 rfl rfl ?_
          refine g_get F 2 0 dX0_sizeWithout_21 rfl rfl (by decide) (by decide +kernel) (by decide +kernel) rfl ?_
          refine g_iload_n F 3 dX0_sizeWithout_24 rfl rfl ?_
          refine g_zald F 3 dX0_sizeWithout_25 rfl (by omega) (by decide) ?_
          refine g_if_neN (tgt := 33) F dX0_sizeWithout_26 (by decide) (by exact Nat.lt_of_le_of_lt (hV i) (by decide)) (fun c26 => ?_) (fun c26 => ?_)
          · skip
            refine g_iconst (v := nI 0) F dX0_sizeWithout_33 (by decide) ?_
            refine g_iaddN F dX0_sizeWithout_34 ?_
            refine g_istore_n (lv2 := [(2, .int (nI (z + 0))), (0, .ref h0), (1, .ref g0), (3, .int (nI i))]) F dX0_sizeWithout_35 rfl (by decide) rfl ?_
            refine g_iinc (k := 3) (v := nI (i + 1)) (lv2 := [(3, .int (nI (i + 1))), (2, .int (nI (z + 0))), (0, .ref h0), (1, .ref g0)]) F dX0_sizeWithout_36 rfl (nI_1 _) (by decide) rfl ?_
            refine g_goto (tgt := 4) F dX0_sizeWithout_39 (by decide) ?_
            refine g_lv [2, 3, 1, 0] rfl ?_
            exact ih4 (i + 1) (z + 0) (by omega) (by omega) (by rw [cw_s]; first | simp [hz, c17, c26] | simp [hz, c17])
          · skip
            refine g_iconst (v := nI 1) F dX0_sizeWithout_29 (by decide) ?_
            refine g_goto (tgt := 34) F dX0_sizeWithout_30 (by decide) ?_
            refine g_iaddN F dX0_sizeWithout_34 ?_
            refine g_istore_n (lv2 := [(2, .int (nI (z + 1))), (0, .ref h0), (1, .ref g0), (3, .int (nI i))]) F dX0_sizeWithout_35 rfl (by decide) rfl ?_
            refine g_iinc (k := 3) (v := nI (i + 1)) (lv2 := [(3, .int (nI (i + 1))), (2, .int (nI (z + 1))), (0, .ref h0), (1, .ref g0)]) F dX0_sizeWithout_36 rfl (nI_1 _) (by decide) rfl ?_
            refine g_goto (tgt := 4) F dX0_sizeWithout_39 (by decide) ?_
            refine g_lv [2, 3, 1, 0] rfl ?_
            exact ih4 (i + 1) (z + 1) (by omega) (by omega) (by rw [cw_s]; first | simp [hz, c17, c26] | simp [hz, c17])
  refine g_lv [2, 3, 1, 0] rfl ?_
  exact loop4 ((96 - 0) + 1) 0 0 (Nat.lt_succ_self _) (by omega) (by rw [cw_0])
set_option maxHeartbeats 4000000 in
set_option maxRecDepth 100000 in
theorem c_X0_lowestOutside (l : Launch) (E : En) (h0 : Nat) (h1 : Nat) (U : Nat → Nat) (hU : BU U) : CtI l yX0_lowestOutside wsX0_lowestOutside ({ frames := 0, cells := 0, slots := 0, locals := 0 } : Room) E [.ref h0] [ob 0 h0 [.ref h1], az E h1 96 U] (fun rr uu => rr = (lo U) ∧ uu = [ob 0 h0 [.ref h1], az E h1 96 U]) := by
  refine CtI.of cX0_lowestOutside 2 RX0 .int rfl (by decide) rfl (Or.inl rfl) (Nat.le_of_ble_eq_true rfl) (fun h => by cases h) ?_
  intro Γ F hret
  show G Γ E 0 0 0 [(0, .ref h0)] [] [ob 0 h0 [.ref h1], az E h1 96 U]
  refine g_iconst (v := nI 0) F dX0_lowestOutside_0 (by decide) ?_
  refine g_istore_n (lv2 := [(1, .int (nI 0)), (0, .ref h0)]) F dX0_lowestOutside_1 rfl (by decide) rfl ?_
  have loop2 : ∀ (n : Nat) (i : Nat), 96 - i < n → (i ≤ 96) → (∀ k, k < i → ¬ U k = 0) → G Γ E (0) (0) 2 [(0, .ref h0), (1, .int (nI i))] [] [ob 0 h0 [.ref h1], az E h1 96 U] := by
    intro n
    induction n with
    | zero => intro i hz; exact absurd hz (Nat.not_lt_zero _)
    | succ n ih2 =>
      intro i hz2 hi hk
      refine g_iload_n F 1 dX0_lowestOutside_2 rfl rfl ?_
      refine g_bipush (v := nI 96) F dX0_lowestOutside_3 (by decide) ?_
      refine g_icmp_geN (tgt := 25) F dX0_lowestOutside_5 (by decide) (by omega) (by omega) (fun c5 => ?_) (fun c5 => ?_)
      · skip
        refine g_iconst (v := (-1)) F dX0_lowestOutside_25 (by decide) ?_
        exact hret _ _ _ _ dX0_lowestOutside_26 ⟨(by unfold lo; rw [ff_no U 96 (fun k h => hk k (by omega)), if_neg (by omega)]), rfl⟩
      · skip
        refine g_aload_n F 0 dX0_lowestOutside_8 rfl rfl ?_
        refine g_get F 0 0 dX0_lowestOutside_9 rfl rfl (by decide) (by decide +kernel) (by decide +kernel) rfl ?_
        refine g_iload_n F 1 dX0_lowestOutside_12 rfl rfl ?_
        refine g_zald F 1 dX0_lowestOutside_13 rfl (by omega) (by decide) ?_
        refine g_if_neN (tgt := 19) F dX0_lowestOutside_14 (by decide) (by exact Nat.lt_of_le_of_lt (hU i) (by decide)) (fun c14 => ?_) (fun c14 => ?_)
        · skip
          refine g_iinc (k := 1) (v := nI (i + 1)) (lv2 := [(1, .int (nI (i + 1))), (0, .ref h0)]) F dX0_lowestOutside_19 rfl (nI_1 _) (by decide) rfl ?_
          refine g_goto (tgt := 2) F dX0_lowestOutside_22 (by decide) ?_
          refine g_lv [1, 0] rfl ?_
          exact ih2 (i + 1) (by omega) (by omega) (by intro k hk2; by_cases h : k = i; (rw [h]; exact c14); exact hk k (by omega))
        · skip
          refine g_iload_n F 1 dX0_lowestOutside_17 rfl rfl ?_
          exact hret _ _ _ _ dX0_lowestOutside_18 ⟨(by unfold lo; rw [ff_is U 96 c5 c14 hk, if_pos c5]), rfl⟩
  refine g_lv [1, 0] rfl ?_
  exact loop2 ((96 - 0) + 1) 0 (Nat.lt_succ_self _) (by omega) (by intro k hk; omega)
set_option maxHeartbeats 4000000 in
set_option maxRecDepth 100000 in
theorem c_X0_copyFrom (l : Launch) (E : En) (h0 : Nat) (h1 : Nat) (U : Nat → Nat) (g0 : Nat) (g1 : Nat) (V : Nat → Nat) (hV : BU V) : CtV l yX0_copyFrom wsX0_copyFrom ({ frames := 0, cells := 0, slots := 0, locals := 0 } : Room) E [.ref h0, .ref g0] [ob 0 h0 [.ref h1], az E h1 96 U, ob 0 g0 [.ref g1], az E g1 96 V] (fun uu => uu = [ob 0 h0 [.ref h1], az E h1 96 V, ob 0 g0 [.ref g1], az E g1 96 V]) := by
  refine CtV.of cX0_copyFrom 3 RX0 rfl (by decide) rfl (Nat.le_of_ble_eq_true rfl) ?_
  intro Γ F hin0 hret
  show G Γ E 0 0 0 [(0, .ref h0), (1, .ref g0)] [] [ob 0 h0 [.ref h1], az E h1 96 U, ob 0 g0 [.ref g1], az E g1 96 V]
  refine g_iconst (v := nI 0) F dX0_copyFrom_0 (by decide) ?_
  refine g_istore_n (lv2 := [(2, .int (nI 0)), (0, .ref h0), (1, .ref g0)]) F dX0_copyFrom_1 rfl (by decide) rfl ?_
  have loop2 : ∀ (n : Nat) (i : Nat) (X : Nat → Nat), 96 - i < n → (i ≤ 96) → (∀ j, j < i → X j = V j) → G Γ E (0) (0) 2 [(0, .ref h0), (1, .ref g0), (2, .int (nI i))] [] [ob 0 h0 [.ref h1], az E h1 96 X, ob 0 g0 [.ref g1], az E g1 96 V] := by
    intro n
    induction n with
    | zero => intro i X hz; exact absurd hz (Nat.not_lt_zero _)
    | succ n ih2 =>
      intro i X hz2 hi hX
      refine g_iload_n F 2 dX0_copyFrom_2 rfl rfl ?_
      refine g_bipush (v := nI 96) F dX0_copyFrom_3 (by decide) ?_
      refine g_icmp_geN (tgt := 26) F dX0_copyFrom_5 (by decide) (by omega) (by omega) (fun c5 => ?_) (fun c5 => ?_)
      · skip
        refine g_azC 1 rfl (V) (by intro j hj; exact hX j (by omega)) (w2 := [ob 0 h0 [.ref h1], az E h1 96 V, ob 0 g0 [.ref g1], az E g1 96 V]) rfl ?_
        exact hret _ _ _ dX0_copyFrom_26 rfl
      · skip
        refine g_aload_n F 0 dX0_copyFrom_8 rfl rfl ?_
        refine g_get F 0 0 dX0_copyFrom_9 rfl rfl (by decide) (by decide +kernel) (by decide +kernel) rfl ?_
        refine g_iload_n F 2 dX0_copyFrom_12 rfl rfl ?_
        refine g_aload_n F 1 dX0_copyFrom_13 rfl rfl ?_
        refine g_get F 2 0 dX0_copyFrom_14 rfl rfl (by decide) (by decide +kernel) (by decide +kernel) rfl ?_
        refine g_iload_n F 2 dX0_copyFrom_17 rfl rfl ?_
        refine g_zald F 3 dX0_copyFrom_18 rfl (by omega) (by decide) ?_
        refine g_zast F 1 dX0_copyFrom_19 rfl (by omega) (by decide) (by exact nar_b (hV i)) (w2 := [ob 0 h0 [.ref h1], az E h1 96 (up X i (V i)), ob 0 g0 [.ref g1], az E g1 96 V]) rfl ?_
        refine g_iinc (k := 2) (v := nI (i + 1)) (lv2 := [(2, .int (nI (i + 1))), (0, .ref h0), (1, .ref g0)]) F dX0_copyFrom_20 rfl (nI_1 _) (by decide) rfl ?_
        refine g_goto (tgt := 2) F dX0_copyFrom_23 (by decide) ?_
        refine g_lv [1, 2, 0] rfl ?_
        exact ih2 (i + 1) (up X i (V i)) (by omega) (by omega) (by intro j hj; by_cases h : j = i; (rw [h]; exact up_s X i _); (rw [up_n X _ h]; exact hX j (by omega)))
  refine g_lv [1, 2, 0] rfl ?_
  exact loop2 ((96 - 0) + 1) 0 U (Nat.lt_succ_self _) (by omega) (by intro j hj; omega)
set_option maxHeartbeats 4000000 in
set_option maxRecDepth 100000 in
theorem c_X1_startOf (l : Launch) (E : En) (h0 : Nat) (c : Nat) (b : Nat) (hc : c < 2) (hb : b < 96) : CtI l yX1_startOf wsX1_startOf ({ frames := 0, cells := 0, slots := 0, locals := 0 } : Room) E [.ref h0, .int (nI c), .int (nI b)] [] (fun rr uu => rr = (nI ((c * 96 + b) * 4)) ∧ uu = []) := by
  refine CtI.of cX1_startOf 3 RX1 .int rfl (by decide) rfl (Or.inl rfl) (Nat.le_of_ble_eq_true rfl) (fun h => by cases h) ?_
  intro Γ F hret
  show G Γ E 0 0 0 [(0, .ref h0), (1, .int (nI c)), (2, .int (nI b))] [] []
  refine g_iload_n F 1 dX1_startOf_0 rfl rfl ?_
  refine g_if_ltN F dX1_startOf_1 ⟨19, by decide⟩ (by omega) ?_
  refine g_iload_n F 1 dX1_startOf_4 rfl rfl ?_
  refine g_iconst (v := nI 2) F dX1_startOf_5 (by decide) ?_
  refine g_icmp_geN (tgt := 19) F dX1_startOf_6 (by decide) (by omega) (by omega) (fun c6 => ?_) (fun c6 => ?_)
  · skip
    exact absurd c6 (by omega)
  · skip
    refine g_iload_n F 2 dX1_startOf_9 rfl rfl ?_
    refine g_if_ltN F dX1_startOf_10 ⟨19, by decide⟩ (by omega) ?_
    refine g_iload_n F 2 dX1_startOf_13 rfl rfl ?_
    refine g_bipush (v := nI 96) F dX1_startOf_14 (by decide) ?_
    refine g_icmp_ltN (tgt := 21) F dX1_startOf_16 (by decide) (by omega) (by omega) (fun c16 => ?_) (fun c16 => ?_)
    · skip
      refine g_iload_n F 1 dX1_startOf_21 rfl rfl ?_
      refine g_bipush (v := nI 96) F dX1_startOf_22 (by decide) ?_
      refine g_imulN F dX1_startOf_24 ?_
      refine g_iload_n F 2 dX1_startOf_25 rfl rfl ?_
      refine g_iaddN F dX1_startOf_26 ?_
      refine g_iconst (v := nI 4) F dX1_startOf_27 (by decide) ?_
      refine g_imulN F dX1_startOf_28 ?_
      exact hret _ _ _ _ dX1_startOf_29 ⟨(congrArg nI (by omega)), rfl⟩
    · skip
      exact absurd c16 (by omega)
set_option maxHeartbeats 4000000 in
set_option maxRecDepth 100000 in
theorem c_X1_numberAt (l : Launch) (E : En) (h0 : Nat) (h1 : Nat) (N : Nat → Nat) (c : Nat) (b : Nat) (k : Nat) (hc : c < 2) (hb : b < 96) (hk : k < 4) : CtI l yX1_numberAt wsX1_numberAt ({ frames := 1, cells := 0, slots := 0, locals := 22 } : Room) E [.ref h0, .int (nI c), .int (nI b), .int (nI k)] [ob 1 h0 [.ref h1], ai E h1 768 N] (fun rr uu => rr = (nI (nu N c b k)) ∧ uu = [ob 1 h0 [.ref h1], ai E h1 768 N]) := by
  refine CtI.of cX1_numberAt 5 RX1 .int rfl (by decide) rfl (Or.inl rfl) (Nat.le_of_ble_eq_true rfl) (fun h => by cases h) ?_
  intro Γ F hret
  show G Γ E 0 0 0 [(0, .ref h0), (1, .int (nI c)), (2, .int (nI b)), (3, .int (nI k))] [] [ob 1 h0 [.ref h1], ai E h1 768 N]
  refine g_aload_n F 0 dX1_numberAt_0 rfl rfl ?_
  refine g_iload_n F 1 dX1_numberAt_1 rfl rfl ?_
  refine g_iload_n F 2 dX1_numberAt_2 rfl rfl ?_
  refine g_callViR (n := 2) F [] (c_X1_startOf l E h0 c b (by omega) (by omega)) dX1_numberAt_3 rfl (by decide) rfl rfl rfl (Nat.le_of_ble_eq_true rfl) ⟨Nat.le_of_ble_eq_true rfl, Nat.le_of_ble_eq_true rfl⟩ rfl rfl ⟨Nat.le_of_ble_eq_true rfl, Nat.le_of_ble_eq_true rfl⟩ 0 rfl rfl gX1_numberAt_X1_startOf (by decide +kernel) (fun r u hp => by obtain ⟨-, h⟩ := hp; exact h) ?_
  rintro r_3 u_3 ⟨rfl, -⟩
  refine g_istore (lv2 := [(4, .int (nI ((c * 96 + b) * 4))), (0, .ref h0), (1, .int (nI c)), (2, .int (nI b)), (3, .int (nI k))]) F dX1_numberAt_6 (by decide) rfl ?_
  refine g_iload F 0 dX1_numberAt_8 rfl ?_
  refine g_if_ltN F dX1_numberAt_10 ⟨21, by decide⟩ (by omega) ?_
  refine g_iload_n F 4 dX1_numberAt_13 rfl rfl ?_
  refine g_iconst (v := nI 4) F dX1_numberAt_14 (by decide) ?_
  refine g_callSNiR (n := 2) F [] (c_X8_below l E k 4 (by omega) (by omega)) dX1_numberAt_15 rfl (by decide) rfl rfl rfl (Nat.le_of_ble_eq_true rfl) ⟨Nat.le_of_ble_eq_true rfl, Nat.le_of_ble_eq_true rfl⟩ rfl rfl ⟨Nat.le_of_ble_eq_true rfl, Nat.le_of_ble_eq_true rfl⟩ (host := "SummedParents") ggX1_numberAt_X8_below (by decide +kernel) (by decide +kernel) (by decide +kernel) (by decide +kernel) (fun r u hp => by obtain ⟨-, h⟩ := hp; exact h) ?_
  rintro r_15 u_15 ⟨rfl, -⟩
  refine g_if_neB (tgt := 25) F dX1_numberAt_18 (by decide) (fun c18 => ?_) (fun c18 => ?_)
  · skip
    refine g_aload_n F 1 dX1_numberAt_25 rfl rfl ?_
    refine g_get F 0 0 dX1_numberAt_26 rfl rfl (by decide) (by decide +kernel) (by decide +kernel) rfl ?_
    refine g_iload F 0 dX1_numberAt_29 rfl ?_
    refine g_iload_n F 4 dX1_numberAt_31 rfl rfl ?_
    refine g_iaddN F dX1_numberAt_32 ?_
    refine g_iald F 1 dX1_numberAt_33 rfl (by omega) (by decide) ?_
    exact hret _ _ _ _ dX1_numberAt_34 ⟨(congrArg nI (by rfl)), rfl⟩
  · skip
    exact absurd hk c18
set_option maxHeartbeats 4000000 in
set_option maxRecDepth 100000 in
theorem c_X1_put (l : Launch) (E : En) (h0 : Nat) (h1 : Nat) (N : Nat → Nat) (c : Nat) (b : Nat) (k : Nat) (v : Nat) (hc : c < 2) (hb : b < 96) (hk : k < 4) : CtV l yX1_put wsX1_put ({ frames := 1, cells := 0, slots := 0, locals := 22 } : Room) E [.ref h0, .int (nI c), .int (nI b), .int (nI k), .int (nI v)] [ob 1 h0 [.ref h1], ai E h1 768 N] (fun uu => uu = [ob 1 h0 [.ref h1], ai E h1 768 (pn N c b k v)]) := by
  refine CtV.of cX1_put 6 RX1 rfl (by decide) rfl (Nat.le_of_ble_eq_true rfl) ?_
  intro Γ F hin0 hret
  show G Γ E 0 0 0 [(0, .ref h0), (1, .int (nI c)), (2, .int (nI b)), (3, .int (nI k)), (4, .int (nI v))] [] [ob 1 h0 [.ref h1], ai E h1 768 N]
  refine g_aload_n F 0 dX1_put_0 rfl rfl ?_
  refine g_iload_n F 1 dX1_put_1 rfl rfl ?_
  refine g_iload_n F 2 dX1_put_2 rfl rfl ?_
  refine g_callViR (n := 2) F [] (c_X1_startOf l E h0 c b (by omega) (by omega)) dX1_put_3 rfl (by decide) rfl rfl rfl (Nat.le_of_ble_eq_true rfl) ⟨Nat.le_of_ble_eq_true rfl, Nat.le_of_ble_eq_true rfl⟩ rfl rfl ⟨Nat.le_of_ble_eq_true rfl, Nat.le_of_ble_eq_true rfl⟩ 0 rfl rfl gX1_put_X1_startOf (by decide +kernel) (fun r u hp => by obtain ⟨-, h⟩ := hp; exact h) ?_
  rintro r_3 u_3 ⟨rfl, -⟩
  refine g_istore (lv2 := [(5, .int (nI ((c * 96 + b) * 4))), (0, .ref h0), (1, .int (nI c)), (2, .int (nI b)), (3, .int (nI k)), (4, .int (nI v))]) F dX1_put_6 (by decide) rfl ?_
  refine g_iload F 0 dX1_put_8 rfl ?_
  refine g_if_ltN F dX1_put_10 ⟨32, by decide⟩ (by omega) ?_
  refine g_iload_n F 4 dX1_put_13 rfl rfl ?_
  refine g_iconst (v := nI 4) F dX1_put_14 (by decide) ?_
  refine g_callSNiR (n := 2) F [] (c_X8_below l E k 4 (by omega) (by omega)) dX1_put_15 rfl (by decide) rfl rfl rfl (Nat.le_of_ble_eq_true rfl) ⟨Nat.le_of_ble_eq_true rfl, Nat.le_of_ble_eq_true rfl⟩ rfl rfl ⟨Nat.le_of_ble_eq_true rfl, Nat.le_of_ble_eq_true rfl⟩ (host := "SummedParents") ggX1_put_X8_below (by decide +kernel) (by decide +kernel) (by decide +kernel) (by decide +kernel) (fun r u hp => by obtain ⟨-, h⟩ := hp; exact h) ?_
  rintro r_15 u_15 ⟨rfl, -⟩
  refine g_if_eqB (tgt := 32) F dX1_put_18 (by decide) (fun c18 => ?_) (fun c18 => ?_)
  · skip
    exact absurd hk c18
  · skip
    refine g_aload_n F 1 dX1_put_21 rfl rfl ?_
    refine g_get F 0 0 dX1_put_22 rfl rfl (by decide) (by decide +kernel) (by decide +kernel) rfl ?_
    refine g_iload F 0 dX1_put_25 rfl ?_
    refine g_iload_n F 4 dX1_put_27 rfl rfl ?_
    refine g_iaddN F dX1_put_28 ?_
    refine g_iload F 5 dX1_put_29 rfl ?_
    refine g_iast F 1 dX1_put_31 rfl (by omega) (by decide) (w2 := [ob 1 h0 [.ref h1], ai E h1 768 (up N (((c * 96 + b) * 4) + k) v)]) rfl ?_
    exact hret _ _ _ dX1_put_32 (by rfl)
set_option maxHeartbeats 4000000 in
set_option maxRecDepth 100000 in
theorem c_X1_sumOf (l : Launch) (E : En) (h0 : Nat) (h1 : Nat) (N : Nat → Nat) (c : Nat) (b : Nat) (hc : c < 2) (hb : b < 96) (hN : BN N) : CtI l yX1_sumOf wsX1_sumOf ({ frames := 1, cells := 0, slots := 0, locals := 22 } : Room) E [.ref h0, .int (nI c), .int (nI b)] [ob 1 h0 [.ref h1], ai E h1 768 N] (fun rr uu => rr = (nI (sm N ((c * 96 + b) * 4))) ∧ uu = [ob 1 h0 [.ref h1], ai E h1 768 N]) := by
  refine CtI.of cX1_sumOf 3 RX1 .int rfl (by decide) rfl (Or.inl rfl) (Nat.le_of_ble_eq_true rfl) (fun h => by cases h) ?_
  intro Γ F hret
  show G Γ E 0 0 0 [(0, .ref h0), (1, .int (nI c)), (2, .int (nI b))] [] [ob 1 h0 [.ref h1], ai E h1 768 N]
  refine g_aload_n F 0 dX1_sumOf_0 rfl rfl ?_
  refine g_get F 0 0 dX1_sumOf_1 rfl rfl (by decide) (by decide +kernel) (by decide +kernel) rfl ?_
  refine g_aload_n F 0 dX1_sumOf_4 rfl rfl ?_
  refine g_iload_n F 1 dX1_sumOf_5 rfl rfl ?_
  refine g_iload_n F 2 dX1_sumOf_6 rfl rfl ?_
  refine g_callViR (n := 2) F [] (c_X1_startOf l E h0 c b (by omega) (by omega)) dX1_sumOf_7 rfl (by decide) rfl rfl rfl (Nat.le_of_ble_eq_true rfl) ⟨Nat.le_of_ble_eq_true rfl, Nat.le_of_ble_eq_true rfl⟩ rfl rfl ⟨Nat.le_of_ble_eq_true rfl, Nat.le_of_ble_eq_true rfl⟩ 0 rfl rfl gX1_sumOf_X1_startOf (by decide +kernel) (fun r u hp => by obtain ⟨-, h⟩ := hp; exact h) ?_
  rintro r_7 u_7 ⟨rfl, -⟩
  refine g_callSNiR (n := 2) F [1] (c_X8_sumFrom l E h1 768 N ((c * 96 + b) * 4) (by omega) (by omega) (by exact hN _) (by exact hN _) (by exact hN _) (by exact hN _)) dX1_sumOf_10 rfl (by decide) rfl rfl rfl (Nat.le_of_ble_eq_true rfl) ⟨Nat.le_of_ble_eq_true rfl, Nat.le_of_ble_eq_true rfl⟩ rfl rfl ⟨Nat.le_of_ble_eq_true rfl, Nat.le_of_ble_eq_true rfl⟩ (host := "SummedParents") ggX1_sumOf_X8_sumFrom (by decide +kernel) (by decide +kernel) (by decide +kernel) (by decide +kernel) (fun r u hp => by obtain ⟨-, h⟩ := hp; exact h) ?_
  rintro r_10 u_10 ⟨rfl, -⟩
  exact hret _ _ _ _ dX1_sumOf_13 ⟨rfl, rfl⟩
set_option maxHeartbeats 4000000 in
set_option maxRecDepth 100000 in
theorem c_X1_alike (l : Launch) (E : En) (h0 : Nat) (h1 : Nat) (N : Nat → Nat) (b : Nat) (hb : b < 96) (hN : BN N) : CtI l yX1_alike wsX1_alike ({ frames := 2, cells := 0, slots := 0, locals := 46 } : Room) E [.ref h0, .int (nI b)] [ob 1 h0 [.ref h1], ai E h1 768 N] (fun rr uu => rr = (bi (al N b)) ∧ uu = [ob 1 h0 [.ref h1], ai E h1 768 N]) := by
  refine CtI.of cX1_alike 3 RX1 .boolean rfl (by decide) rfl (Or.inr rfl) (Nat.le_of_ble_eq_true rfl) (fun _ r u hp => by obtain ⟨rfl, -⟩ := hp; exact bi_narrow _) ?_
  intro Γ F hret
  show G Γ E 0 0 0 [(0, .ref h0), (1, .int (nI b))] [] [ob 1 h0 [.ref h1], ai E h1 768 N]
  refine g_iconst (v := nI 0) F dX1_alike_0 (by decide) ?_
  refine g_istore_n (lv2 := [(2, .int (nI 0)), (0, .ref h0), (1, .int (nI b))]) F dX1_alike_1 rfl (by decide) rfl ?_
  have loop2 : ∀ (n : Nat) (i : Nat), 4 - i < n → (i ≤ 4) → (∀ k, k < i → nu N 0 b k = nu N 1 b k) → G Γ E (0) (0) 2 [(0, .ref h0), (1, .int (nI b)), (2, .int (nI i))] [] [ob 1 h0 [.ref h1], ai E h1 768 N] := by
    intro n
    induction n with
    | zero => intro i hz; exact absurd hz (Nat.not_lt_zero _)
    | succ n ih2 =>
      intro i hz2 hi hk
      refine g_iload_n F 2 dX1_alike_2 rfl rfl ?_
      refine g_iconst (v := nI 4) F dX1_alike_3 (by decide) ?_
      refine g_icmp_geN (tgt := 32) F dX1_alike_4 (by decide) (by omega) (by omega) (fun c4 => ?_) (fun c4 => ?_)
      · skip
        refine g_iconst (v := nI 1) F dX1_alike_32 (by decide) ?_
        exact hret _ _ _ _ dX1_alike_33 ⟨(bi_pos (by exact fun k h => hk k (by omega))).symm, rfl⟩
      · skip
        refine g_aload_n F 0 dX1_alike_7 rfl rfl ?_
        refine g_iconst (v := nI 0) F dX1_alike_8 (by decide) ?_
        refine g_iload_n F 1 dX1_alike_9 rfl rfl ?_
        refine g_iload_n F 2 dX1_alike_10 rfl rfl ?_
        refine g_callViR (n := 3) F [0, 1] (c_X1_numberAt l E h0 h1 N 0 b i (by omega) (by omega) (by omega)) dX1_alike_11 rfl (by decide) rfl rfl rfl (Nat.le_of_ble_eq_true rfl) ⟨Nat.le_of_ble_eq_true rfl, Nat.le_of_ble_eq_true rfl⟩ rfl rfl ⟨Nat.le_of_ble_eq_true rfl, Nat.le_of_ble_eq_true rfl⟩ 0 rfl rfl gX1_alike_X1_numberAt (by decide +kernel) (fun r u hp => by obtain ⟨-, h⟩ := hp; exact h) ?_
        rintro r_11 u_11 ⟨rfl, -⟩
        refine g_aload_n F 0 dX1_alike_14 rfl rfl ?_
        refine g_iconst (v := nI 1) F dX1_alike_15 (by decide) ?_
        refine g_iload_n F 1 dX1_alike_16 rfl rfl ?_
        refine g_iload_n F 2 dX1_alike_17 rfl rfl ?_
        refine g_callViR (n := 3) F [0, 1] (c_X1_numberAt l E h0 h1 N 1 b i (by omega) (by omega) (by omega)) dX1_alike_18 rfl (by decide) rfl rfl rfl (Nat.le_of_ble_eq_true rfl) ⟨Nat.le_of_ble_eq_true rfl, Nat.le_of_ble_eq_true rfl⟩ rfl rfl ⟨Nat.le_of_ble_eq_true rfl, Nat.le_of_ble_eq_true rfl⟩ 0 rfl rfl gX1_alike_X1_numberAt (by decide +kernel) (fun r u hp => by obtain ⟨-, h⟩ := hp; exact h) ?_
        rintro r_18 u_18 ⟨rfl, -⟩
        refine g_icmp_eqN (tgt := 26) F dX1_alike_21 (by decide) (by exact Nat.lt_trans (hN _) (by decide)) (by exact Nat.lt_trans (hN _) (by decide)) (fun c21 => ?_) (fun c21 => ?_)
        · skip
          refine g_iinc (k := 2) (v := nI (i + 1)) (lv2 := [(2, .int (nI (i + 1))), (0, .ref h0), (1, .int (nI b))]) F dX1_alike_26 rfl (nI_1 _) (by decide) rfl ?_
          refine g_goto (tgt := 2) F dX1_alike_29 (by decide) ?_
          refine g_lv [1, 2, 0] rfl ?_
          exact ih2 (i + 1) (by omega) (by omega) (by intro k hk2; by_cases h : k = i; (rw [h]; exact c21); exact hk k (by omega))
        · skip
          refine g_iconst (v := nI 0) F dX1_alike_24 (by decide) ?_
          exact hret _ _ _ _ dX1_alike_25 ⟨(bi_neg (by exact fun h => c21 (h i c4))).symm, rfl⟩
  refine g_lv [1, 2, 0] rfl ?_
  exact loop2 ((4 - 0) + 1) 0 (Nat.lt_succ_self _) (by omega) (by intro k hk; omega)
set_option maxHeartbeats 4000000 in
set_option maxRecDepth 100000 in
theorem c_X1_copyWithSum (l : Launch) (E : En) (h0 : Nat) (h1 : Nat) (N : Nat → Nat) (b : Nat) (s : Nat) (hb : b < 2 ^ 31) (hs : s < 2 ^ 31) (hN : BN N) : CtI l yX1_copyWithSum wsX1_copyWithSum ({ frames := 2, cells := 0, slots := 0, locals := 44 } : Room) E [.ref h0, .int (nI b), .int (nI s)] [ob 1 h0 [.ref h1], ai E h1 768 N] (fun rr uu => rr = (nI (tk N b s)) ∧ uu = [ob 1 h0 [.ref h1], ai E h1 768 N]) := by
  refine CtI.of cX1_copyWithSum 3 RX1 .int rfl (by decide) rfl (Or.inl rfl) (Nat.le_of_ble_eq_true rfl) (fun h => by cases h) ?_
  intro Γ F hret
  show G Γ E 0 0 0 [(0, .ref h0), (1, .int (nI b)), (2, .int (nI s))] [] [ob 1 h0 [.ref h1], ai E h1 768 N]
  refine g_iload_n F 1 dX1_copyWithSum_0 rfl rfl ?_
  refine g_bipush (v := nI 96) F dX1_copyWithSum_1 (by decide) ?_
  refine g_callSNiR (n := 2) F [] (c_X8_below l E b 96 (by omega) (by omega)) dX1_copyWithSum_3 rfl (by decide) rfl rfl rfl (Nat.le_of_ble_eq_true rfl) ⟨Nat.le_of_ble_eq_true rfl, Nat.le_of_ble_eq_true rfl⟩ rfl rfl ⟨Nat.le_of_ble_eq_true rfl, Nat.le_of_ble_eq_true rfl⟩ (host := "SummedParents") ggX1_copyWithSum_X8_below (by decide +kernel) (by decide +kernel) (by decide +kernel) (by decide +kernel) (fun r u hp => by obtain ⟨-, h⟩ := hp; exact h) ?_
  rintro r_3 u_3 ⟨rfl, -⟩
  refine g_if_neB (tgt := 11) F dX1_copyWithSum_6 (by decide) (fun c6 => ?_) (fun c6 => ?_)
  · skip
    refine g_aload_n F 0 dX1_copyWithSum_11 rfl rfl ?_
    refine g_iconst (v := nI 0) F dX1_copyWithSum_12 (by decide) ?_
    refine g_iload_n F 1 dX1_copyWithSum_13 rfl rfl ?_
    refine g_callViR (n := 2) F [0, 1] (c_X1_sumOf l E h0 h1 N 0 b (by omega) (by omega) (by assumption)) dX1_copyWithSum_14 rfl (by decide) rfl rfl rfl (Nat.le_of_ble_eq_true rfl) ⟨Nat.le_of_ble_eq_true rfl, Nat.le_of_ble_eq_true rfl⟩ rfl rfl ⟨Nat.le_of_ble_eq_true rfl, Nat.le_of_ble_eq_true rfl⟩ 0 rfl rfl gX1_copyWithSum_X1_sumOf (by decide +kernel) (fun r u hp => by obtain ⟨-, h⟩ := hp; exact h) ?_
    rintro r_14 u_14 ⟨rfl, -⟩
    refine g_iload_n F 2 dX1_copyWithSum_17 rfl rfl ?_
    have hq := sm_lt N ((0 * 96 + b) * 4)
    refine g_icmp_neN (tgt := 23) F dX1_copyWithSum_18 (by decide) (by omega) (by omega) (fun c18 => ?_) (fun c18 => ?_)
    · skip
      refine g_aload_n F 0 dX1_copyWithSum_23 rfl rfl ?_
      refine g_iconst (v := nI 1) F dX1_copyWithSum_24 (by decide) ?_
      refine g_iload_n F 1 dX1_copyWithSum_25 rfl rfl ?_
      refine g_callViR (n := 2) F [0, 1] (c_X1_sumOf l E h0 h1 N 1 b (by omega) (by omega) (by assumption)) dX1_copyWithSum_26 rfl (by decide) rfl rfl rfl (Nat.le_of_ble_eq_true rfl) ⟨Nat.le_of_ble_eq_true rfl, Nat.le_of_ble_eq_true rfl⟩ rfl rfl ⟨Nat.le_of_ble_eq_true rfl, Nat.le_of_ble_eq_true rfl⟩ 0 rfl rfl gX1_copyWithSum_X1_sumOf (by decide +kernel) (fun r u hp => by obtain ⟨-, h⟩ := hp; exact h) ?_
      rintro r_26 u_26 ⟨rfl, -⟩
      refine g_iload_n F 2 dX1_copyWithSum_29 rfl rfl ?_
      have hq2 := sm_lt N ((1 * 96 + b) * 4)
      refine g_icmp_neN (tgt := 37) F dX1_copyWithSum_30 (by decide) (by omega) (by omega) (fun c30 => ?_) (fun c30 => ?_)
      · skip
        refine g_iconst (v := nI 2) F dX1_copyWithSum_37 (by decide) ?_
        exact hret _ _ _ _ dX1_copyWithSum_38 ⟨(congrArg nI (by unfold tk; (repeat' split) <;> omega)), rfl⟩
      · skip
        refine g_iconst (v := nI 1) F dX1_copyWithSum_33 (by decide) ?_
        refine g_goto (tgt := 38) F dX1_copyWithSum_34 (by decide) ?_
        exact hret _ _ _ _ dX1_copyWithSum_38 ⟨(congrArg nI (by unfold tk; (repeat' split) <;> omega)), rfl⟩
    · skip
      refine g_iconst (v := nI 0) F dX1_copyWithSum_21 (by decide) ?_
      exact hret _ _ _ _ dX1_copyWithSum_22 ⟨(congrArg nI (by unfold tk; (repeat' split) <;> omega)), rfl⟩
  · skip
    refine g_iconst (v := nI 2) F dX1_copyWithSum_9 (by decide) ?_
    exact hret _ _ _ _ dX1_copyWithSum_10 ⟨(congrArg nI (by unfold tk; (repeat' split) <;> omega)), rfl⟩
set_option maxHeartbeats 4000000 in
set_option maxRecDepth 100000 in
theorem c_X7_clear (l : Launch) (E : En) (g0 : Nat) (g1 : Nat) (g2 : Nat) (g3 : Nat) (g4 : Nat) (td : Nat)  : CtV l yX7_clear wsX7_clear ({ frames := 0, cells := 0, slots := 0, locals := 0 } : Room) E [.ref g0] [ob 7 g0 [.ref g1, .ref g2, .ref g3, .ref g4, .int (nI td)]] (fun uu => uu = [ob 7 g0 [.ref g1, .ref g2, .ref g3, .ref g4, .int (nI 0)]]) := by
  refine CtV.of cX7_clear 1 RX7 rfl (by decide) rfl (Nat.le_of_ble_eq_true rfl) ?_
  intro Γ F hin0 hret
  show G Γ E 0 0 0 [(0, .ref g0)] [] [ob 7 g0 [.ref g1, .ref g2, .ref g3, .ref g4, .int (nI td)]]
  refine g_aload_n F 0 dX7_clear_0 rfl rfl ?_
  refine g_iconst (v := nI 0) F dX7_clear_1 (by decide) ?_
  refine g_put F 0 4 dX7_clear_2 rfl rfl (by decide) (by decide +kernel) (by decide +kernel) tyX7_ok nmX7 rfl (by decide +kernel) rfl rfl (Nat.le_of_ble_eq_true rfl) rfl (ty := .int) (w2 := [ob 7 g0 [.ref g1, .ref g2, .ref g3, .ref g4, .int (nI 0)]]) rfl ?_
  exact hret _ _ _ dX7_clear_5 rfl
set_option maxHeartbeats 4000000 in
set_option maxRecDepth 100000 in
theorem c_X7_add (l : Launch) (E : En) (g0 : Nat) (g1 : Nat) (g2 : Nat) (g3 : Nat) (g4 : Nat) (td : Nat) (eb : Nat → Nat) (es : Nat → Nat) (ec : Nat → Nat) (et : Nat → Nat) (b : Nat) (s : Nat) (c : Nat) (htd : td < 3) : CtV l yX7_add wsX7_add ({ frames := 0, cells := 0, slots := 0, locals := 0 } : Room) E [.ref g0, .int (nI b), .int (nI s), .int (nI c)] [ob 7 g0 [.ref g1, .ref g2, .ref g3, .ref g4, .int (nI td)], ai E g1 3 eb, ai E g2 3 es, ai E g3 3 ec, ai E g4 12 et] (fun uu => uu = [ob 7 g0 [.ref g1, .ref g2, .ref g3, .ref g4, .int (nI (td + 1))], ai E g1 3 (up eb td b), ai E g2 3 (up es td s), ai E g3 3 (up ec td c), ai E g4 12 et]) := by
  refine CtV.of cX7_add 4 RX7 rfl (by decide) rfl (Nat.le_of_ble_eq_true rfl) ?_
  intro Γ F hin0 hret
  show G Γ E 0 0 0 [(0, .ref g0), (1, .int (nI b)), (2, .int (nI s)), (3, .int (nI c))] [] [ob 7 g0 [.ref g1, .ref g2, .ref g3, .ref g4, .int (nI td)], ai E g1 3 eb, ai E g2 3 es, ai E g3 3 ec, ai E g4 12 et]
  refine g_aload_n F 0 dX7_add_0 rfl rfl ?_
  refine g_get F 0 4 dX7_add_1 rfl rfl (by decide) (by decide +kernel) (by decide +kernel) rfl ?_
  refine g_iconst (v := nI 3) F dX7_add_4 (by decide) ?_
  refine g_icmp_geN (tgt := 48) F dX7_add_5 (by decide) (by omega) (by omega) (fun c5 => ?_) (fun c5 => ?_)
  · skip
    exact absurd c5 (by omega)
  · skip
    refine g_aload_n F 0 dX7_add_8 rfl rfl ?_
    refine g_get F 0 0 dX7_add_9 rfl rfl (by decide) (by decide +kernel) (by decide +kernel) rfl ?_
    refine g_aload_n F 0 dX7_add_12 rfl rfl ?_
    refine g_get F 0 4 dX7_add_13 rfl rfl (by decide) (by decide +kernel) (by decide +kernel) rfl ?_
    refine g_iload_n F 1 dX7_add_16 rfl rfl ?_
    refine g_iast F 1 dX7_add_17 rfl (by omega) (by decide) (w2 := [ob 7 g0 [.ref g1, .ref g2, .ref g3, .ref g4, .int (nI td)], ai E g1 3 (up eb td b), ai E g2 3 es, ai E g3 3 ec, ai E g4 12 et]) rfl ?_
    refine g_aload_n F 0 dX7_add_18 rfl rfl ?_
    refine g_get F 0 1 dX7_add_19 rfl rfl (by decide) (by decide +kernel) (by decide +kernel) rfl ?_
    refine g_aload_n F 0 dX7_add_22 rfl rfl ?_
    refine g_get F 0 4 dX7_add_23 rfl rfl (by decide) (by decide +kernel) (by decide +kernel) rfl ?_
    refine g_iload_n F 2 dX7_add_26 rfl rfl ?_
    refine g_iast F 2 dX7_add_27 rfl (by omega) (by decide) (w2 := [ob 7 g0 [.ref g1, .ref g2, .ref g3, .ref g4, .int (nI td)], ai E g1 3 (up eb td b), ai E g2 3 (up es td s), ai E g3 3 ec, ai E g4 12 et]) rfl ?_
    refine g_aload_n F 0 dX7_add_28 rfl rfl ?_
    refine g_get F 0 2 dX7_add_29 rfl rfl (by decide) (by decide +kernel) (by decide +kernel) rfl ?_
    refine g_aload_n F 0 dX7_add_32 rfl rfl ?_
    refine g_get F 0 4 dX7_add_33 rfl rfl (by decide) (by decide +kernel) (by decide +kernel) rfl ?_
    refine g_iload_n F 3 dX7_add_36 rfl rfl ?_
    refine g_iast F 3 dX7_add_37 rfl (by omega) (by decide) (w2 := [ob 7 g0 [.ref g1, .ref g2, .ref g3, .ref g4, .int (nI td)], ai E g1 3 (up eb td b), ai E g2 3 (up es td s), ai E g3 3 (up ec td c), ai E g4 12 et]) rfl ?_
    refine g_aload_n F 0 dX7_add_38 rfl rfl ?_
    refine g_dup F dX7_add_39 rfl ?_
    refine g_get F 0 4 dX7_add_40 rfl rfl (by decide) (by decide +kernel) (by decide +kernel) rfl ?_
    refine g_iconst (v := nI 1) F dX7_add_43 (by decide) ?_
    refine g_iaddN F dX7_add_44 ?_
    refine g_put F 0 4 dX7_add_45 rfl rfl (by decide) (by decide +kernel) (by decide +kernel) tyX7_ok nmX7 rfl (by decide +kernel) rfl rfl (Nat.le_of_ble_eq_true rfl) rfl (ty := .int) (w2 := [ob 7 g0 [.ref g1, .ref g2, .ref g3, .ref g4, .int (nI (td + 1))], ai E g1 3 (up eb td b), ai E g2 3 (up es td s), ai E g3 3 (up ec td c), ai E g4 12 et]) rfl ?_
    exact hret _ _ _ dX7_add_48 rfl
set_option maxHeartbeats 4000000 in
set_option maxRecDepth 100000 in
theorem c_X7_tells (l : Launch) (E : En) (g0 : Nat) (g1 : Nat) (g2 : Nat) (g3 : Nat) (g4 : Nat) (td : Nat) (v : Nat) (htd : td ≤ 3) (hv : v < 2 ^ 31) : CtI l yX7_tells wsX7_tells ({ frames := 1, cells := 0, slots := 0, locals := 21 } : Room) E [.ref g0, .int (nI v)] [ob 7 g0 [.ref g1, .ref g2, .ref g3, .ref g4, .int (nI td)]] (fun rr uu => rr = (bi (v < td)) ∧ uu = [ob 7 g0 [.ref g1, .ref g2, .ref g3, .ref g4, .int (nI td)]]) := by
  refine CtI.of cX7_tells 2 RX7 .boolean rfl (by decide) rfl (Or.inr rfl) (Nat.le_of_ble_eq_true rfl) (fun _ r u hp => by obtain ⟨rfl, -⟩ := hp; exact bi_narrow _) ?_
  intro Γ F hret
  show G Γ E 0 0 0 [(0, .ref g0), (1, .int (nI v))] [] [ob 7 g0 [.ref g1, .ref g2, .ref g3, .ref g4, .int (nI td)]]
  refine g_iload_n F 1 dX7_tells_0 rfl rfl ?_
  refine g_aload_n F 0 dX7_tells_1 rfl rfl ?_
  refine g_get F 0 4 dX7_tells_2 rfl rfl (by decide) (by decide +kernel) (by decide +kernel) rfl ?_
  refine g_callSNiR (n := 2) F [] (c_X8_below l E v td (by omega) (by omega)) dX7_tells_5 rfl (by decide) rfl rfl rfl (Nat.le_of_ble_eq_true rfl) ⟨Nat.le_of_ble_eq_true rfl, Nat.le_of_ble_eq_true rfl⟩ rfl rfl ⟨Nat.le_of_ble_eq_true rfl, Nat.le_of_ble_eq_true rfl⟩ (host := "SummedParents") ggX7_tells_X8_below (by decide +kernel) (by decide +kernel) (by decide +kernel) (by decide +kernel) (fun r u hp => by obtain ⟨-, h⟩ := hp; exact h) ?_
  rintro r_5 u_5 ⟨rfl, -⟩
  refine g_if_eqB (tgt := 23) F dX7_tells_8 (by decide) (fun c8 => ?_) (fun c8 => ?_)
  · skip
    refine g_iconst (v := nI 0) F dX7_tells_23 (by decide) ?_
    exact hret _ _ _ _ dX7_tells_24 ⟨(bi_neg (by omega)).symm, rfl⟩
  · skip
    refine g_aload_n F 0 dX7_tells_11 rfl rfl ?_
    refine g_get F 0 4 dX7_tells_12 rfl rfl (by decide) (by decide +kernel) (by decide +kernel) rfl ?_
    refine g_iconst (v := nI 3) F dX7_tells_15 (by decide) ?_
    refine g_icmp_gtN (tgt := 23) F dX7_tells_16 (by decide) (by omega) (by omega) (fun c16 => ?_) (fun c16 => ?_)
    · skip
      exact absurd c16 (by omega)
    · skip
      refine g_iconst (v := nI 1) F dX7_tells_19 (by decide) ?_
      refine g_goto (tgt := 24) F dX7_tells_20 (by decide) ?_
      exact hret _ _ _ _ dX7_tells_24 ⟨(bi_pos (by omega)).symm, rfl⟩
set_option maxHeartbeats 4000000 in
set_option maxRecDepth 100000 in
theorem c_X7_copyAt (l : Launch) (E : En) (g0 : Nat) (g1 : Nat) (g2 : Nat) (g3 : Nat) (g4 : Nat) (td : Nat) (ec : Nat → Nat) (v : Nat) (htd : td ≤ 3) (hv : v < 3) : CtI l yX7_copyAt wsX7_copyAt ({ frames := 2, cells := 0, slots := 0, locals := 42 } : Room) E [.ref g0, .int (nI v)] [ob 7 g0 [.ref g1, .ref g2, .ref g3, .ref g4, .int (nI td)], ai E g3 3 ec] (fun rr uu => rr = (nI (cpa td ec v)) ∧ uu = [ob 7 g0 [.ref g1, .ref g2, .ref g3, .ref g4, .int (nI td)], ai E g3 3 ec]) := by
  refine CtI.of cX7_copyAt 2 RX7 .int rfl (by decide) rfl (Or.inl rfl) (Nat.le_of_ble_eq_true rfl) (fun h => by cases h) ?_
  intro Γ F hret
  show G Γ E 0 0 0 [(0, .ref g0), (1, .int (nI v))] [] [ob 7 g0 [.ref g1, .ref g2, .ref g3, .ref g4, .int (nI td)], ai E g3 3 ec]
  refine g_aload_n F 0 dX7_copyAt_0 rfl rfl ?_
  refine g_iload_n F 1 dX7_copyAt_1 rfl rfl ?_
  refine g_callViR (n := 1) F [0] (c_X7_tells l E g0 g1 g2 g3 g4 td v (by omega) (by omega)) dX7_copyAt_2 rfl (by decide) rfl rfl rfl (Nat.le_of_ble_eq_true rfl) ⟨Nat.le_of_ble_eq_true rfl, Nat.le_of_ble_eq_true rfl⟩ rfl rfl ⟨Nat.le_of_ble_eq_true rfl, Nat.le_of_ble_eq_true rfl⟩ 0 rfl rfl gX7_copyAt_X7_tells (by decide +kernel) (fun r u hp => by obtain ⟨-, h⟩ := hp; exact h) ?_
  rintro r_2 u_2 ⟨rfl, -⟩
  refine g_if_eqB (tgt := 17) F dX7_copyAt_5 (by decide) (fun c5 => ?_) (fun c5 => ?_)
  · skip
    refine g_iconst (v := nI 2) F dX7_copyAt_17 (by decide) ?_
    exact hret _ _ _ _ dX7_copyAt_18 ⟨(congrArg nI (by unfold cpa; simp [c5])), rfl⟩
  · skip
    refine g_aload_n F 0 dX7_copyAt_8 rfl rfl ?_
    refine g_get F 0 2 dX7_copyAt_9 rfl rfl (by decide) (by decide +kernel) (by decide +kernel) rfl ?_
    refine g_iload_n F 1 dX7_copyAt_12 rfl rfl ?_
    refine g_iald F 1 dX7_copyAt_13 rfl (by omega) (by decide) ?_
    refine g_goto (tgt := 18) F dX7_copyAt_14 (by decide) ?_
    exact hret _ _ _ _ dX7_copyAt_18 ⟨(congrArg nI (by unfold cpa; simp [c5])), rfl⟩
set_option maxHeartbeats 4000000 in
set_option maxRecDepth 100000 in
theorem c_X7_isSpoiled (l : Launch) (E : En) (g0 : Nat) (g1 : Nat) (g2 : Nat) (g3 : Nat) (g4 : Nat) (td : Nat) (ec : Nat → Nat) (htd : td ≤ 3) (hc : cpa td ec 2 ≤ 2) : CtI l yX7_isSpoiled wsX7_isSpoiled ({ frames := 3, cells := 0, slots := 0, locals := 63 } : Room) E [.ref g0] [ob 7 g0 [.ref g1, .ref g2, .ref g3, .ref g4, .int (nI td)], ai E g3 3 ec] (fun rr uu => rr = (bi (cpa td ec 2 = 2)) ∧ uu = [ob 7 g0 [.ref g1, .ref g2, .ref g3, .ref g4, .int (nI td)], ai E g3 3 ec]) := by
  refine CtI.of cX7_isSpoiled 1 RX7 .boolean rfl (by decide) rfl (Or.inr rfl) (Nat.le_of_ble_eq_true rfl) (fun _ r u hp => by obtain ⟨rfl, -⟩ := hp; exact bi_narrow _) ?_
  intro Γ F hret
  show G Γ E 0 0 0 [(0, .ref g0)] [] [ob 7 g0 [.ref g1, .ref g2, .ref g3, .ref g4, .int (nI td)], ai E g3 3 ec]
  refine g_aload_n F 0 dX7_isSpoiled_0 rfl rfl ?_
  refine g_iconst (v := nI 2) F dX7_isSpoiled_1 (by decide) ?_
  refine g_callViR (n := 1) F [0, 1] (c_X7_copyAt l E g0 g1 g2 g3 g4 td ec 2 (by omega) (by omega)) dX7_isSpoiled_2 rfl (by decide) rfl rfl rfl (Nat.le_of_ble_eq_true rfl) ⟨Nat.le_of_ble_eq_true rfl, Nat.le_of_ble_eq_true rfl⟩ rfl rfl ⟨Nat.le_of_ble_eq_true rfl, Nat.le_of_ble_eq_true rfl⟩ 0 rfl rfl gX7_isSpoiled_X7_copyAt (by decide +kernel) (fun r u hp => by obtain ⟨-, h⟩ := hp; exact h) ?_
  rintro r_2 u_2 ⟨rfl, -⟩
  refine g_iconst (v := nI 2) F dX7_isSpoiled_5 (by decide) ?_
  refine g_icmp_neN (tgt := 13) F dX7_isSpoiled_6 (by decide) (by omega) (by omega) (fun c6 => ?_) (fun c6 => ?_)
  · skip
    refine g_iconst (v := nI 0) F dX7_isSpoiled_13 (by decide) ?_
    exact hret _ _ _ _ dX7_isSpoiled_14 ⟨(bi_neg (by omega)).symm, rfl⟩
  · skip
    refine g_iconst (v := nI 1) F dX7_isSpoiled_9 (by decide) ?_
    refine g_goto (tgt := 14) F dX7_isSpoiled_10 (by decide) ?_
    exact hret _ _ _ _ dX7_isSpoiled_14 ⟨(bi_pos (by omega)).symm, rfl⟩
set_option maxHeartbeats 4000000 in
set_option maxRecDepth 100000 in
theorem c_X7_blockAt (l : Launch) (E : En) (g0 : Nat) (g1 : Nat) (g2 : Nat) (g3 : Nat) (g4 : Nat) (td : Nat) (eb : Nat → Nat) (v : Nat) (htd : td ≤ 3) (hv : v < td) : CtI l yX7_blockAt wsX7_blockAt ({ frames := 2, cells := 0, slots := 0, locals := 42 } : Room) E [.ref g0, .int (nI v)] [ob 7 g0 [.ref g1, .ref g2, .ref g3, .ref g4, .int (nI td)], ai E g1 3 eb] (fun rr uu => rr = (nI (eb v)) ∧ uu = [ob 7 g0 [.ref g1, .ref g2, .ref g3, .ref g4, .int (nI td)], ai E g1 3 eb]) := by
  refine CtI.of cX7_blockAt 2 RX7 .int rfl (by decide) rfl (Or.inl rfl) (Nat.le_of_ble_eq_true rfl) (fun h => by cases h) ?_
  intro Γ F hret
  show G Γ E 0 0 0 [(0, .ref g0), (1, .int (nI v))] [] [ob 7 g0 [.ref g1, .ref g2, .ref g3, .ref g4, .int (nI td)], ai E g1 3 eb]
  refine g_aload_n F 0 dX7_blockAt_0 rfl rfl ?_
  refine g_iload_n F 1 dX7_blockAt_1 rfl rfl ?_
  refine g_callViR (n := 1) F [0] (c_X7_tells l E g0 g1 g2 g3 g4 td v (by omega) (by omega)) dX7_blockAt_2 rfl (by decide) rfl rfl rfl (Nat.le_of_ble_eq_true rfl) ⟨Nat.le_of_ble_eq_true rfl, Nat.le_of_ble_eq_true rfl⟩ rfl rfl ⟨Nat.le_of_ble_eq_true rfl, Nat.le_of_ble_eq_true rfl⟩ 0 rfl rfl gX7_blockAt_X7_tells (by decide +kernel) (fun r u hp => by obtain ⟨-, h⟩ := hp; exact h) ?_
  rintro r_2 u_2 ⟨rfl, -⟩
  refine g_if_eqB (tgt := 17) F dX7_blockAt_5 (by decide) (fun c5 => ?_) (fun c5 => ?_)
  · skip
    exact absurd hv c5
  · skip
    refine g_aload_n F 0 dX7_blockAt_8 rfl rfl ?_
    refine g_get F 0 0 dX7_blockAt_9 rfl rfl (by decide) (by decide +kernel) (by decide +kernel) rfl ?_
    refine g_iload_n F 1 dX7_blockAt_12 rfl rfl ?_
    refine g_iald F 1 dX7_blockAt_13 rfl (by omega) (by decide) ?_
    refine g_goto (tgt := 19) F dX7_blockAt_14 (by decide) ?_
    exact hret _ _ _ _ dX7_blockAt_19 ⟨rfl, rfl⟩
set_option maxHeartbeats 4000000 in
set_option maxRecDepth 100000 in
theorem c_X7_sumAt (l : Launch) (E : En) (g0 : Nat) (g1 : Nat) (g2 : Nat) (g3 : Nat) (g4 : Nat) (td : Nat) (es : Nat → Nat) (v : Nat) (htd : td ≤ 3) (hv : v < td) : CtI l yX7_sumAt wsX7_sumAt ({ frames := 2, cells := 0, slots := 0, locals := 42 } : Room) E [.ref g0, .int (nI v)] [ob 7 g0 [.ref g1, .ref g2, .ref g3, .ref g4, .int (nI td)], ai E g2 3 es] (fun rr uu => rr = (nI (es v)) ∧ uu = [ob 7 g0 [.ref g1, .ref g2, .ref g3, .ref g4, .int (nI td)], ai E g2 3 es]) := by
  refine CtI.of cX7_sumAt 2 RX7 .int rfl (by decide) rfl (Or.inl rfl) (Nat.le_of_ble_eq_true rfl) (fun h => by cases h) ?_
  intro Γ F hret
  show G Γ E 0 0 0 [(0, .ref g0), (1, .int (nI v))] [] [ob 7 g0 [.ref g1, .ref g2, .ref g3, .ref g4, .int (nI td)], ai E g2 3 es]
  refine g_aload_n F 0 dX7_sumAt_0 rfl rfl ?_
  refine g_iload_n F 1 dX7_sumAt_1 rfl rfl ?_
  refine g_callViR (n := 1) F [0] (c_X7_tells l E g0 g1 g2 g3 g4 td v (by omega) (by omega)) dX7_sumAt_2 rfl (by decide) rfl rfl rfl (Nat.le_of_ble_eq_true rfl) ⟨Nat.le_of_ble_eq_true rfl, Nat.le_of_ble_eq_true rfl⟩ rfl rfl ⟨Nat.le_of_ble_eq_true rfl, Nat.le_of_ble_eq_true rfl⟩ 0 rfl rfl gX7_sumAt_X7_tells (by decide +kernel) (fun r u hp => by obtain ⟨-, h⟩ := hp; exact h) ?_
  rintro r_2 u_2 ⟨rfl, -⟩
  refine g_if_eqB (tgt := 17) F dX7_sumAt_5 (by decide) (fun c5 => ?_) (fun c5 => ?_)
  · skip
    exact absurd hv c5
  · skip
    refine g_aload_n F 0 dX7_sumAt_8 rfl rfl ?_
    refine g_get F 0 1 dX7_sumAt_9 rfl rfl (by decide) (by decide +kernel) (by decide +kernel) rfl ?_
    refine g_iload_n F 1 dX7_sumAt_12 rfl rfl ?_
    refine g_iald F 1 dX7_sumAt_13 rfl (by omega) (by decide) ?_
    refine g_goto (tgt := 18) F dX7_sumAt_14 (by decide) ?_
    exact hret _ _ _ _ dX7_sumAt_18 ⟨rfl, rfl⟩
set_option maxHeartbeats 4000000 in
set_option maxRecDepth 100000 in
theorem c_X7_takesFrom (l : Launch) (E : En) (g0 : Nat) (g1 : Nat) (g2 : Nat) (g3 : Nat) (g4 : Nat) (td : Nat) (ec : Nat → Nat) (c : Nat) (htd : td ≤ 3) (hc : ∀ v : Nat, cpa td ec v ≤ 2) (hcc : c < 2 ^ 31) : CtI l yX7_takesFrom wsX7_takesFrom ({ frames := 3, cells := 0, slots := 0, locals := 63 } : Room) E [.ref g0, .int (nI c)] [ob 7 g0 [.ref g1, .ref g2, .ref g3, .ref g4, .int (nI td)], ai E g3 3 ec] (fun rr uu => rr = (bi (∃ v : Nat, v < 3 ∧ cpa td ec v = c)) ∧ uu = [ob 7 g0 [.ref g1, .ref g2, .ref g3, .ref g4, .int (nI td)], ai E g3 3 ec]) := by
  refine CtI.of cX7_takesFrom 3 RX7 .boolean rfl (by decide) rfl (Or.inr rfl) (Nat.le_of_ble_eq_true rfl) (fun _ r u hp => by obtain ⟨rfl, -⟩ := hp; exact bi_narrow _) ?_
  intro Γ F hret
  show G Γ E 0 0 0 [(0, .ref g0), (1, .int (nI c))] [] [ob 7 g0 [.ref g1, .ref g2, .ref g3, .ref g4, .int (nI td)], ai E g3 3 ec]
  refine g_iconst (v := nI 0) F dX7_takesFrom_0 (by decide) ?_
  refine g_istore_n (lv2 := [(2, .int (nI 0)), (0, .ref g0), (1, .int (nI c))]) F dX7_takesFrom_1 rfl (by decide) rfl ?_
  have loop2 : ∀ (n : Nat) (i : Nat), 3 - i < n → (i ≤ 3) → (∀ k, k < i → ¬ cpa td ec k = c) → G Γ E (0) (0) 2 [(0, .ref g0), (1, .int (nI c)), (2, .int (nI i))] [] [ob 7 g0 [.ref g1, .ref g2, .ref g3, .ref g4, .int (nI td)], ai E g3 3 ec] := by
    intro n
    induction n with
    | zero => intro i hz; exact absurd hz (Nat.not_lt_zero _)
    | succ n ih2 =>
      intro i hz2 hi hk
      refine g_iload_n F 2 dX7_takesFrom_2 rfl rfl ?_
      refine g_iconst (v := nI 3) F dX7_takesFrom_3 (by decide) ?_
      refine g_icmp_geN (tgt := 24) F dX7_takesFrom_4 (by decide) (by omega) (by omega) (fun c4 => ?_) (fun c4 => ?_)
      · skip
        refine g_iconst (v := nI 0) F dX7_takesFrom_24 (by decide) ?_
        exact hret _ _ _ _ dX7_takesFrom_25 ⟨(bi_neg (by intro ⟨v, h1, h2⟩; exact hk v (by omega) h2)).symm, rfl⟩
      · skip
        refine g_aload_n F 0 dX7_takesFrom_7 rfl rfl ?_
        refine g_iload_n F 2 dX7_takesFrom_8 rfl rfl ?_
        refine g_callViR (n := 1) F [0, 1] (c_X7_copyAt l E g0 g1 g2 g3 g4 td ec i (by omega) (by omega)) dX7_takesFrom_9 rfl (by decide) rfl rfl rfl (Nat.le_of_ble_eq_true rfl) ⟨Nat.le_of_ble_eq_true rfl, Nat.le_of_ble_eq_true rfl⟩ rfl rfl ⟨Nat.le_of_ble_eq_true rfl, Nat.le_of_ble_eq_true rfl⟩ 0 rfl rfl gX7_takesFrom_X7_copyAt (by decide +kernel) (fun r u hp => by obtain ⟨-, h⟩ := hp; exact h) ?_
        rintro r_9 u_9 ⟨rfl, -⟩
        refine g_iload_n F 1 dX7_takesFrom_12 rfl rfl ?_
        refine g_icmp_neN (tgt := 18) F dX7_takesFrom_13 (by decide) (by have := hc i; omega) (by have := hc i; omega) (fun c13 => ?_) (fun c13 => ?_)
        · skip
          refine g_iinc (k := 2) (v := nI (i + 1)) (lv2 := [(2, .int (nI (i + 1))), (0, .ref g0), (1, .int (nI c))]) F dX7_takesFrom_18 rfl (nI_1 _) (by decide) rfl ?_
          refine g_goto (tgt := 2) F dX7_takesFrom_21 (by decide) ?_
          refine g_lv [1, 2, 0] rfl ?_
          exact ih2 (i + 1) (by omega) (by omega) (by intro k hk2; by_cases h : k = i; (rw [h]; exact c13); exact hk k (by omega))
        · skip
          refine g_iconst (v := nI 1) F dX7_takesFrom_16 (by decide) ?_
          exact hret _ _ _ _ dX7_takesFrom_17 ⟨(bi_pos (by exact ⟨i, c4, c13⟩)).symm, rfl⟩
  refine g_lv [1, 2, 0] rfl ?_
  exact loop2 ((3 - 0) + 1) 0 (Nat.lt_succ_self _) (by omega) (by intro k hk; omega)
set_option maxHeartbeats 4000000 in
set_option maxRecDepth 100000 in
theorem c_X7_numberAt (l : Launch) (E : En) (g0 : Nat) (g1 : Nat) (g2 : Nat) (g3 : Nat) (g4 : Nat) (td : Nat) (et : Nat → Nat) (v : Nat) (k : Nat) (hv : v < 3) (hk : k < 4) : CtI l yX7_numberAt wsX7_numberAt ({ frames := 1, cells := 0, slots := 0, locals := 21 } : Room) E [.ref g0, .int (nI v), .int (nI k)] [ob 7 g0 [.ref g1, .ref g2, .ref g3, .ref g4, .int (nI td)], ai E g4 12 et] (fun rr uu => rr = (nI (wn et v k)) ∧ uu = [ob 7 g0 [.ref g1, .ref g2, .ref g3, .ref g4, .int (nI td)], ai E g4 12 et]) := by
  refine CtI.of cX7_numberAt 3 RX7 .int rfl (by decide) rfl (Or.inl rfl) (Nat.le_of_ble_eq_true rfl) (fun h => by cases h) ?_
  intro Γ F hret
  show G Γ E 0 0 0 [(0, .ref g0), (1, .int (nI v)), (2, .int (nI k))] [] [ob 7 g0 [.ref g1, .ref g2, .ref g3, .ref g4, .int (nI td)], ai E g4 12 et]
  refine g_iload_n F 1 dX7_numberAt_0 rfl rfl ?_
  refine g_iconst (v := nI 3) F dX7_numberAt_1 (by decide) ?_
  refine g_callSNiR (n := 2) F [] (c_X8_below l E v 3 (by omega) (by omega)) dX7_numberAt_2 rfl (by decide) rfl rfl rfl (Nat.le_of_ble_eq_true rfl) ⟨Nat.le_of_ble_eq_true rfl, Nat.le_of_ble_eq_true rfl⟩ rfl rfl ⟨Nat.le_of_ble_eq_true rfl, Nat.le_of_ble_eq_true rfl⟩ (host := "SummedParents") ggX7_numberAt_X8_below (by decide +kernel) (by decide +kernel) (by decide +kernel) (by decide +kernel) (fun r u hp => by obtain ⟨-, h⟩ := hp; exact h) ?_
  rintro r_2 u_2 ⟨rfl, -⟩
  refine g_if_eqB (tgt := 29) F dX7_numberAt_5 (by decide) (fun c5 => ?_) (fun c5 => ?_)
  · skip
    exact absurd hv c5
  · skip
    refine g_iload_n F 2 dX7_numberAt_8 rfl rfl ?_
    refine g_iconst (v := nI 4) F dX7_numberAt_9 (by decide) ?_
    refine g_callSNiR (n := 2) F [] (c_X8_below l E k 4 (by omega) (by omega)) dX7_numberAt_10 rfl (by decide) rfl rfl rfl (Nat.le_of_ble_eq_true rfl) ⟨Nat.le_of_ble_eq_true rfl, Nat.le_of_ble_eq_true rfl⟩ rfl rfl ⟨Nat.le_of_ble_eq_true rfl, Nat.le_of_ble_eq_true rfl⟩ (host := "SummedParents") ggX7_numberAt_X8_below (by decide +kernel) (by decide +kernel) (by decide +kernel) (by decide +kernel) (fun r u hp => by obtain ⟨-, h⟩ := hp; exact h) ?_
    rintro r_10 u_10 ⟨rfl, -⟩
    refine g_if_eqB (tgt := 29) F dX7_numberAt_13 (by decide) (fun c13 => ?_) (fun c13 => ?_)
    · skip
      exact absurd hk c13
    · skip
      refine g_aload_n F 0 dX7_numberAt_16 rfl rfl ?_
      refine g_get F 0 3 dX7_numberAt_17 rfl rfl (by decide) (by decide +kernel) (by decide +kernel) rfl ?_
      refine g_iload_n F 1 dX7_numberAt_20 rfl rfl ?_
      refine g_iconst (v := nI 4) F dX7_numberAt_21 (by decide) ?_
      refine g_imulN F dX7_numberAt_22 ?_
      refine g_iload_n F 2 dX7_numberAt_23 rfl rfl ?_
      refine g_iaddN F dX7_numberAt_24 ?_
      refine g_iald F 1 dX7_numberAt_25 rfl (by omega) (by decide) ?_
      refine g_goto (tgt := 30) F dX7_numberAt_26 (by decide) ?_
      exact hret _ _ _ _ dX7_numberAt_30 ⟨(congrArg nI (by rfl)), rfl⟩
set_option maxHeartbeats 4000000 in
set_option maxRecDepth 100000 in
theorem c_X7_put (l : Launch) (E : En) (g0 : Nat) (g1 : Nat) (g2 : Nat) (g3 : Nat) (g4 : Nat) (td : Nat) (et : Nat → Nat) (v : Nat) (k : Nat) (x : Nat) (hv : v < 3) (hk : k < 4) : CtV l yX7_put wsX7_put ({ frames := 1, cells := 0, slots := 0, locals := 21 } : Room) E [.ref g0, .int (nI v), .int (nI k), .int (nI x)] [ob 7 g0 [.ref g1, .ref g2, .ref g3, .ref g4, .int (nI td)], ai E g4 12 et] (fun uu => uu = [ob 7 g0 [.ref g1, .ref g2, .ref g3, .ref g4, .int (nI td)], ai E g4 12 (up et (v * 4 + k) x)]) := by
  refine CtV.of cX7_put 4 RX7 rfl (by decide) rfl (Nat.le_of_ble_eq_true rfl) ?_
  intro Γ F hin0 hret
  show G Γ E 0 0 0 [(0, .ref g0), (1, .int (nI v)), (2, .int (nI k)), (3, .int (nI x))] [] [ob 7 g0 [.ref g1, .ref g2, .ref g3, .ref g4, .int (nI td)], ai E g4 12 et]
  refine g_iload_n F 1 dX7_put_0 rfl rfl ?_
  refine g_iconst (v := nI 3) F dX7_put_1 (by decide) ?_
  refine g_callSNiR (n := 2) F [] (c_X8_below l E v 3 (by omega) (by omega)) dX7_put_2 rfl (by decide) rfl rfl rfl (Nat.le_of_ble_eq_true rfl) ⟨Nat.le_of_ble_eq_true rfl, Nat.le_of_ble_eq_true rfl⟩ rfl rfl ⟨Nat.le_of_ble_eq_true rfl, Nat.le_of_ble_eq_true rfl⟩ (host := "SummedParents") ggX7_put_X8_below (by decide +kernel) (by decide +kernel) (by decide +kernel) (by decide +kernel) (fun r u hp => by obtain ⟨-, h⟩ := hp; exact h) ?_
  rintro r_2 u_2 ⟨rfl, -⟩
  refine g_if_eqB (tgt := 27) F dX7_put_5 (by decide) (fun c5 => ?_) (fun c5 => ?_)
  · skip
    exact absurd hv c5
  · skip
    refine g_iload_n F 2 dX7_put_8 rfl rfl ?_
    refine g_iconst (v := nI 4) F dX7_put_9 (by decide) ?_
    refine g_callSNiR (n := 2) F [] (c_X8_below l E k 4 (by omega) (by omega)) dX7_put_10 rfl (by decide) rfl rfl rfl (Nat.le_of_ble_eq_true rfl) ⟨Nat.le_of_ble_eq_true rfl, Nat.le_of_ble_eq_true rfl⟩ rfl rfl ⟨Nat.le_of_ble_eq_true rfl, Nat.le_of_ble_eq_true rfl⟩ (host := "SummedParents") ggX7_put_X8_below (by decide +kernel) (by decide +kernel) (by decide +kernel) (by decide +kernel) (fun r u hp => by obtain ⟨-, h⟩ := hp; exact h) ?_
    rintro r_10 u_10 ⟨rfl, -⟩
    refine g_if_eqB (tgt := 27) F dX7_put_13 (by decide) (fun c13 => ?_) (fun c13 => ?_)
    · skip
      exact absurd hk c13
    · skip
      refine g_aload_n F 0 dX7_put_16 rfl rfl ?_
      refine g_get F 0 3 dX7_put_17 rfl rfl (by decide) (by decide +kernel) (by decide +kernel) rfl ?_
      refine g_iload_n F 1 dX7_put_20 rfl rfl ?_
      refine g_iconst (v := nI 4) F dX7_put_21 (by decide) ?_
      refine g_imulN F dX7_put_22 ?_
      refine g_iload_n F 2 dX7_put_23 rfl rfl ?_
      refine g_iaddN F dX7_put_24 ?_
      refine g_iload_n F 3 dX7_put_25 rfl rfl ?_
      refine g_iast F 1 dX7_put_26 rfl (by omega) (by decide) (w2 := [ob 7 g0 [.ref g1, .ref g2, .ref g3, .ref g4, .int (nI td)], ai E g4 12 (up et ((v * 4) + k) x)]) rfl ?_
      exact hret _ _ _ dX7_put_27 (by rfl)
set_option maxHeartbeats 4000000 in
set_option maxRecDepth 100000 in
theorem c_X7_takenSum (l : Launch) (E : En) (g0 : Nat) (g1 : Nat) (g2 : Nat) (g3 : Nat) (g4 : Nat) (td : Nat) (et : Nat → Nat) (v : Nat) (hv : v < 3) (hb0 : et (v * 4) < 65536) (hb1 : et (v * 4 + 1) < 65536) (hb2 : et (v * 4 + 2) < 65536) (hb3 : et (v * 4 + 3) < 65536) : CtI l yX7_takenSum wsX7_takenSum ({ frames := 1, cells := 0, slots := 0, locals := 21 } : Room) E [.ref g0, .int (nI v)] [ob 7 g0 [.ref g1, .ref g2, .ref g3, .ref g4, .int (nI td)], ai E g4 12 et] (fun rr uu => rr = (nI (sm et (v * 4))) ∧ uu = [ob 7 g0 [.ref g1, .ref g2, .ref g3, .ref g4, .int (nI td)], ai E g4 12 et]) := by
  refine CtI.of cX7_takenSum 2 RX7 .int rfl (by decide) rfl (Or.inl rfl) (Nat.le_of_ble_eq_true rfl) (fun h => by cases h) ?_
  intro Γ F hret
  show G Γ E 0 0 0 [(0, .ref g0), (1, .int (nI v))] [] [ob 7 g0 [.ref g1, .ref g2, .ref g3, .ref g4, .int (nI td)], ai E g4 12 et]
  refine g_iload_n F 1 dX7_takenSum_0 rfl rfl ?_
  refine g_iconst (v := nI 3) F dX7_takenSum_1 (by decide) ?_
  refine g_callSNiR (n := 2) F [] (c_X8_below l E v 3 (by omega) (by omega)) dX7_takenSum_2 rfl (by decide) rfl rfl rfl (Nat.le_of_ble_eq_true rfl) ⟨Nat.le_of_ble_eq_true rfl, Nat.le_of_ble_eq_true rfl⟩ rfl rfl ⟨Nat.le_of_ble_eq_true rfl, Nat.le_of_ble_eq_true rfl⟩ (host := "SummedParents") ggX7_takenSum_X8_below (by decide +kernel) (by decide +kernel) (by decide +kernel) (by decide +kernel) (fun r u hp => by obtain ⟨-, h⟩ := hp; exact h) ?_
  rintro r_2 u_2 ⟨rfl, -⟩
  refine g_if_eqB (tgt := 21) F dX7_takenSum_5 (by decide) (fun c5 => ?_) (fun c5 => ?_)
  · skip
    exact absurd hv c5
  · skip
    refine g_aload_n F 0 dX7_takenSum_8 rfl rfl ?_
    refine g_get F 0 3 dX7_takenSum_9 rfl rfl (by decide) (by decide +kernel) (by decide +kernel) rfl ?_
    refine g_iload_n F 1 dX7_takenSum_12 rfl rfl ?_
    refine g_iconst (v := nI 4) F dX7_takenSum_13 (by decide) ?_
    refine g_imulN F dX7_takenSum_14 ?_
    refine g_callSNiR (n := 2) F [1] (c_X8_sumFrom l E g4 12 et (v * 4) (by omega) (by omega) (by omega) (by omega) (by omega) (by omega)) dX7_takenSum_15 rfl (by decide) rfl rfl rfl (Nat.le_of_ble_eq_true rfl) ⟨Nat.le_of_ble_eq_true rfl, Nat.le_of_ble_eq_true rfl⟩ rfl rfl ⟨Nat.le_of_ble_eq_true rfl, Nat.le_of_ble_eq_true rfl⟩ (host := "SummedParents") ggX7_takenSum_X8_sumFrom (by decide +kernel) (by decide +kernel) (by decide +kernel) (by decide +kernel) (fun r u hp => by obtain ⟨-, h⟩ := hp; exact h) ?_
    rintro r_15 u_15 ⟨rfl, -⟩
    refine g_goto (tgt := 22) F dX7_takenSum_18 (by decide) ?_
    exact hret _ _ _ _ dX7_takenSum_22 ⟨rfl, rfl⟩
set_option maxHeartbeats 4000000 in
set_option maxRecDepth 100000 in
theorem c_X1_lay (l : Launch) (E : En) (h0 : Nat) (h1 : Nat) (N : Nat → Nat) (g0 : Nat) (g1 : Nat) (g2 : Nat) (g3 : Nat) (g4 : Nat) (td : Nat) (et : Nat → Nat) (c : Nat) (b : Nat) (v : Nat) (m : Nat) (hc : c < 2) (hb : b < 96) (hv : v < 3) (hm : m ≤ 4) : CtV l yX1_lay wsX1_lay ({ frames := 2, cells := 0, slots := 0, locals := 47 } : Room) E [.ref h0, .int (nI c), .int (nI b), .ref g0, .int (nI v), .int (nI m)] [ob 1 h0 [.ref h1], ai E h1 768 N, ob 7 g0 [.ref g1, .ref g2, .ref g3, .ref g4, .int (nI td)], ai E g4 12 et] (fun uu => uu = [ob 1 h0 [.ref h1], ai E h1 768 (ly N c b et v m), ob 7 g0 [.ref g1, .ref g2, .ref g3, .ref g4, .int (nI td)], ai E g4 12 et]) := by
  refine CtV.of cX1_lay 7 RX1 rfl (by decide) rfl (Nat.le_of_ble_eq_true rfl) ?_
  intro Γ F hin0 hret
  show G Γ E 0 0 0 [(0, .ref h0), (1, .int (nI c)), (2, .int (nI b)), (3, .ref g0), (4, .int (nI v)), (5, .int (nI m))] [] [ob 1 h0 [.ref h1], ai E h1 768 N, ob 7 g0 [.ref g1, .ref g2, .ref g3, .ref g4, .int (nI td)], ai E g4 12 et]
  refine g_iconst (v := nI 0) F dX1_lay_0 (by decide) ?_
  refine g_istore (lv2 := [(6, .int (nI 0)), (0, .ref h0), (1, .int (nI c)), (2, .int (nI b)), (3, .ref g0), (4, .int (nI v)), (5, .int (nI m))]) F dX1_lay_1 (by decide) rfl ?_
  have loop3 : ∀ (n : Nat) (i : Nat), m - i < n → (i ≤ m) → G Γ E (0) (0) 3 [(0, .ref h0), (1, .int (nI c)), (2, .int (nI b)), (3, .ref g0), (4, .int (nI v)), (5, .int (nI m)), (6, .int (nI i))] [] [ob 1 h0 [.ref h1], ai E h1 768 (ly N c b et v i), ob 7 g0 [.ref g1, .ref g2, .ref g3, .ref g4, .int (nI td)], ai E g4 12 et] := by
    intro n
    induction n with
    | zero => intro i hz; exact absurd hz (Nat.not_lt_zero _)
    | succ n ih3 =>
      intro i hz3 hi
      refine g_iload F 6 dX1_lay_3 rfl ?_
      refine g_iconst (v := nI 4) F dX1_lay_5 (by decide) ?_
      refine g_icmp_geN (tgt := 38) F dX1_lay_6 (by decide) (by omega) (by omega) (fun c6 => ?_) (fun c6 => ?_)
      · skip
        refine g_aiC 1 rfl (ly N c b et v m) (by intro j hj; rw [show i = m by omega]) (w2 := [ob 1 h0 [.ref h1], ai E h1 768 (ly N c b et v m), ob 7 g0 [.ref g1, .ref g2, .ref g3, .ref g4, .int (nI td)], ai E g4 12 et]) rfl ?_
        exact hret _ _ _ dX1_lay_38 rfl
      · skip
        refine g_iload F 6 dX1_lay_9 rfl ?_
        refine g_iload F 5 dX1_lay_11 rfl ?_
        refine g_icmp_geN (tgt := 38) F dX1_lay_13 (by decide) (by omega) (by omega) (fun c13 => ?_) (fun c13 => ?_)
        · skip
          refine g_aiC 1 rfl (ly N c b et v m) (by intro j hj; rw [show i = m by omega]) (w2 := [ob 1 h0 [.ref h1], ai E h1 768 (ly N c b et v m), ob 7 g0 [.ref g1, .ref g2, .ref g3, .ref g4, .int (nI td)], ai E g4 12 et]) rfl ?_
          exact hret _ _ _ dX1_lay_38 rfl
        · skip
          refine g_aload_n F 0 dX1_lay_16 rfl rfl ?_
          refine g_iload_n F 1 dX1_lay_17 rfl rfl ?_
          refine g_iload_n F 2 dX1_lay_18 rfl rfl ?_
          refine g_iload F 6 dX1_lay_19 rfl ?_
          refine g_aload_n F 3 dX1_lay_21 rfl rfl ?_
          refine g_iload F 4 dX1_lay_22 rfl ?_
          refine g_iload F 6 dX1_lay_24 rfl ?_
          refine g_callViR (n := 2) F [2, 3] (c_X7_numberAt l E g0 g1 g2 g3 g4 td et v i (by omega) (by omega)) dX1_lay_26 rfl (by decide) rfl rfl rfl (Nat.le_of_ble_eq_true rfl) ⟨Nat.le_of_ble_eq_true rfl, Nat.le_of_ble_eq_true rfl⟩ rfl rfl ⟨Nat.le_of_ble_eq_true rfl, Nat.le_of_ble_eq_true rfl⟩ 2 rfl rfl gX1_lay_X7_numberAt (by decide +kernel) (fun r u hp => by obtain ⟨-, h⟩ := hp; exact h) ?_
          rintro r_26 u_26 ⟨rfl, -⟩
          refine g_callVvW (n := 4) F [0, 1] (c_X1_put l E h0 h1 (ly N c b et v i) c b i (wn et v i) (by omega) (by omega) (by omega)) dX1_lay_29 rfl (by decide) rfl rfl rfl (Nat.le_of_ble_eq_true rfl) ⟨Nat.le_of_ble_eq_true rfl, Nat.le_of_ble_eq_true rfl⟩ rfl rfl ⟨Nat.le_of_ble_eq_true rfl, Nat.le_of_ble_eq_true rfl⟩ 0 rfl rfl gX1_lay_X1_put (by decide +kernel) (fun u hp => by obtain rfl := hp; rfl) ?_
          rintro u_29 rfl
          refine g_ws (w2 := [ob 1 h0 [.ref h1], ai E h1 768 (pn (ly N c b et v i) c b i (wn et v i)), ob 7 g0 [.ref g1, .ref g2, .ref g3, .ref g4, .int (nI td)], ai E g4 12 et]) rfl ?_
          refine g_iinc (k := 6) (v := nI (i + 1)) (lv2 := [(6, .int (nI (i + 1))), (0, .ref h0), (1, .int (nI c)), (2, .int (nI b)), (3, .ref g0), (4, .int (nI v)), (5, .int (nI m))]) F dX1_lay_32 rfl (nI_1 _) (by decide) rfl ?_
          refine g_goto (tgt := 3) F dX1_lay_35 (by decide) ?_
          refine g_lv [1, 2, 3, 4, 5, 6, 0] rfl ?_
          exact ih3 (i + 1) (by omega) (by omega)
  refine g_lv [1, 2, 3, 4, 5, 6, 0] rfl ?_
  exact loop3 ((m - 0) + 1) 0 (Nat.lt_succ_self _) (by omega)
set_option maxHeartbeats 4000000 in
set_option maxRecDepth 100000 in
theorem c_X1_copyFrom (l : Launch) (E : En) (h0 : Nat) (h1 : Nat) (N : Nat → Nat) (k0 : Nat) (k1 : Nat) (M : Nat → Nat)  : CtV l yX1_copyFrom wsX1_copyFrom ({ frames := 1, cells := 0, slots := 0, locals := 24 } : Room) E [.ref h0, .ref k0] [ob 1 h0 [.ref h1], ai E h1 768 N, ob 1 k0 [.ref k1], ai E k1 768 M] (fun uu => uu = [ob 1 h0 [.ref h1], ai E h1 768 M, ob 1 k0 [.ref k1], ai E k1 768 M]) := by
  refine CtV.of cX1_copyFrom 2 RX1 rfl (by decide) rfl (Nat.le_of_ble_eq_true rfl) ?_
  intro Γ F hin0 hret
  show G Γ E 0 0 0 [(0, .ref h0), (1, .ref k0)] [] [ob 1 h0 [.ref h1], ai E h1 768 N, ob 1 k0 [.ref k1], ai E k1 768 M]
  refine g_aload_n F 1 dX1_copyFrom_0 rfl rfl ?_
  refine g_get F 2 0 dX1_copyFrom_1 rfl rfl (by decide) (by decide +kernel) (by decide +kernel) rfl ?_
  refine g_iconst (v := nI 0) F dX1_copyFrom_4 (by decide) ?_
  refine g_aload_n F 0 dX1_copyFrom_5 rfl rfl ?_
  refine g_get F 0 0 dX1_copyFrom_6 rfl rfl (by decide) (by decide +kernel) (by decide +kernel) rfl ?_
  refine g_iconst (v := nI 0) F dX1_copyFrom_9 (by decide) ?_
  refine g_aload_n F 0 dX1_copyFrom_10 rfl rfl ?_
  refine g_get F 0 0 dX1_copyFrom_11 rfl rfl (by decide) (by decide +kernel) (by decide +kernel) rfl ?_
  refine g_alen F 1 dX1_copyFrom_14 rfl ?_
  refine g_copy F 3 1 dX1_copyFrom_15 (by decide +kernel) (by decide +kernel) (by decide +kernel) (by decide +kernel) rfl rfl (by decide) (by decide) (by decide) (w2 := [ob 1 h0 [.ref h1], ai E h1 768 (fun j => if j < 768 then M j else N j), ob 1 k0 [.ref k1], ai E k1 768 M]) rfl ?_
  refine g_aiC 1 rfl (M) (by intro j hj; exact if_pos hj) (w2 := [ob 1 h0 [.ref h1], ai E h1 768 M, ob 1 k0 [.ref k1], ai E k1 768 M]) rfl ?_
  exact hret _ _ _ dX1_copyFrom_18 rfl
set_option maxHeartbeats 4000000 in
set_option maxRecDepth 100000 in
theorem c_X3_size (l : Launch) (E : En) (h0 : Nat) (h1 : Nat) (h2 : Nat) (h3 : Nat) (z : Nat)  : CtI l yX3_size wsX3_size ({ frames := 0, cells := 0, slots := 0, locals := 0 } : Room) E [.ref h0] [ob 3 h0 [.ref h1, .ref h2, .ref h3, .int (nI z)]] (fun rr uu => rr = (nI z) ∧ uu = [ob 3 h0 [.ref h1, .ref h2, .ref h3, .int (nI z)]]) := by
  refine CtI.of cX3_size 1 RX3 .int rfl (by decide) rfl (Or.inl rfl) (Nat.le_of_ble_eq_true rfl) (fun h => by cases h) ?_
  intro Γ F hret
  show G Γ E 0 0 0 [(0, .ref h0)] [] [ob 3 h0 [.ref h1, .ref h2, .ref h3, .int (nI z)]]
  refine g_aload_n F 0 dX3_size_0 rfl rfl ?_
  refine g_get F 0 3 dX3_size_1 rfl rfl (by decide) (by decide +kernel) (by decide +kernel) rfl ?_
  exact hret _ _ _ _ dX3_size_4 ⟨rfl, rfl⟩
set_option maxHeartbeats 4000000 in
set_option maxRecDepth 100000 in
theorem c_X3_numberAt (l : Launch) (E : En) (h0 : Nat) (h1 : Nat) (h2 : Nat) (h3 : Nat) (z : Nat) (rn : Nat → Nat) (i : Nat) (hi : i < 8) : CtI l yX3_numberAt wsX3_numberAt ({ frames := 1, cells := 0, slots := 0, locals := 21 } : Room) E [.ref h0, .int (nI i)] [ob 3 h0 [.ref h1, .ref h2, .ref h3, .int (nI z)], ai E h1 8 rn] (fun rr uu => rr = (nI (rn i)) ∧ uu = [ob 3 h0 [.ref h1, .ref h2, .ref h3, .int (nI z)], ai E h1 8 rn]) := by
  refine CtI.of cX3_numberAt 2 RX3 .int rfl (by decide) rfl (Or.inl rfl) (Nat.le_of_ble_eq_true rfl) (fun h => by cases h) ?_
  intro Γ F hret
  show G Γ E 0 0 0 [(0, .ref h0), (1, .int (nI i))] [] [ob 3 h0 [.ref h1, .ref h2, .ref h3, .int (nI z)], ai E h1 8 rn]
  refine g_iload_n F 1 dX3_numberAt_0 rfl rfl ?_
  refine g_bipush (v := nI 8) F dX3_numberAt_1 (by decide) ?_
  refine g_callSNiR (n := 2) F [] (c_X8_below l E i 8 (by omega) (by omega)) dX3_numberAt_3 rfl (by decide) rfl rfl rfl (Nat.le_of_ble_eq_true rfl) ⟨Nat.le_of_ble_eq_true rfl, Nat.le_of_ble_eq_true rfl⟩ rfl rfl ⟨Nat.le_of_ble_eq_true rfl, Nat.le_of_ble_eq_true rfl⟩ (host := "SummedParents") ggX3_numberAt_X8_below (by decide +kernel) (by decide +kernel) (by decide +kernel) (by decide +kernel) (fun r u hp => by obtain ⟨-, h⟩ := hp; exact h) ?_
  rintro r_3 u_3 ⟨rfl, -⟩
  refine g_if_eqB (tgt := 18) F dX3_numberAt_6 (by decide) (fun c6 => ?_) (fun c6 => ?_)
  · skip
    exact absurd hi c6
  · skip
    refine g_aload_n F 0 dX3_numberAt_9 rfl rfl ?_
    refine g_get F 0 0 dX3_numberAt_10 rfl rfl (by decide) (by decide +kernel) (by decide +kernel) rfl ?_
    refine g_iload_n F 1 dX3_numberAt_13 rfl rfl ?_
    refine g_iald F 1 dX3_numberAt_14 rfl (by omega) (by decide) ?_
    refine g_goto (tgt := 19) F dX3_numberAt_15 (by decide) ?_
    exact hret _ _ _ _ dX3_numberAt_19 ⟨rfl, rfl⟩
set_option maxHeartbeats 4000000 in
set_option maxRecDepth 100000 in
theorem c_X3_blockAt (l : Launch) (E : En) (h0 : Nat) (h1 : Nat) (h2 : Nat) (h3 : Nat) (z : Nat) (rb : Nat → Nat) (i : Nat) (hi : i < 8) : CtI l yX3_blockAt wsX3_blockAt ({ frames := 1, cells := 0, slots := 0, locals := 21 } : Room) E [.ref h0, .int (nI i)] [ob 3 h0 [.ref h1, .ref h2, .ref h3, .int (nI z)], ai E h2 8 rb] (fun rr uu => rr = (nI (rb i)) ∧ uu = [ob 3 h0 [.ref h1, .ref h2, .ref h3, .int (nI z)], ai E h2 8 rb]) := by
  refine CtI.of cX3_blockAt 2 RX3 .int rfl (by decide) rfl (Or.inl rfl) (Nat.le_of_ble_eq_true rfl) (fun h => by cases h) ?_
  intro Γ F hret
  show G Γ E 0 0 0 [(0, .ref h0), (1, .int (nI i))] [] [ob 3 h0 [.ref h1, .ref h2, .ref h3, .int (nI z)], ai E h2 8 rb]
  refine g_iload_n F 1 dX3_blockAt_0 rfl rfl ?_
  refine g_bipush (v := nI 8) F dX3_blockAt_1 (by decide) ?_
  refine g_callSNiR (n := 2) F [] (c_X8_below l E i 8 (by omega) (by omega)) dX3_blockAt_3 rfl (by decide) rfl rfl rfl (Nat.le_of_ble_eq_true rfl) ⟨Nat.le_of_ble_eq_true rfl, Nat.le_of_ble_eq_true rfl⟩ rfl rfl ⟨Nat.le_of_ble_eq_true rfl, Nat.le_of_ble_eq_true rfl⟩ (host := "SummedParents") ggX3_blockAt_X8_below (by decide +kernel) (by decide +kernel) (by decide +kernel) (by decide +kernel) (fun r u hp => by obtain ⟨-, h⟩ := hp; exact h) ?_
  rintro r_3 u_3 ⟨rfl, -⟩
  refine g_if_eqB (tgt := 18) F dX3_blockAt_6 (by decide) (fun c6 => ?_) (fun c6 => ?_)
  · skip
    exact absurd hi c6
  · skip
    refine g_aload_n F 0 dX3_blockAt_9 rfl rfl ?_
    refine g_get F 0 1 dX3_blockAt_10 rfl rfl (by decide) (by decide +kernel) (by decide +kernel) rfl ?_
    refine g_iload_n F 1 dX3_blockAt_13 rfl rfl ?_
    refine g_iald F 1 dX3_blockAt_14 rfl (by omega) (by decide) ?_
    refine g_goto (tgt := 20) F dX3_blockAt_15 (by decide) ?_
    exact hret _ _ _ _ dX3_blockAt_20 ⟨rfl, rfl⟩
set_option maxHeartbeats 4000000 in
set_option maxRecDepth 100000 in
theorem c_X3_sumAt (l : Launch) (E : En) (h0 : Nat) (h1 : Nat) (h2 : Nat) (h3 : Nat) (z : Nat) (rs : Nat → Nat) (i : Nat) (hi : i < 8) : CtI l yX3_sumAt wsX3_sumAt ({ frames := 1, cells := 0, slots := 0, locals := 21 } : Room) E [.ref h0, .int (nI i)] [ob 3 h0 [.ref h1, .ref h2, .ref h3, .int (nI z)], ai E h3 8 rs] (fun rr uu => rr = (nI (rs i)) ∧ uu = [ob 3 h0 [.ref h1, .ref h2, .ref h3, .int (nI z)], ai E h3 8 rs]) := by
  refine CtI.of cX3_sumAt 2 RX3 .int rfl (by decide) rfl (Or.inl rfl) (Nat.le_of_ble_eq_true rfl) (fun h => by cases h) ?_
  intro Γ F hret
  show G Γ E 0 0 0 [(0, .ref h0), (1, .int (nI i))] [] [ob 3 h0 [.ref h1, .ref h2, .ref h3, .int (nI z)], ai E h3 8 rs]
  refine g_iload_n F 1 dX3_sumAt_0 rfl rfl ?_
  refine g_bipush (v := nI 8) F dX3_sumAt_1 (by decide) ?_
  refine g_callSNiR (n := 2) F [] (c_X8_below l E i 8 (by omega) (by omega)) dX3_sumAt_3 rfl (by decide) rfl rfl rfl (Nat.le_of_ble_eq_true rfl) ⟨Nat.le_of_ble_eq_true rfl, Nat.le_of_ble_eq_true rfl⟩ rfl rfl ⟨Nat.le_of_ble_eq_true rfl, Nat.le_of_ble_eq_true rfl⟩ (host := "SummedParents") ggX3_sumAt_X8_below (by decide +kernel) (by decide +kernel) (by decide +kernel) (by decide +kernel) (fun r u hp => by obtain ⟨-, h⟩ := hp; exact h) ?_
  rintro r_3 u_3 ⟨rfl, -⟩
  refine g_if_eqB (tgt := 18) F dX3_sumAt_6 (by decide) (fun c6 => ?_) (fun c6 => ?_)
  · skip
    exact absurd hi c6
  · skip
    refine g_aload_n F 0 dX3_sumAt_9 rfl rfl ?_
    refine g_get F 0 2 dX3_sumAt_10 rfl rfl (by decide) (by decide +kernel) (by decide +kernel) rfl ?_
    refine g_iload_n F 1 dX3_sumAt_13 rfl rfl ?_
    refine g_iald F 1 dX3_sumAt_14 rfl (by omega) (by decide) ?_
    refine g_goto (tgt := 19) F dX3_sumAt_15 (by decide) ?_
    exact hret _ _ _ _ dX3_sumAt_19 ⟨rfl, rfl⟩
set_option maxHeartbeats 4000000 in
set_option maxRecDepth 100000 in
theorem c_X3_move (l : Launch) (E : En) (h0 : Nat) (h1 : Nat) (h2 : Nat) (h3 : Nat) (z : Nat) (rn : Nat → Nat) (rb : Nat → Nat) (rs : Nat → Nat) (a : Nat) (b : Nat) (ha : a < 8) (hb : b < 8) : CtV l yX3_move wsX3_move ({ frames := 1, cells := 0, slots := 0, locals := 21 } : Room) E [.ref h0, .int (nI a), .int (nI b)] [ob 3 h0 [.ref h1, .ref h2, .ref h3, .int (nI z)], ai E h1 8 rn, ai E h2 8 rb, ai E h3 8 rs] (fun uu => uu = [ob 3 h0 [.ref h1, .ref h2, .ref h3, .int (nI z)], ai E h1 8 (up rn b (rn a)), ai E h2 8 (up rb b (rb a)), ai E h3 8 (up rs b (rs a))]) := by
  refine CtV.of cX3_move 3 RX3 rfl (by decide) rfl (Nat.le_of_ble_eq_true rfl) ?_
  intro Γ F hin0 hret
  show G Γ E 0 0 0 [(0, .ref h0), (1, .int (nI a)), (2, .int (nI b))] [] [ob 3 h0 [.ref h1, .ref h2, .ref h3, .int (nI z)], ai E h1 8 rn, ai E h2 8 rb, ai E h3 8 rs]
  refine g_iload_n F 1 dX3_move_0 rfl rfl ?_
  refine g_bipush (v := nI 8) F dX3_move_1 (by decide) ?_
  refine g_callSNiR (n := 2) F [] (c_X8_below l E a 8 (by omega) (by omega)) dX3_move_3 rfl (by decide) rfl rfl rfl (Nat.le_of_ble_eq_true rfl) ⟨Nat.le_of_ble_eq_true rfl, Nat.le_of_ble_eq_true rfl⟩ rfl rfl ⟨Nat.le_of_ble_eq_true rfl, Nat.le_of_ble_eq_true rfl⟩ (host := "SummedParents") ggX3_move_X8_below (by decide +kernel) (by decide +kernel) (by decide +kernel) (by decide +kernel) (fun r u hp => by obtain ⟨-, h⟩ := hp; exact h) ?_
  rintro r_3 u_3 ⟨rfl, -⟩
  refine g_if_eqB (tgt := 54) F dX3_move_6 (by decide) (fun c6 => ?_) (fun c6 => ?_)
  · skip
    exact absurd ha c6
  · skip
    refine g_iload_n F 2 dX3_move_9 rfl rfl ?_
    refine g_bipush (v := nI 8) F dX3_move_10 (by decide) ?_
    refine g_callSNiR (n := 2) F [] (c_X8_below l E b 8 (by omega) (by omega)) dX3_move_12 rfl (by decide) rfl rfl rfl (Nat.le_of_ble_eq_true rfl) ⟨Nat.le_of_ble_eq_true rfl, Nat.le_of_ble_eq_true rfl⟩ rfl rfl ⟨Nat.le_of_ble_eq_true rfl, Nat.le_of_ble_eq_true rfl⟩ (host := "SummedParents") ggX3_move_X8_below (by decide +kernel) (by decide +kernel) (by decide +kernel) (by decide +kernel) (fun r u hp => by obtain ⟨-, h⟩ := hp; exact h) ?_
    rintro r_12 u_12 ⟨rfl, -⟩
    refine g_if_eqB (tgt := 54) F dX3_move_15 (by decide) (fun c15 => ?_) (fun c15 => ?_)
    · skip
      exact absurd hb c15
    · skip
      refine g_aload_n F 0 dX3_move_18 rfl rfl ?_
      refine g_get F 0 0 dX3_move_19 rfl rfl (by decide) (by decide +kernel) (by decide +kernel) rfl ?_
      refine g_iload_n F 2 dX3_move_22 rfl rfl ?_
      refine g_aload_n F 0 dX3_move_23 rfl rfl ?_
      refine g_get F 0 0 dX3_move_24 rfl rfl (by decide) (by decide +kernel) (by decide +kernel) rfl ?_
      refine g_iload_n F 1 dX3_move_27 rfl rfl ?_
      refine g_iald F 1 dX3_move_28 rfl (by omega) (by decide) ?_
      refine g_iast F 1 dX3_move_29 rfl (by omega) (by decide) (w2 := [ob 3 h0 [.ref h1, .ref h2, .ref h3, .int (nI z)], ai E h1 8 (up rn b (rn a)), ai E h2 8 rb, ai E h3 8 rs]) rfl ?_
      refine g_aload_n F 0 dX3_move_30 rfl rfl ?_
      refine g_get F 0 1 dX3_move_31 rfl rfl (by decide) (by decide +kernel) (by decide +kernel) rfl ?_
      refine g_iload_n F 2 dX3_move_34 rfl rfl ?_
      refine g_aload_n F 0 dX3_move_35 rfl rfl ?_
      refine g_get F 0 1 dX3_move_36 rfl rfl (by decide) (by decide +kernel) (by decide +kernel) rfl ?_
      refine g_iload_n F 1 dX3_move_39 rfl rfl ?_
      refine g_iald F 2 dX3_move_40 rfl (by omega) (by decide) ?_
      refine g_iast F 2 dX3_move_41 rfl (by omega) (by decide) (w2 := [ob 3 h0 [.ref h1, .ref h2, .ref h3, .int (nI z)], ai E h1 8 (up rn b (rn a)), ai E h2 8 (up rb b (rb a)), ai E h3 8 rs]) rfl ?_
      refine g_aload_n F 0 dX3_move_42 rfl rfl ?_
      refine g_get F 0 2 dX3_move_43 rfl rfl (by decide) (by decide +kernel) (by decide +kernel) rfl ?_
      refine g_iload_n F 2 dX3_move_46 rfl rfl ?_
      refine g_aload_n F 0 dX3_move_47 rfl rfl ?_
      refine g_get F 0 2 dX3_move_48 rfl rfl (by decide) (by decide +kernel) (by decide +kernel) rfl ?_
      refine g_iload_n F 1 dX3_move_51 rfl rfl ?_
      refine g_iald F 3 dX3_move_52 rfl (by omega) (by decide) ?_
      refine g_iast F 3 dX3_move_53 rfl (by omega) (by decide) (w2 := [ob 3 h0 [.ref h1, .ref h2, .ref h3, .int (nI z)], ai E h1 8 (up rn b (rn a)), ai E h2 8 (up rb b (rb a)), ai E h3 8 (up rs b (rs a))]) rfl ?_
      exact hret _ _ _ dX3_move_54 rfl
set_option maxHeartbeats 4000000 in
set_option maxRecDepth 100000 in
theorem c_X3_addLatest (l : Launch) (E : En) (h0 : Nat) (h1 : Nat) (h2 : Nat) (h3 : Nat) (z : Nat) (rn : Nat → Nat) (rb : Nat → Nat) (rs : Nat → Nat) (x : Nat) (b : Nat) (s : Nat) (hz : z < 8) : CtV l yX3_addLatest wsX3_addLatest ({ frames := 2, cells := 0, slots := 0, locals := 43 } : Room) E [.ref h0, .int (nI x), .int (nI b), .int (nI s)] [ob 3 h0 [.ref h1, .ref h2, .ref h3, .int (nI z)], ai E h1 8 rn, ai E h2 8 rb, ai E h3 8 rs] (fun uu => uu = [ob 3 h0 [.ref h1, .ref h2, .ref h3, .int (nI (z + 1))], ai E h1 8 (alt rn z x), ai E h2 8 (alt rb z b), ai E h3 8 (alt rs z s)]) := by
  refine CtV.of cX3_addLatest 5 RX3 rfl (by decide) rfl (Nat.le_of_ble_eq_true rfl) ?_
  intro Γ F hin0 hret
  show G Γ E 0 0 0 [(0, .ref h0), (1, .int (nI x)), (2, .int (nI b)), (3, .int (nI s))] [] [ob 3 h0 [.ref h1, .ref h2, .ref h3, .int (nI z)], ai E h1 8 rn, ai E h2 8 rb, ai E h3 8 rs]
  refine g_aload_n F 0 dX3_addLatest_0 rfl rfl ?_
  refine g_get F 0 3 dX3_addLatest_1 rfl rfl (by decide) (by decide +kernel) (by decide +kernel) rfl ?_
  refine g_bipush (v := nI 8) F dX3_addLatest_4 (by decide) ?_
  refine g_icmp_ltN (tgt := 10) F dX3_addLatest_6 (by decide) (by omega) (by omega) (fun c6 => ?_) (fun c6 => ?_)
  · skip
    refine g_aload_n F 0 dX3_addLatest_10 rfl rfl ?_
    refine g_get F 0 3 dX3_addLatest_11 rfl rfl (by decide) (by decide +kernel) (by decide +kernel) rfl ?_
    refine g_istore (lv2 := [(4, .int (nI z)), (0, .ref h0), (1, .int (nI x)), (2, .int (nI b)), (3, .int (nI s))]) F dX3_addLatest_14 (by decide) rfl ?_
    have loop16 : ∀ (n : Nat) (i : Nat), i < n → (i ≤ z) → G Γ E (0) (0) 16 [(0, .ref h0), (1, .int (nI x)), (2, .int (nI b)), (3, .int (nI s)), (4, .int (nI i))] [] [ob 3 h0 [.ref h1, .ref h2, .ref h3, .int (nI z)], ai E h1 8 (shi rn i z), ai E h2 8 (shi rb i z), ai E h3 8 (shi rs i z)] := by
      intro n
      induction n with
      | zero => intro i hz; exact absurd hz (Nat.not_lt_zero _)
      | succ n ih16 =>
        intro i hz16 hi
        refine g_iload F 4 dX3_addLatest_16 rfl ?_
        refine g_if_leN (tgt := 37) F dX3_addLatest_18 (by decide) (by omega) (fun c18 => ?_) (fun c18 => ?_)
        · skip
          refine g_aload_n F 0 dX3_addLatest_37 rfl rfl ?_
          refine g_get F 0 0 dX3_addLatest_38 rfl rfl (by decide) (by decide +kernel) (by decide +kernel) rfl ?_
          refine g_iconst (v := nI 0) F dX3_addLatest_41 (by decide) ?_
          refine g_iload_n F 1 dX3_addLatest_42 rfl rfl ?_
          refine g_iast F 1 dX3_addLatest_43 rfl (by omega) (by decide) (w2 := [ob 3 h0 [.ref h1, .ref h2, .ref h3, .int (nI z)], ai E h1 8 (up (shi rn i z) 0 x), ai E h2 8 (shi rb i z), ai E h3 8 (shi rs i z)]) rfl ?_
          refine g_aload_n F 0 dX3_addLatest_44 rfl rfl ?_
          refine g_get F 0 1 dX3_addLatest_45 rfl rfl (by decide) (by decide +kernel) (by decide +kernel) rfl ?_
          refine g_iconst (v := nI 0) F dX3_addLatest_48 (by decide) ?_
          refine g_iload_n F 2 dX3_addLatest_49 rfl rfl ?_
          refine g_iast F 2 dX3_addLatest_50 rfl (by omega) (by decide) (w2 := [ob 3 h0 [.ref h1, .ref h2, .ref h3, .int (nI z)], ai E h1 8 (up (shi rn i z) 0 x), ai E h2 8 (up (shi rb i z) 0 b), ai E h3 8 (shi rs i z)]) rfl ?_
          refine g_aload_n F 0 dX3_addLatest_51 rfl rfl ?_
          refine g_get F 0 2 dX3_addLatest_52 rfl rfl (by decide) (by decide +kernel) (by decide +kernel) rfl ?_
          refine g_iconst (v := nI 0) F dX3_addLatest_55 (by decide) ?_
          refine g_iload_n F 3 dX3_addLatest_56 rfl rfl ?_
          refine g_iast F 3 dX3_addLatest_57 rfl (by omega) (by decide) (w2 := [ob 3 h0 [.ref h1, .ref h2, .ref h3, .int (nI z)], ai E h1 8 (up (shi rn i z) 0 x), ai E h2 8 (up (shi rb i z) 0 b), ai E h3 8 (up (shi rs i z) 0 s)]) rfl ?_
          refine g_aload_n F 0 dX3_addLatest_58 rfl rfl ?_
          refine g_dup F dX3_addLatest_59 rfl ?_
          refine g_get F 0 3 dX3_addLatest_60 rfl rfl (by decide) (by decide +kernel) (by decide +kernel) rfl ?_
          refine g_iconst (v := nI 1) F dX3_addLatest_63 (by decide) ?_
          refine g_iaddN F dX3_addLatest_64 ?_
          refine g_put F 0 3 dX3_addLatest_65 rfl rfl (by decide) (by decide +kernel) (by decide +kernel) tyX3_ok nmX3 rfl (by decide +kernel) rfl rfl (Nat.le_of_ble_eq_true rfl) rfl (ty := .int) (w2 := [ob 3 h0 [.ref h1, .ref h2, .ref h3, .int (nI (z + 1))], ai E h1 8 (up (shi rn i z) 0 x), ai E h2 8 (up (shi rb i z) 0 b), ai E h3 8 (up (shi rs i z) 0 s)]) rfl ?_
          refine g_aiC 1 rfl (alt rn z x) (by intro j hj; simp only [shi, up, alt]; (repeat' split) <;> first | rfl | omega | (congr 1; omega) | (exfalso; omega)) (w2 := [ob 3 h0 [.ref h1, .ref h2, .ref h3, .int (nI (z + 1))], ai E h1 8 (alt rn z x), ai E h2 8 (up (shi rb i z) 0 b), ai E h3 8 (up (shi rs i z) 0 s)]) rfl ?_
          refine g_aiC 2 rfl (alt rb z b) (by intro j hj; simp only [shi, up, alt]; (repeat' split) <;> first | rfl | omega | (congr 1; omega) | (exfalso; omega)) (w2 := [ob 3 h0 [.ref h1, .ref h2, .ref h3, .int (nI (z + 1))], ai E h1 8 (alt rn z x), ai E h2 8 (alt rb z b), ai E h3 8 (up (shi rs i z) 0 s)]) rfl ?_
          refine g_aiC 3 rfl (alt rs z s) (by intro j hj; simp only [shi, up, alt]; (repeat' split) <;> first | rfl | omega | (congr 1; omega) | (exfalso; omega)) (w2 := [ob 3 h0 [.ref h1, .ref h2, .ref h3, .int (nI (z + 1))], ai E h1 8 (alt rn z x), ai E h2 8 (alt rb z b), ai E h3 8 (alt rs z s)]) rfl ?_
          exact hret _ _ _ dX3_addLatest_68 rfl
        · skip
          refine g_aload_n F 0 dX3_addLatest_21 rfl rfl ?_
          refine g_iload F 4 dX3_addLatest_22 rfl ?_
          refine g_iconst (v := nI 1) F dX3_addLatest_24 (by decide) ?_
          refine g_isubN F dX3_addLatest_25 (by omega) ?_
          refine g_iload F 4 dX3_addLatest_26 rfl ?_
          refine g_callVvW (n := 2) F [0, 1, 2, 3] (c_X3_move l E h0 h1 h2 h3 z (shi rn i z) (shi rb i z) (shi rs i z) (i - 1) i (by omega) (by omega)) dX3_addLatest_28 rfl (by decide) rfl rfl rfl (Nat.le_of_ble_eq_true rfl) ⟨Nat.le_of_ble_eq_true rfl, Nat.le_of_ble_eq_true rfl⟩ rfl rfl ⟨Nat.le_of_ble_eq_true rfl, Nat.le_of_ble_eq_true rfl⟩ 0 rfl rfl gX3_addLatest_X3_move (by decide +kernel) (fun u hp => by obtain rfl := hp; rfl) ?_
          rintro u_28 rfl
          refine g_ws (w2 := [ob 3 h0 [.ref h1, .ref h2, .ref h3, .int (nI z)], ai E h1 8 (up (shi rn i z) i ((shi rn i z) (i - 1))), ai E h2 8 (up (shi rb i z) i ((shi rb i z) (i - 1))), ai E h3 8 (up (shi rs i z) i ((shi rs i z) (i - 1)))]) rfl ?_
          refine g_iinc (k := 4) (v := nI (i - 1)) (lv2 := [(4, .int (nI (i - 1))), (0, .ref h0), (1, .int (nI x)), (2, .int (nI b)), (3, .int (nI s))]) F dX3_addLatest_31 rfl (pk_dec (by omega)) (by decide) rfl ?_
          refine g_goto (tgt := 16) F dX3_addLatest_34 (by decide) ?_
          refine g_aiC 1 rfl (shi rn (i - 1) z) (by intro j hj; simp only [shi, up]; (repeat' split) <;> first | rfl | omega | (congr 1; omega) | (exfalso; omega)) (w2 := [ob 3 h0 [.ref h1, .ref h2, .ref h3, .int (nI z)], ai E h1 8 (shi rn (i - 1) z), ai E h2 8 (up (shi rb i z) i ((shi rb i z) (i - 1))), ai E h3 8 (up (shi rs i z) i ((shi rs i z) (i - 1)))]) rfl ?_
          refine g_aiC 2 rfl (shi rb (i - 1) z) (by intro j hj; simp only [shi, up]; (repeat' split) <;> first | rfl | omega | (congr 1; omega) | (exfalso; omega)) (w2 := [ob 3 h0 [.ref h1, .ref h2, .ref h3, .int (nI z)], ai E h1 8 (shi rn (i - 1) z), ai E h2 8 (shi rb (i - 1) z), ai E h3 8 (up (shi rs i z) i ((shi rs i z) (i - 1)))]) rfl ?_
          refine g_aiC 3 rfl (shi rs (i - 1) z) (by intro j hj; simp only [shi, up]; (repeat' split) <;> first | rfl | omega | (congr 1; omega) | (exfalso; omega)) (w2 := [ob 3 h0 [.ref h1, .ref h2, .ref h3, .int (nI z)], ai E h1 8 (shi rn (i - 1) z), ai E h2 8 (shi rb (i - 1) z), ai E h3 8 (shi rs (i - 1) z)]) rfl ?_
          refine g_lv [1, 2, 3, 4, 0] rfl ?_
          exact ih16 (i - 1) (by omega) (by omega)
    refine g_aiC 1 rfl (shi rn z z) (by intro j hj; simp only [shi]; (repeat' split) <;> first | rfl | omega | (congr 1; omega) | (exfalso; omega)) (w2 := [ob 3 h0 [.ref h1, .ref h2, .ref h3, .int (nI z)], ai E h1 8 (shi rn z z), ai E h2 8 rb, ai E h3 8 rs]) rfl ?_
    refine g_aiC 2 rfl (shi rb z z) (by intro j hj; simp only [shi]; (repeat' split) <;> first | rfl | omega | (congr 1; omega) | (exfalso; omega)) (w2 := [ob 3 h0 [.ref h1, .ref h2, .ref h3, .int (nI z)], ai E h1 8 (shi rn z z), ai E h2 8 (shi rb z z), ai E h3 8 rs]) rfl ?_
    refine g_aiC 3 rfl (shi rs z z) (by intro j hj; simp only [shi]; (repeat' split) <;> first | rfl | omega | (congr 1; omega) | (exfalso; omega)) (w2 := [ob 3 h0 [.ref h1, .ref h2, .ref h3, .int (nI z)], ai E h1 8 (shi rn z z), ai E h2 8 (shi rb z z), ai E h3 8 (shi rs z z)]) rfl ?_
    refine g_lv [1, 2, 3, 4, 0] rfl ?_
    exact loop16 (z + 1) z (Nat.lt_succ_self _) (by omega)
  · skip
    exact absurd c6 (by omega)
set_option maxHeartbeats 4000000 in
set_option maxRecDepth 100000 in
theorem c_X3_remove (l : Launch) (E : En) (h0 : Nat) (h1 : Nat) (h2 : Nat) (h3 : Nat) (z : Nat) (rn : Nat → Nat) (rb : Nat → Nat) (rs : Nat → Nat) (a : Nat) (k : Nat) (hz : z ≤ 8) (hak : a + k ≤ z) : CtV l yX3_remove wsX3_remove ({ frames := 2, cells := 0, slots := 0, locals := 43 } : Room) E [.ref h0, .int (nI a), .int (nI k)] [ob 3 h0 [.ref h1, .ref h2, .ref h3, .int (nI z)], ai E h1 8 rn, ai E h2 8 rb, ai E h3 8 rs] (fun uu => uu = [ob 3 h0 [.ref h1, .ref h2, .ref h3, .int (nI (z - k))], ai E h1 8 (rmi rn a k z), ai E h2 8 (rmi rb a k z), ai E h3 8 (rmi rs a k z)]) := by
  refine CtV.of cX3_remove 4 RX3 rfl (by decide) rfl (Nat.le_of_ble_eq_true rfl) ?_
  intro Γ F hin0 hret
  show G Γ E 0 0 0 [(0, .ref h0), (1, .int (nI a)), (2, .int (nI k))] [] [ob 3 h0 [.ref h1, .ref h2, .ref h3, .int (nI z)], ai E h1 8 rn, ai E h2 8 rb, ai E h3 8 rs]
  refine g_iload_n F 1 dX3_remove_0 rfl rfl ?_
  refine g_if_ltN F dX3_remove_1 ⟨18, by decide⟩ (by omega) ?_
  refine g_iload_n F 2 dX3_remove_4 rfl rfl ?_
  refine g_if_ltN F dX3_remove_5 ⟨18, by decide⟩ (by omega) ?_
  refine g_iload_n F 2 dX3_remove_8 rfl rfl ?_
  refine g_aload_n F 0 dX3_remove_9 rfl rfl ?_
  refine g_get F 0 3 dX3_remove_10 rfl rfl (by decide) (by decide +kernel) (by decide +kernel) rfl ?_
  refine g_iload_n F 1 dX3_remove_13 rfl rfl ?_
  refine g_isubN F dX3_remove_14 (by omega) ?_
  refine g_icmp_leN (tgt := 19) F dX3_remove_15 (by decide) (by omega) (by omega) (fun c15 => ?_) (fun c15 => ?_)
  · skip
    refine g_iload_n F 1 dX3_remove_19 rfl rfl ?_
    refine g_iload_n F 2 dX3_remove_20 rfl rfl ?_
    refine g_iaddN F dX3_remove_21 ?_
    refine g_istore_n (lv2 := [(3, .int (nI (a + k))), (0, .ref h0), (1, .int (nI a)), (2, .int (nI k))]) F dX3_remove_22 rfl (by decide) rfl ?_
    have loop23 : ∀ (n : Nat) (i : Nat), z - i < n → (i ≤ z) → (a + k ≤ i) → G Γ E (0) (0) 23 [(0, .ref h0), (1, .int (nI a)), (2, .int (nI k)), (3, .int (nI i))] [] [ob 3 h0 [.ref h1, .ref h2, .ref h3, .int (nI z)], ai E h1 8 (rmi rn a k i), ai E h2 8 (rmi rb a k i), ai E h3 8 (rmi rs a k i)] := by
      intro n
      induction n with
      | zero => intro i hz; exact absurd hz (Nat.not_lt_zero _)
      | succ n ih23 =>
        intro i hz23 hi hi2
        refine g_iload_n F 3 dX3_remove_23 rfl rfl ?_
        refine g_aload_n F 0 dX3_remove_24 rfl rfl ?_
        refine g_get F 0 3 dX3_remove_25 rfl rfl (by decide) (by decide +kernel) (by decide +kernel) rfl ?_
        refine g_icmp_geN (tgt := 45) F dX3_remove_28 (by decide) (by omega) (by omega) (fun c28 => ?_) (fun c28 => ?_)
        · skip
          refine g_aload_n F 0 dX3_remove_45 rfl rfl ?_
          refine g_dup F dX3_remove_46 rfl ?_
          refine g_get F 0 3 dX3_remove_47 rfl rfl (by decide) (by decide +kernel) (by decide +kernel) rfl ?_
          refine g_iload_n F 2 dX3_remove_50 rfl rfl ?_
          refine g_isubN F dX3_remove_51 (by omega) ?_
          refine g_put F 0 3 dX3_remove_52 rfl rfl (by decide) (by decide +kernel) (by decide +kernel) tyX3_ok nmX3 rfl (by decide +kernel) rfl rfl (Nat.le_of_ble_eq_true rfl) rfl (ty := .int) (w2 := [ob 3 h0 [.ref h1, .ref h2, .ref h3, .int (nI (z - k))], ai E h1 8 (rmi rn a k i), ai E h2 8 (rmi rb a k i), ai E h3 8 (rmi rs a k i)]) rfl ?_
          refine g_aiC 1 rfl (rmi rn a k z) (by intro j hj; rw [show i = z by omega]) (w2 := [ob 3 h0 [.ref h1, .ref h2, .ref h3, .int (nI (z - k))], ai E h1 8 (rmi rn a k z), ai E h2 8 (rmi rb a k i), ai E h3 8 (rmi rs a k i)]) rfl ?_
          refine g_aiC 2 rfl (rmi rb a k z) (by intro j hj; rw [show i = z by omega]) (w2 := [ob 3 h0 [.ref h1, .ref h2, .ref h3, .int (nI (z - k))], ai E h1 8 (rmi rn a k z), ai E h2 8 (rmi rb a k z), ai E h3 8 (rmi rs a k i)]) rfl ?_
          refine g_aiC 3 rfl (rmi rs a k z) (by intro j hj; rw [show i = z by omega]) (w2 := [ob 3 h0 [.ref h1, .ref h2, .ref h3, .int (nI (z - k))], ai E h1 8 (rmi rn a k z), ai E h2 8 (rmi rb a k z), ai E h3 8 (rmi rs a k z)]) rfl ?_
          exact hret _ _ _ dX3_remove_55 rfl
        · skip
          refine g_aload_n F 0 dX3_remove_31 rfl rfl ?_
          refine g_iload_n F 3 dX3_remove_32 rfl rfl ?_
          refine g_iload_n F 3 dX3_remove_33 rfl rfl ?_
          refine g_iload_n F 2 dX3_remove_34 rfl rfl ?_
          refine g_isubN F dX3_remove_35 (by omega) ?_
          refine g_callVvW (n := 2) F [0, 1, 2, 3] (c_X3_move l E h0 h1 h2 h3 z (rmi rn a k i) (rmi rb a k i) (rmi rs a k i) i (i - k) (by omega) (by omega)) dX3_remove_36 rfl (by decide) rfl rfl rfl (Nat.le_of_ble_eq_true rfl) ⟨Nat.le_of_ble_eq_true rfl, Nat.le_of_ble_eq_true rfl⟩ rfl rfl ⟨Nat.le_of_ble_eq_true rfl, Nat.le_of_ble_eq_true rfl⟩ 0 rfl rfl gX3_remove_X3_move (by decide +kernel) (fun u hp => by obtain rfl := hp; rfl) ?_
          rintro u_36 rfl
          refine g_ws (w2 := [ob 3 h0 [.ref h1, .ref h2, .ref h3, .int (nI z)], ai E h1 8 (up (rmi rn a k i) (i - k) ((rmi rn a k i) i)), ai E h2 8 (up (rmi rb a k i) (i - k) ((rmi rb a k i) i)), ai E h3 8 (up (rmi rs a k i) (i - k) ((rmi rs a k i) i))]) rfl ?_
          refine g_iinc (k := 3) (v := nI (i + 1)) (lv2 := [(3, .int (nI (i + 1))), (0, .ref h0), (1, .int (nI a)), (2, .int (nI k))]) F dX3_remove_39 rfl (nI_1 _) (by decide) rfl ?_
          refine g_goto (tgt := 23) F dX3_remove_42 (by decide) ?_
          refine g_aiC 1 rfl (rmi rn a k (i + 1)) (by intro j hj; simp only [rmi, up]; (repeat' split) <;> first | rfl | omega | (congr 1; omega) | (exfalso; omega)) (w2 := [ob 3 h0 [.ref h1, .ref h2, .ref h3, .int (nI z)], ai E h1 8 (rmi rn a k (i + 1)), ai E h2 8 (up (rmi rb a k i) (i - k) ((rmi rb a k i) i)), ai E h3 8 (up (rmi rs a k i) (i - k) ((rmi rs a k i) i))]) rfl ?_
          refine g_aiC 2 rfl (rmi rb a k (i + 1)) (by intro j hj; simp only [rmi, up]; (repeat' split) <;> first | rfl | omega | (congr 1; omega) | (exfalso; omega)) (w2 := [ob 3 h0 [.ref h1, .ref h2, .ref h3, .int (nI z)], ai E h1 8 (rmi rn a k (i + 1)), ai E h2 8 (rmi rb a k (i + 1)), ai E h3 8 (up (rmi rs a k i) (i - k) ((rmi rs a k i) i))]) rfl ?_
          refine g_aiC 3 rfl (rmi rs a k (i + 1)) (by intro j hj; simp only [rmi, up]; (repeat' split) <;> first | rfl | omega | (congr 1; omega) | (exfalso; omega)) (w2 := [ob 3 h0 [.ref h1, .ref h2, .ref h3, .int (nI z)], ai E h1 8 (rmi rn a k (i + 1)), ai E h2 8 (rmi rb a k (i + 1)), ai E h3 8 (rmi rs a k (i + 1))]) rfl ?_
          refine g_lv [1, 2, 3, 0] rfl ?_
          exact ih23 (i + 1) (by omega) (by omega) (by omega)
    refine g_aiC 1 rfl (rmi rn a k (a + k)) (by intro j hj; simp only [rmi]; (repeat' split) <;> first | rfl | omega | (congr 1; omega) | (exfalso; omega)) (w2 := [ob 3 h0 [.ref h1, .ref h2, .ref h3, .int (nI z)], ai E h1 8 (rmi rn a k (a + k)), ai E h2 8 rb, ai E h3 8 rs]) rfl ?_
    refine g_aiC 2 rfl (rmi rb a k (a + k)) (by intro j hj; simp only [rmi]; (repeat' split) <;> first | rfl | omega | (congr 1; omega) | (exfalso; omega)) (w2 := [ob 3 h0 [.ref h1, .ref h2, .ref h3, .int (nI z)], ai E h1 8 (rmi rn a k (a + k)), ai E h2 8 (rmi rb a k (a + k)), ai E h3 8 rs]) rfl ?_
    refine g_aiC 3 rfl (rmi rs a k (a + k)) (by intro j hj; simp only [rmi]; (repeat' split) <;> first | rfl | omega | (congr 1; omega) | (exfalso; omega)) (w2 := [ob 3 h0 [.ref h1, .ref h2, .ref h3, .int (nI z)], ai E h1 8 (rmi rn a k (a + k)), ai E h2 8 (rmi rb a k (a + k)), ai E h3 8 (rmi rs a k (a + k))]) rfl ?_
    refine g_lv [1, 2, 3, 0] rfl ?_
    exact loop23 ((z - (a + k)) + 1) (a + k) (Nat.lt_succ_self _) (by omega) (by omega)
  · skip
    exact absurd c15 (by omega)
set_option maxHeartbeats 4000000 in
set_option maxRecDepth 100000 in
theorem c_X3_copyFrom (l : Launch) (E : En) (h0 : Nat) (h1 : Nat) (h2 : Nat) (h3 : Nat) (z : Nat) (rn : Nat → Nat) (rb : Nat → Nat) (rs : Nat → Nat) (k0 : Nat) (k1 : Nat) (k2 : Nat) (k3 : Nat) (y : Nat) (tn : Nat → Nat) (tb : Nat → Nat) (ts : Nat → Nat)  : CtV l yX3_copyFrom wsX3_copyFrom ({ frames := 0, cells := 0, slots := 0, locals := 0 } : Room) E [.ref h0, .ref k0] [ob 3 h0 [.ref h1, .ref h2, .ref h3, .int (nI z)], ai E h1 8 rn, ai E h2 8 rb, ai E h3 8 rs, ob 3 k0 [.ref k1, .ref k2, .ref k3, .int (nI y)], ai E k1 8 tn, ai E k2 8 tb, ai E k3 8 ts] (fun uu => uu = [ob 3 h0 [.ref h1, .ref h2, .ref h3, .int (nI y)], ai E h1 8 tn, ai E h2 8 tb, ai E h3 8 ts, ob 3 k0 [.ref k1, .ref k2, .ref k3, .int (nI y)], ai E k1 8 tn, ai E k2 8 tb, ai E k3 8 ts]) := by
  refine CtV.of cX3_copyFrom 3 RX3 rfl (by decide) rfl (Nat.le_of_ble_eq_true rfl) ?_
  intro Γ F hin0 hret
  show G Γ E 0 0 0 [(0, .ref h0), (1, .ref k0)] [] [ob 3 h0 [.ref h1, .ref h2, .ref h3, .int (nI z)], ai E h1 8 rn, ai E h2 8 rb, ai E h3 8 rs, ob 3 k0 [.ref k1, .ref k2, .ref k3, .int (nI y)], ai E k1 8 tn, ai E k2 8 tb, ai E k3 8 ts]
  refine g_iconst (v := nI 0) F dX3_copyFrom_0 (by decide) ?_
  refine g_istore_n (lv2 := [(2, .int (nI 0)), (0, .ref h0), (1, .ref k0)]) F dX3_copyFrom_1 rfl (by decide) rfl ?_
  have loop2 : ∀ (n : Nat) (i : Nat) (A : Nat → Nat) (Bb : Nat → Nat) (Cc : Nat → Nat), 8 - i < n → (i ≤ 8) → (∀ j, j < i → A j = tn j) → (∀ j, j < i → Bb j = tb j) → (∀ j, j < i → Cc j = ts j) → G Γ E (0) (0) 2 [(0, .ref h0), (1, .ref k0), (2, .int (nI i))] [] [ob 3 h0 [.ref h1, .ref h2, .ref h3, .int (nI z)], ai E h1 8 A, ai E h2 8 Bb, ai E h3 8 Cc, ob 3 k0 [.ref k1, .ref k2, .ref k3, .int (nI y)], ai E k1 8 tn, ai E k2 8 tb, ai E k3 8 ts] := by
    intro n
    induction n with
    | zero => intro i A Bb Cc hz; exact absurd hz (Nat.not_lt_zero _)
    | succ n ih2 =>
      intro i A Bb Cc hz2 hi hA hB hC
      refine g_iload_n F 2 dX3_copyFrom_2 rfl rfl ?_
      refine g_bipush (v := nI 8) F dX3_copyFrom_3 (by decide) ?_
      refine g_icmp_geN (tgt := 50) F dX3_copyFrom_5 (by decide) (by omega) (by omega) (fun c5 => ?_) (fun c5 => ?_)
      · skip
        refine g_aiC 1 rfl (tn) (by intro j hj; exact hA j (by omega)) (w2 := [ob 3 h0 [.ref h1, .ref h2, .ref h3, .int (nI z)], ai E h1 8 tn, ai E h2 8 Bb, ai E h3 8 Cc, ob 3 k0 [.ref k1, .ref k2, .ref k3, .int (nI y)], ai E k1 8 tn, ai E k2 8 tb, ai E k3 8 ts]) rfl ?_
        refine g_aiC 2 rfl (tb) (by intro j hj; exact hB j (by omega)) (w2 := [ob 3 h0 [.ref h1, .ref h2, .ref h3, .int (nI z)], ai E h1 8 tn, ai E h2 8 tb, ai E h3 8 Cc, ob 3 k0 [.ref k1, .ref k2, .ref k3, .int (nI y)], ai E k1 8 tn, ai E k2 8 tb, ai E k3 8 ts]) rfl ?_
        refine g_aiC 3 rfl (ts) (by intro j hj; exact hC j (by omega)) (w2 := [ob 3 h0 [.ref h1, .ref h2, .ref h3, .int (nI z)], ai E h1 8 tn, ai E h2 8 tb, ai E h3 8 ts, ob 3 k0 [.ref k1, .ref k2, .ref k3, .int (nI y)], ai E k1 8 tn, ai E k2 8 tb, ai E k3 8 ts]) rfl ?_
        refine g_aload_n F 0 dX3_copyFrom_50 rfl rfl ?_
        refine g_aload_n F 1 dX3_copyFrom_51 rfl rfl ?_
        refine g_get F 4 3 dX3_copyFrom_52 rfl rfl (by decide) (by decide +kernel) (by decide +kernel) rfl ?_
        refine g_put F 0 3 dX3_copyFrom_55 rfl rfl (by decide) (by decide +kernel) (by decide +kernel) tyX3_ok nmX3 rfl (by decide +kernel) rfl rfl (Nat.le_of_ble_eq_true rfl) rfl (ty := .int) (w2 := [ob 3 h0 [.ref h1, .ref h2, .ref h3, .int (nI y)], ai E h1 8 tn, ai E h2 8 tb, ai E h3 8 ts, ob 3 k0 [.ref k1, .ref k2, .ref k3, .int (nI y)], ai E k1 8 tn, ai E k2 8 tb, ai E k3 8 ts]) rfl ?_
        exact hret _ _ _ dX3_copyFrom_58 rfl
      · skip
        refine g_aload_n F 0 dX3_copyFrom_8 rfl rfl ?_
        refine g_get F 0 0 dX3_copyFrom_9 rfl rfl (by decide) (by decide +kernel) (by decide +kernel) rfl ?_
        refine g_iload_n F 2 dX3_copyFrom_12 rfl rfl ?_
        refine g_aload_n F 1 dX3_copyFrom_13 rfl rfl ?_
        refine g_get F 4 0 dX3_copyFrom_14 rfl rfl (by decide) (by decide +kernel) (by decide +kernel) rfl ?_
        refine g_iload_n F 2 dX3_copyFrom_17 rfl rfl ?_
        refine g_iald F 5 dX3_copyFrom_18 rfl (by omega) (by decide) ?_
        refine g_iast F 1 dX3_copyFrom_19 rfl (by omega) (by decide) (w2 := [ob 3 h0 [.ref h1, .ref h2, .ref h3, .int (nI z)], ai E h1 8 (up A i (tn i)), ai E h2 8 Bb, ai E h3 8 Cc, ob 3 k0 [.ref k1, .ref k2, .ref k3, .int (nI y)], ai E k1 8 tn, ai E k2 8 tb, ai E k3 8 ts]) rfl ?_
        refine g_aload_n F 0 dX3_copyFrom_20 rfl rfl ?_
        refine g_get F 0 1 dX3_copyFrom_21 rfl rfl (by decide) (by decide +kernel) (by decide +kernel) rfl ?_
        refine g_iload_n F 2 dX3_copyFrom_24 rfl rfl ?_
        refine g_aload_n F 1 dX3_copyFrom_25 rfl rfl ?_
        refine g_get F 4 1 dX3_copyFrom_26 rfl rfl (by decide) (by decide +kernel) (by decide +kernel) rfl ?_
        refine g_iload_n F 2 dX3_copyFrom_29 rfl rfl ?_
        refine g_iald F 6 dX3_copyFrom_30 rfl (by omega) (by decide) ?_
        refine g_iast F 2 dX3_copyFrom_31 rfl (by omega) (by decide) (w2 := [ob 3 h0 [.ref h1, .ref h2, .ref h3, .int (nI z)], ai E h1 8 (up A i (tn i)), ai E h2 8 (up Bb i (tb i)), ai E h3 8 Cc, ob 3 k0 [.ref k1, .ref k2, .ref k3, .int (nI y)], ai E k1 8 tn, ai E k2 8 tb, ai E k3 8 ts]) rfl ?_
        refine g_aload_n F 0 dX3_copyFrom_32 rfl rfl ?_
        refine g_get F 0 2 dX3_copyFrom_33 rfl rfl (by decide) (by decide +kernel) (by decide +kernel) rfl ?_
        refine g_iload_n F 2 dX3_copyFrom_36 rfl rfl ?_
        refine g_aload_n F 1 dX3_copyFrom_37 rfl rfl ?_
        refine g_get F 4 2 dX3_copyFrom_38 rfl rfl (by decide) (by decide +kernel) (by decide +kernel) rfl ?_
        refine g_iload_n F 2 dX3_copyFrom_41 rfl rfl ?_
        refine g_iald F 7 dX3_copyFrom_42 rfl (by omega) (by decide) ?_
        refine g_iast F 3 dX3_copyFrom_43 rfl (by omega) (by decide) (w2 := [ob 3 h0 [.ref h1, .ref h2, .ref h3, .int (nI z)], ai E h1 8 (up A i (tn i)), ai E h2 8 (up Bb i (tb i)), ai E h3 8 (up Cc i (ts i)), ob 3 k0 [.ref k1, .ref k2, .ref k3, .int (nI y)], ai E k1 8 tn, ai E k2 8 tb, ai E k3 8 ts]) rfl ?_
        refine g_iinc (k := 2) (v := nI (i + 1)) (lv2 := [(2, .int (nI (i + 1))), (0, .ref h0), (1, .ref k0)]) F dX3_copyFrom_44 rfl (nI_1 _) (by decide) rfl ?_
        refine g_goto (tgt := 2) F dX3_copyFrom_47 (by decide) ?_
        refine g_lv [1, 2, 0] rfl ?_
        exact ih2 (i + 1) (up A i (tn i)) (up Bb i (tb i)) (up Cc i (ts i)) (by omega) (by omega) (by intro j hj; by_cases h : j = i; (rw [h]; exact up_s A i _); (rw [up_n A _ h]; exact hA j (by omega))) (by intro j hj; by_cases h : j = i; (rw [h]; exact up_s Bb i _); (rw [up_n Bb _ h]; exact hB j (by omega))) (by intro j hj; by_cases h : j = i; (rw [h]; exact up_s Cc i _); (rw [up_n Cc _ h]; exact hC j (by omega)))
  refine g_lv [1, 2, 0] rfl ?_
  exact loop2 ((8 - 0) + 1) 0 rn rb rs (Nat.lt_succ_self _) (by omega) (by intro j hj; omega) (by intro j hj; omega) (by intro j hj; omega)
