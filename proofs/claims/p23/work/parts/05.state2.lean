/-! the class State: what is unlike, whose blocks are in use -/
theorem shl1 : ∀ i : Nat, i < 16 → nI 1 <<< (nI i &&& 31) = nI (2 ^ i) := by decide +kernel
theorem shl4 : ∀ w : Nat, w < 16 → ∀ k : Nat, k < 4 → nI w <<< (nI (4 * k) &&& 31) = nI (w * 2 ^ (4 * k)) := by decide +kernel
theorem nI_or (a b : Nat) : nI a ||| nI b = nI (a ||| b) := by
  show Int32.ofNat a ||| Int32.ofNat b = Int32.ofNat (a ||| b)
  apply Int32.toBitVec_inj.mp
  rw [Int32.toBitVec_or]
  show BitVec.ofNat 32 a ||| BitVec.ofNat 32 b = BitVec.ofNat 32 (a ||| b)
  apply BitVec.eq_of_toNat_eq
  simp [BitVec.toNat_or, BitVec.toNat_ofNat, Nat.or_mod_two_pow]
def ucs (N : Nat → Nat) (c b c2 b2 : Nat) : Nat → Nat
  | 0 => 0
  | k + 1 => if nu N c b k / 256 = nu N c2 b2 k / 256 then ucs N c b c2 b2 k else ucs N c b c2 b2 k ||| 2 ^ k
theorem ucs_lt (N : Nat → Nat) (c b c2 b2 : Nat) : ∀ k, ucs N c b c2 b2 k < 2 ^ k
  | 0 => Nat.one_pos
  | k + 1 => by
    have h := ucs_lt N c b c2 b2 k
    have h2 : 2 ^ k < 2 ^ (k + 1) := Nat.pow_lt_pow_right (by decide) (Nat.lt_succ_self k)
    unfold ucs; split
    · omega
    · exact Nat.or_lt_two_pow (by omega) h2
def ucn (N : Nat → Nat) (p q : Nat) : Nat := if p / 256 = q / 256 then 0 else if tk N (p / 256) (p % 256) = 2 then 16 else if tk N (q / 256) (q % 256) = 2 then 16 else ucs N (tk N (p / 256) (p % 256)) (p / 256) (tk N (q / 256) (q % 256)) (q / 256) 4
def ucI (n : Nat) : Int32 := if n = 16 then (-1000002) else nI n
theorem ucn_le (N : Nat → Nat) (p q : Nat) : ucn N p q ≤ 16 := by
  have := ucs_lt N (tk N (p / 256) (p % 256)) (p / 256) (tk N (q / 256) (q % 256)) (q / 256) 4
  unfold ucn; (repeat' split) <;> omega
theorem ucI_ok {n : Nat} (h : (0 : Int32) ≤ ucI n) : ¬ n = 16 := fun z => by
  subst z
  exact absurd h (by decide)
theorem ucI_no {n : Nat} (hn : n ≤ 16) (h : ¬ (0 : Int32) ≤ ucI n) : n = 16 := by
  by_cases z : n = 16
  · exact z
  · exact absurd (by unfold ucI; rw [if_neg z]; exact nI_pos' (by omega)) h
def uln (N : Nat → Nat) (c b c2 b2 : Nat) : Nat → Nat
  | 0 => 0
  | k + 1 => if uln N c b c2 b2 k = 65536 then 65536 else if ucn N (nu N c b k) (nu N c2 b2 k) = 16 then 65536 else uln N c b c2 b2 k ||| ucn N (nu N c b k) (nu N c2 b2 k) * 2 ^ (4 * k)
def uly (N : Nat → Nat) (b s b2 s2 : Nat) : Nat := if b = b2 then 0 else if tk N b s = 2 then 65536 else if tk N b2 s2 = 2 then 65536 else uln N (tk N b s) b (tk N b2 s2) b2 4
def ulI (n : Nat) : Int32 := if n = 65536 then (-1000002) else nI n
theorem uln_one {N : Nat → Nat} {c b c2 b2 k : Nat} (h : uln N c b c2 b2 k = 65536) : ∀ m, k ≤ m → uln N c b c2 b2 m = 65536 := by
  intro m
  induction m with
  | zero => intro hk; rw [show k = 0 by omega] at h; exact h
  | succ m ih =>
    intro hk
    by_cases z : k ≤ m
    · unfold uln; rw [if_pos (ih z)]
    · rw [show k = m + 1 by omega] at h; exact h
theorem uln_at {N : Nat → Nat} {c b c2 b2 k : Nat} (h : ucn N (nu N c b k) (nu N c2 b2 k) = 16) : uln N c b c2 b2 (k + 1) = 65536 := by
  unfold uln; split
  · rfl
  · first | rfl | rw [if_pos h]
theorem uln_lt {N : Nat → Nat} {c b c2 b2 : Nat} : ∀ k, k ≤ 4 → ¬ uln N c b c2 b2 k = 65536 → uln N c b c2 b2 k < 2 ^ (4 * k)
  | 0, _, _ => Nat.one_pos
  | k + 1, hk, h => by
    have h1 : ¬ uln N c b c2 b2 k = 65536 := fun z => h (uln_one z _ (Nat.le_succ k))
    have ih := uln_lt k (by omega) h1
    have hu := ucn_le N (nu N c b k) (nu N c2 b2 k)
    unfold uln at h ⊢
    rw [if_neg h1] at h ⊢
    by_cases h2 : ucn N (nu N c b k) (nu N c2 b2 k) = 16
    · rw [if_pos h2] at h; exact absurd rfl h
    · rw [if_neg h2]
      have e : 2 ^ (4 * (k + 1)) = 16 * 2 ^ (4 * k) := by rw [show 4 * (k + 1) = 4 + 4 * k by omega, Nat.pow_add]
      have hz : 0 < 2 ^ (4 * k) := Nat.two_pow_pos _
      refine Nat.or_lt_two_pow ?_ ?_
      · rw [e]; omega
      · rw [e]; exact Nat.mul_lt_mul_of_pos_right (by omega) hz
theorem uln_nx {N : Nat → Nat} {c b c2 b2 k z : Nat} (hz : z = uln N c b c2 b2 k) (hz2 : ¬ z = 65536) (hu : ¬ ucn N (nu N c b k) (nu N c2 b2 k) = 16) : z ||| ucn N (nu N c b k) (nu N c2 b2 k) * 2 ^ (4 * k) = uln N c b c2 b2 (k + 1) := by
  subst hz
  show _ = if uln N c b c2 b2 k = 65536 then 65536 else if ucn N (nu N c b k) (nu N c2 b2 k) = 16 then 65536 else uln N c b c2 b2 k ||| ucn N (nu N c b k) (nu N c2 b2 k) * 2 ^ (4 * k)
  rw [if_neg hz2, if_neg hu]
theorem uln_ne {N : Nat → Nat} {c b c2 b2 k z : Nat} (hk : k < 4) (hz : z = uln N c b c2 b2 k) (hz2 : ¬ z = 65536) (hu : ¬ ucn N (nu N c b k) (nu N c2 b2 k) = 16) : ¬ (z ||| ucn N (nu N c b k) (nu N c2 b2 k) * 2 ^ (4 * k)) = 65536 := by
  have h6 := ucn_le N (nu N c b k) (nu N c2 b2 k)
  have h7 : z < 2 ^ (4 * k) := by rw [hz]; exact uln_lt k (by omega) (by rw [← hz]; exact hz2)
  have e : 2 ^ (4 * (k + 1)) = 16 * 2 ^ (4 * k) := by rw [show 4 * (k + 1) = 4 + 4 * k by omega, Nat.pow_add]
  have hp : 0 < 2 ^ (4 * k) := Nat.two_pow_pos _
  have h4 : z ||| ucn N (nu N c b k) (nu N c2 b2 k) * 2 ^ (4 * k) < 2 ^ (4 * (k + 1)) := Nat.or_lt_two_pow (by rw [e]; omega) (by rw [e]; exact Nat.mul_lt_mul_of_pos_right (by omega) hp)
  have h3 : 2 ^ (4 * (k + 1)) ≤ 2 ^ 16 := Nat.pow_le_pow_right (by decide) (by omega)
  have h2 : (2 : Nat) ^ 16 = 65536 := by decide
  omega
set_option maxHeartbeats 4000000 in
set_option maxRecDepth 100000 in
theorem c_X5_hasUnlikeCopies (l : Launch) (E : En) (s0 : Nat) (s1 : Nat) (s2 : Nat) (s3 : Nat) (s4 : Nat) (mi : Nat) (wr : Nat) (N : Nat → Nat) (g0 : Nat) (g1 : Nat) (g2 : Nat) (g3 : Nat) (g4 : Nat) (td : Nat) (eb : Nat → Nat) (htd : td = 3) (hb : ∀ v : Nat, v < 3 → eb v < 96) (hN : BN N) : CtI l yX5_hasUnlikeCopies wsX5_hasUnlikeCopies ({ frames := 3, cells := 0, slots := 0, locals := 68 } : Room) E [.ref s0, .ref g0] [ob 5 s0 [.ref s1, .ref s2, .ref s3, .int (nI mi), .int (nI wr)], ob 1 s1 [.ref s4], ai E s4 768 N, ob 7 g0 [.ref g1, .ref g2, .ref g3, .ref g4, .int (nI td)], ai E g1 3 eb] (fun rr uu => rr = (bi (∃ v : Nat, v < 3 ∧ ¬ al N (eb v))) ∧ uu = [ob 5 s0 [.ref s1, .ref s2, .ref s3, .int (nI mi), .int (nI wr)], ob 1 s1 [.ref s4], ai E s4 768 N, ob 7 g0 [.ref g1, .ref g2, .ref g3, .ref g4, .int (nI td)], ai E g1 3 eb]) := by
  refine CtI.of cX5_hasUnlikeCopies 3 RX5 .boolean rfl (by decide) rfl (Or.inr rfl) (Nat.le_of_ble_eq_true rfl) (fun _ r u hp => by obtain ⟨rfl, -⟩ := hp; exact bi_narrow _) ?_
  intro Γ F hret
  show G Γ E 0 0 0 [(0, .ref s0), (1, .ref g0)] [] [ob 5 s0 [.ref s1, .ref s2, .ref s3, .int (nI mi), .int (nI wr)], ob 1 s1 [.ref s4], ai E s4 768 N, ob 7 g0 [.ref g1, .ref g2, .ref g3, .ref g4, .int (nI td)], ai E g1 3 eb]
  refine g_iconst (v := nI 0) F dX5_hasUnlikeCopies_0 (by decide) ?_
  refine g_istore_n (lv2 := [(2, .int (nI 0)), (0, .ref s0), (1, .ref g0)]) F dX5_hasUnlikeCopies_1 rfl (by decide) rfl ?_
  have loop2 : ∀ (n : Nat) (i : Nat), 3 - i < n → (i ≤ 3) → (∀ k : Nat, k < i → al N (eb k)) → G Γ E (0) (0) 2 [(0, .ref s0), (1, .ref g0), (2, .int (nI i))] [] [ob 5 s0 [.ref s1, .ref s2, .ref s3, .int (nI mi), .int (nI wr)], ob 1 s1 [.ref s4], ai E s4 768 N, ob 7 g0 [.ref g1, .ref g2, .ref g3, .ref g4, .int (nI td)], ai E g1 3 eb] := by
    intro n
    induction n with
    | zero => intro i hz; exact absurd hz (Nat.not_lt_zero _)
    | succ n ih2 =>
      intro i hz2 hi hk
      refine g_iload_n F 2 dX5_hasUnlikeCopies_2 rfl rfl ?_
      refine g_iconst (v := nI 2) F dX5_hasUnlikeCopies_3 (by decide) ?_
      refine g_icmp_gtN (tgt := 30) F dX5_hasUnlikeCopies_4 (by decide) (by omega) (by omega) (fun c4 => ?_) (fun c4 => ?_)
      · skip
        refine g_iconst (v := nI 0) F dX5_hasUnlikeCopies_30 (by decide) ?_
        exact hret _ _ _ _ dX5_hasUnlikeCopies_31 ⟨(bi_neg (by intro ⟨v, h1, h2⟩; exact h2 (hk v (by omega)))).symm, rfl⟩
      · skip
        refine g_aload_n F 0 dX5_hasUnlikeCopies_7 rfl rfl ?_
        refine g_get F 0 0 dX5_hasUnlikeCopies_8 rfl rfl (by decide) (by decide +kernel) (by decide +kernel) rfl ?_
        refine g_aload_n F 1 dX5_hasUnlikeCopies_11 rfl rfl ?_
        refine g_iload_n F 2 dX5_hasUnlikeCopies_12 rfl rfl ?_
        refine g_callViR (n := 1) F [3, 4] (c_X7_blockAt l E g0 g1 g2 g3 g4 td eb i (by omega) (by omega)) dX5_hasUnlikeCopies_13 rfl (by decide) rfl rfl rfl (Nat.le_of_ble_eq_true rfl) ⟨Nat.le_of_ble_eq_true rfl, Nat.le_of_ble_eq_true rfl⟩ rfl rfl ⟨Nat.le_of_ble_eq_true rfl, Nat.le_of_ble_eq_true rfl⟩ 3 rfl rfl gX5_hasUnlikeCopies_X7_blockAt (by decide +kernel) (fun r u hp => by obtain ⟨-, h⟩ := hp; exact h) ?_
        rintro r_13 u_13 ⟨rfl, -⟩
        refine g_callViR (n := 1) F [1, 2] (c_X1_alike l E s1 s4 N (eb i) (by exact hb i (by omega)) (by assumption)) dX5_hasUnlikeCopies_16 rfl (by decide) rfl rfl rfl (Nat.le_of_ble_eq_true rfl) ⟨Nat.le_of_ble_eq_true rfl, Nat.le_of_ble_eq_true rfl⟩ rfl rfl ⟨Nat.le_of_ble_eq_true rfl, Nat.le_of_ble_eq_true rfl⟩ 1 rfl rfl gX5_hasUnlikeCopies_X1_alike (by decide +kernel) (fun r u hp => by obtain ⟨-, h⟩ := hp; exact h) ?_
        rintro r_16 u_16 ⟨rfl, -⟩
        refine g_if_neB (tgt := 24) F dX5_hasUnlikeCopies_19 (by decide) (fun c19 => ?_) (fun c19 => ?_)
        · skip
          refine g_iinc (k := 2) (v := nI (i + 1)) (lv2 := [(2, .int (nI (i + 1))), (0, .ref s0), (1, .ref g0)]) F dX5_hasUnlikeCopies_24 rfl (nI_1 _) (by decide) rfl ?_
          refine g_goto (tgt := 2) F dX5_hasUnlikeCopies_27 (by decide) ?_
          refine g_lv [1, 2, 0] rfl ?_
          exact ih2 (i + 1) (by omega) (by omega) (by intro k hk2; by_cases h : k = i; (rw [h]; exact c19); exact hk k (by omega))
        · skip
          refine g_iconst (v := nI 1) F dX5_hasUnlikeCopies_22 (by decide) ?_
          exact hret _ _ _ _ dX5_hasUnlikeCopies_23 ⟨(bi_pos (by exact ⟨i, by omega, c19⟩)).symm, rfl⟩
  refine g_lv [1, 2, 0] rfl ?_
  exact loop2 ((3 - 0) + 1) 0 (Nat.lt_succ_self _) (by omega) (by intro k hk; omega)
set_option maxHeartbeats 4000000 in
set_option maxRecDepth 100000 in
theorem c_X5_unlikeInUse (l : Launch) (E : En) (s0 : Nat) (s1 : Nat) (s2 : Nat) (s3 : Nat) (s4 : Nat) (s5 : Nat) (mi : Nat) (wr : Nat) (N : Nat → Nat) (U : Nat → Nat) (hU : BU U) (hN : BN N) : CtI l yX5_unlikeInUse wsX5_unlikeInUse ({ frames := 3, cells := 0, slots := 0, locals := 68 } : Room) E [.ref s0] [ob 5 s0 [.ref s1, .ref s2, .ref s3, .int (nI mi), .int (nI wr)], ob 1 s1 [.ref s4], ai E s4 768 N, ob 0 s2 [.ref s5], az E s5 96 U] (fun rr uu => rr = (nI (cu N U 96)) ∧ uu = [ob 5 s0 [.ref s1, .ref s2, .ref s3, .int (nI mi), .int (nI wr)], ob 1 s1 [.ref s4], ai E s4 768 N, ob 0 s2 [.ref s5], az E s5 96 U]) := by
  refine CtI.of cX5_unlikeInUse 3 RX5 .int rfl (by decide) rfl (Or.inl rfl) (Nat.le_of_ble_eq_true rfl) (fun h => by cases h) ?_
  intro Γ F hret
  show G Γ E 0 0 0 [(0, .ref s0)] [] [ob 5 s0 [.ref s1, .ref s2, .ref s3, .int (nI mi), .int (nI wr)], ob 1 s1 [.ref s4], ai E s4 768 N, ob 0 s2 [.ref s5], az E s5 96 U]
  refine g_iconst (v := nI 0) F dX5_unlikeInUse_0 (by decide) ?_
  refine g_istore_n (lv2 := [(1, .int (nI 0)), (0, .ref s0)]) F dX5_unlikeInUse_1 rfl (by decide) rfl ?_
  refine g_iconst (v := nI 0) F dX5_unlikeInUse_2 (by decide) ?_
  refine g_istore_n (lv2 := [(2, .int (nI 0)), (1, .int (nI 0)), (0, .ref s0)]) F dX5_unlikeInUse_3 rfl (by decide) rfl ?_
  have loop4 : ∀ (n : Nat) (i : Nat) (z : Nat), 96 - i < n → (i ≤ 96) → (z = cu N U i) → G Γ E (0) (0) 4 [(0, .ref s0), (1, .int (nI z)), (2, .int (nI i))] [] [ob 5 s0 [.ref s1, .ref s2, .ref s3, .int (nI mi), .int (nI wr)], ob 1 s1 [.ref s4], ai E s4 768 N, ob 0 s2 [.ref s5], az E s5 96 U] := by
    intro n
    induction n with
    | zero => intro i z hz; exact absurd hz (Nat.not_lt_zero _)
    | succ n ih4 =>
      intro i z hz4 hi hz
      refine g_iload_n F 2 dX5_unlikeInUse_4 rfl rfl ?_
      refine g_bipush (v := nI 96) F dX5_unlikeInUse_5 (by decide) ?_
      refine g_icmp_geN (tgt := 41) F dX5_unlikeInUse_7 (by decide) (by omega) (by omega) (fun c7 => ?_) (fun c7 => ?_)
      · skip
        refine g_iload_n F 1 dX5_unlikeInUse_41 rfl rfl ?_
        exact hret _ _ _ _ dX5_unlikeInUse_42 ⟨(congrArg nI (by rw [hz, show i = 96 by omega])), rfl⟩
      · skip
        refine g_aload_n F 0 dX5_unlikeInUse_10 rfl rfl ?_
        refine g_get F 0 1 dX5_unlikeInUse_11 rfl rfl (by decide) (by decide +kernel) (by decide +kernel) rfl ?_
        refine g_iload_n F 2 dX5_unlikeInUse_14 rfl rfl ?_
        refine g_callViR (n := 1) F [3, 4] (c_X0_holds l E s2 s5 U i (by omega) (by assumption)) dX5_unlikeInUse_15 rfl (by decide) rfl rfl rfl (Nat.le_of_ble_eq_true rfl) ⟨Nat.le_of_ble_eq_true rfl, Nat.le_of_ble_eq_true rfl⟩ rfl rfl ⟨Nat.le_of_ble_eq_true rfl, Nat.le_of_ble_eq_true rfl⟩ 3 rfl rfl gX5_unlikeInUse_X0_holds (by decide +kernel) (fun r u hp => by obtain ⟨-, h⟩ := hp; exact h) ?_
        rintro r_15 u_15 ⟨rfl, -⟩
        refine g_if_eqB (tgt := 35) F dX5_unlikeInUse_18 (by decide) (fun c18 => ?_) (fun c18 => ?_)
        · skip
          refine g_iinc (k := 2) (v := nI (i + 1)) (lv2 := [(2, .int (nI (i + 1))), (0, .ref s0), (1, .int (nI z))]) F dX5_unlikeInUse_35 rfl (nI_1 _) (by decide) rfl ?_
          refine g_goto (tgt := 4) F dX5_unlikeInUse_38 (by decide) ?_
          refine g_lv [1, 2, 0] rfl ?_
          exact ih4 (i + 1) z (by omega) (by omega) (by first | rw [cu_a (Or.inl (Classical.byContradiction (fun q => c18 ⟨by omega, q⟩))), hz] | rw [cu_a (Or.inr c29), hz] | rw [cu_b c18.2 c29, hz])
        · skip
          refine g_aload_n F 0 dX5_unlikeInUse_21 rfl rfl ?_
          refine g_get F 0 0 dX5_unlikeInUse_22 rfl rfl (by decide) (by decide +kernel) (by decide +kernel) rfl ?_
          refine g_iload_n F 2 dX5_unlikeInUse_25 rfl rfl ?_
          refine g_callViR (n := 1) F [1, 2] (c_X1_alike l E s1 s4 N i (by omega) (by assumption)) dX5_unlikeInUse_26 rfl (by decide) rfl rfl rfl (Nat.le_of_ble_eq_true rfl) ⟨Nat.le_of_ble_eq_true rfl, Nat.le_of_ble_eq_true rfl⟩ rfl rfl ⟨Nat.le_of_ble_eq_true rfl, Nat.le_of_ble_eq_true rfl⟩ 1 rfl rfl gX5_unlikeInUse_X1_alike (by decide +kernel) (fun r u hp => by obtain ⟨-, h⟩ := hp; exact h) ?_
          rintro r_26 u_26 ⟨rfl, -⟩
          refine g_if_neB (tgt := 35) F dX5_unlikeInUse_29 (by decide) (fun c29 => ?_) (fun c29 => ?_)
          · skip
            refine g_iinc (k := 2) (v := nI (i + 1)) (lv2 := [(2, .int (nI (i + 1))), (0, .ref s0), (1, .int (nI z))]) F dX5_unlikeInUse_35 rfl (nI_1 _) (by decide) rfl ?_
            refine g_goto (tgt := 4) F dX5_unlikeInUse_38 (by decide) ?_
            refine g_lv [1, 2, 0] rfl ?_
            exact ih4 (i + 1) z (by omega) (by omega) (by first | rw [cu_a (Or.inl (Classical.byContradiction (fun q => c18 ⟨by omega, q⟩))), hz] | rw [cu_a (Or.inr c29), hz] | rw [cu_b c18.2 c29, hz])
          · skip
            refine g_iinc (k := 1) (v := nI (z + 1)) (lv2 := [(1, .int (nI (z + 1))), (0, .ref s0), (2, .int (nI i))]) F dX5_unlikeInUse_32 rfl (nI_1 _) (by decide) rfl ?_
            refine g_iinc (k := 2) (v := nI (i + 1)) (lv2 := [(2, .int (nI (i + 1))), (1, .int (nI (z + 1))), (0, .ref s0)]) F dX5_unlikeInUse_35 rfl (nI_1 _) (by decide) rfl ?_
            refine g_goto (tgt := 4) F dX5_unlikeInUse_38 (by decide) ?_
            refine g_lv [2, 1, 0] rfl ?_
            exact ih4 (i + 1) (z + 1) (by omega) (by omega) (by first | rw [cu_a (Or.inl (Classical.byContradiction (fun q => c18 ⟨by omega, q⟩))), hz] | rw [cu_a (Or.inr c29), hz] | rw [cu_b c18.2 c29, hz])
  refine g_lv [2, 1, 0] rfl ?_
  exact loop4 ((96 - 0) + 1) 0 0 (Nat.lt_succ_self _) (by omega) (by rw [cu_0])
set_option maxHeartbeats 4000000 in
set_option maxRecDepth 100000 in
theorem c_X5_copyToFollow (l : Launch) (E : En) (s0 : Nat) (s1 : Nat) (s2 : Nat) (s3 : Nat) (s4 : Nat) (mi : Nat) (wr : Nat) (N : Nat → Nat) (b : Nat) (s : Nat) (hb : b < 2 ^ 31) (hs : s < 2 ^ 31) (hN : BN N) : CtI l yX5_copyToFollow wsX5_copyToFollow ({ frames := 3, cells := 0, slots := 0, locals := 66 } : Room) E [.ref s0, .int (nI b), .int (nI s)] [ob 5 s0 [.ref s1, .ref s2, .ref s3, .int (nI mi), .int (nI wr)], ob 1 s1 [.ref s4], ai E s4 768 N] (fun rr uu => rr = (nI (cf N b s)) ∧ uu = [ob 5 s0 [.ref s1, .ref s2, .ref s3, .int (nI mi), .int (nI wr)], ob 1 s1 [.ref s4], ai E s4 768 N]) := by
  refine CtI.of cX5_copyToFollow 4 RX5 .int rfl (by decide) rfl (Or.inl rfl) (Nat.le_of_ble_eq_true rfl) (fun h => by cases h) ?_
  intro Γ F hret
  show G Γ E 0 0 0 [(0, .ref s0), (1, .int (nI b)), (2, .int (nI s))] [] [ob 5 s0 [.ref s1, .ref s2, .ref s3, .int (nI mi), .int (nI wr)], ob 1 s1 [.ref s4], ai E s4 768 N]
  refine g_aload_n F 0 dX5_copyToFollow_0 rfl rfl ?_
  refine g_get F 0 0 dX5_copyToFollow_1 rfl rfl (by decide) (by decide +kernel) (by decide +kernel) rfl ?_
  refine g_iload_n F 1 dX5_copyToFollow_4 rfl rfl ?_
  refine g_iload_n F 2 dX5_copyToFollow_5 rfl rfl ?_
  refine g_callViR (n := 2) F [1, 2] (c_X1_copyWithSum l E s1 s4 N b s (by omega) (by omega) (by assumption)) dX5_copyToFollow_6 rfl (by decide) rfl rfl rfl (Nat.le_of_ble_eq_true rfl) ⟨Nat.le_of_ble_eq_true rfl, Nat.le_of_ble_eq_true rfl⟩ rfl rfl ⟨Nat.le_of_ble_eq_true rfl, Nat.le_of_ble_eq_true rfl⟩ 1 rfl rfl gX5_copyToFollow_X1_copyWithSum (by decide +kernel) (fun r u hp => by obtain ⟨-, h⟩ := hp; exact h) ?_
  rintro r_6 u_6 ⟨rfl, -⟩
  have htk := tk_le N b s
  refine g_istore_n (lv2 := [(3, .int (nI (tk N b s))), (0, .ref s0), (1, .int (nI b)), (2, .int (nI s))]) F dX5_copyToFollow_9 rfl (by decide) rfl ?_
  refine g_iload_n F 0 dX5_copyToFollow_10 rfl rfl ?_
  refine g_iconst (v := nI 2) F dX5_copyToFollow_11 (by decide) ?_
  refine g_icmp_neN (tgt := 19) F dX5_copyToFollow_12 (by decide) (by omega) (by omega) (fun c12 => ?_) (fun c12 => ?_)
  · skip
    refine g_iload_n F 0 dX5_copyToFollow_19 rfl rfl ?_
    exact hret _ _ _ _ dX5_copyToFollow_20 ⟨(congrArg nI (by unfold cf; simp [c12])), rfl⟩
  · skip
    refine g_iconst (v := nI 0) F dX5_copyToFollow_15 (by decide) ?_
    refine g_goto (tgt := 20) F dX5_copyToFollow_16 (by decide) ?_
    exact hret _ _ _ _ dX5_copyToFollow_20 ⟨(congrArg nI (by unfold cf; simp [c12])), rfl⟩
set_option maxHeartbeats 4000000 in
set_option maxRecDepth 100000 in
theorem c_X5_addParent (l : Launch) (E : En) (s0 : Nat) (s1 : Nat) (s2 : Nat) (s3 : Nat) (s4 : Nat) (mi : Nat) (wr : Nat) (N : Nat → Nat) (k0 : Nat) (k1 : Nat) (U : Nat → Nat) (q : Nat) (hq : q < 65536) (hN : BN N) : CtV l yX5_addParent wsX5_addParent ({ frames := 4, cells := 0, slots := 0, locals := 89 } : Room) E [.ref s0, .int (nI q), .ref k0] [ob 5 s0 [.ref s1, .ref s2, .ref s3, .int (nI mi), .int (nI wr)], ob 1 s1 [.ref s4], ai E s4 768 N, ob 0 k0 [.ref k1], az E k1 96 U] (fun uu => uu = [ob 5 s0 [.ref s1, .ref s2, .ref s3, .int (nI mi), .int (nI wr)], ob 1 s1 [.ref s4], ai E s4 768 N, ob 0 k0 [.ref k1], az E k1 96 (ap N q U)]) := by
  refine CtV.of cX5_addParent 6 RX5 rfl (by decide) rfl (Nat.le_of_ble_eq_true rfl) ?_
  intro Γ F hin0 hret
  show G Γ E 0 0 0 [(0, .ref s0), (1, .int (nI q)), (2, .ref k0)] [] [ob 5 s0 [.ref s1, .ref s2, .ref s3, .int (nI mi), .int (nI wr)], ob 1 s1 [.ref s4], ai E s4 768 N, ob 0 k0 [.ref k1], az E k1 96 U]
  refine g_iload_n F 1 dX5_addParent_0 rfl rfl ?_
  refine g_sipush (v := nI 256) F dX5_addParent_1 (by decide) ?_
  refine g_idivN F dX5_addParent_4 (by omega) (by decide) (by decide) ?_
  refine g_istore_n (lv2 := [(3, .int (nI (q / 256))), (0, .ref s0), (1, .int (nI q)), (2, .ref k0)]) F dX5_addParent_5 rfl (by decide) rfl ?_
  refine g_iload_n F 0 dX5_addParent_6 rfl rfl ?_
  refine g_bipush (v := nI 96) F dX5_addParent_7 (by decide) ?_
  refine g_callSNiR (n := 2) F [] (c_X8_below l E (q / 256) 96 (by omega) (by omega)) dX5_addParent_9 rfl (by decide) rfl rfl rfl (Nat.le_of_ble_eq_true rfl) ⟨Nat.le_of_ble_eq_true rfl, Nat.le_of_ble_eq_true rfl⟩ rfl rfl ⟨Nat.le_of_ble_eq_true rfl, Nat.le_of_ble_eq_true rfl⟩ (host := "SummedParents") ggX5_addParent_X8_below (by decide +kernel) (by decide +kernel) (by decide +kernel) (by decide +kernel) (fun r u hp => by obtain ⟨-, h⟩ := hp; exact h) ?_
  rintro r_9 u_9 ⟨rfl, -⟩
  refine g_if_neB (tgt := 16) F dX5_addParent_12 (by decide) (fun c12 => ?_) (fun c12 => ?_)
  · skip
    refine g_aload_n F 1 dX5_addParent_16 rfl rfl ?_
    refine g_iload_n F 0 dX5_addParent_17 rfl rfl ?_
    refine g_iload_n F 2 dX5_addParent_18 rfl rfl ?_
    refine g_sipush (v := nI 256) F dX5_addParent_19 (by decide) ?_
    refine g_iremN F dX5_addParent_22 (by omega) (by decide) (by decide) ?_
    refine g_callViR (n := 2) F [0, 1, 2] (c_X5_copyToFollow l E s0 s1 s2 s3 s4 mi wr N (q / 256) (q % 256) (by omega) (by omega) (by assumption)) dX5_addParent_23 rfl (by decide) rfl rfl rfl (Nat.le_of_ble_eq_true rfl) ⟨Nat.le_of_ble_eq_true rfl, Nat.le_of_ble_eq_true rfl⟩ rfl rfl ⟨Nat.le_of_ble_eq_true rfl, Nat.le_of_ble_eq_true rfl⟩ 0 rfl rfl gX5_addParent_X5_copyToFollow (by decide +kernel) (fun r u hp => by obtain ⟨-, h⟩ := hp; exact h) ?_
    rintro r_23 u_23 ⟨rfl, -⟩
    refine g_istore (lv2 := [(4, .int (nI (cf N (q / 256) (q % 256)))), (3, .int (nI (q / 256))), (0, .ref s0), (1, .int (nI q)), (2, .ref k0)]) F dX5_addParent_26 (by decide) rfl ?_
    refine g_aload_n F 4 dX5_addParent_28 rfl rfl ?_
    refine g_iload_n F 1 dX5_addParent_29 rfl rfl ?_
    refine g_callVvW (n := 1) F [3, 4] (c_X0_add l E k0 k1 U (q / 256) (by omega)) dX5_addParent_30 rfl (by decide) rfl rfl rfl (Nat.le_of_ble_eq_true rfl) ⟨Nat.le_of_ble_eq_true rfl, Nat.le_of_ble_eq_true rfl⟩ rfl rfl ⟨Nat.le_of_ble_eq_true rfl, Nat.le_of_ble_eq_true rfl⟩ 3 rfl rfl gX5_addParent_X0_add (by decide +kernel) (fun u hp => by obtain rfl := hp; rfl) ?_
    rintro u_30 rfl
    refine g_ws (w2 := [ob 5 s0 [.ref s1, .ref s2, .ref s3, .int (nI mi), .int (nI wr)], ob 1 s1 [.ref s4], ai E s4 768 N, ob 0 k0 [.ref k1], az E k1 96 (ad U (q / 256))]) rfl ?_
    refine g_iconst (v := nI 0) F dX5_addParent_33 (by decide) ?_
    refine g_istore (lv2 := [(5, .int (nI 0)), (4, .int (nI (cf N (q / 256) (q % 256)))), (3, .int (nI (q / 256))), (0, .ref s0), (1, .int (nI q)), (2, .ref k0)]) F dX5_addParent_34 (by decide) rfl ?_
    have loop36 : ∀ (n : Nat) (i : Nat), 4 - i < n → (i ≤ 4) → G Γ E (0) (0) 36 [(0, .ref s0), (1, .int (nI q)), (2, .ref k0), (3, .int (nI (q / 256))), (4, .int (nI (cf N (q / 256) (q % 256)))), (5, .int (nI i))] [] [ob 5 s0 [.ref s1, .ref s2, .ref s3, .int (nI mi), .int (nI wr)], ob 1 s1 [.ref s4], ai E s4 768 N, ob 0 k0 [.ref k1], az E k1 96 (ad4 N (cf N (q / 256) (q % 256)) (q / 256) (ad U (q / 256)) i)] := by
      intro n
      induction n with
      | zero => intro i hz; exact absurd hz (Nat.not_lt_zero _)
      | succ n ih36 =>
        intro i hz36 hi
        refine g_iload F 5 dX5_addParent_36 rfl ?_
        refine g_iconst (v := nI 4) F dX5_addParent_38 (by decide) ?_
        refine g_icmp_geN (tgt := 68) F dX5_addParent_39 (by decide) (by omega) (by omega) (fun c39 => ?_) (fun c39 => ?_)
        · skip
          refine g_azC 4 rfl (ap N q U) (by intro j hj; unfold ap; rw [if_pos c12, show i = 4 by omega]) (w2 := [ob 5 s0 [.ref s1, .ref s2, .ref s3, .int (nI mi), .int (nI wr)], ob 1 s1 [.ref s4], ai E s4 768 N, ob 0 k0 [.ref k1], az E k1 96 (ap N q U)]) rfl ?_
          exact hret _ _ _ dX5_addParent_68 rfl
        · skip
          refine g_aload_n F 2 dX5_addParent_42 rfl rfl ?_
          refine g_aload_n F 0 dX5_addParent_43 rfl rfl ?_
          refine g_get F 0 0 dX5_addParent_44 rfl rfl (by decide) (by decide +kernel) (by decide +kernel) rfl ?_
          refine g_iload F 4 dX5_addParent_47 rfl ?_
          refine g_iload_n F 3 dX5_addParent_49 rfl rfl ?_
          refine g_iload F 5 dX5_addParent_50 rfl ?_
          refine g_callViR (n := 3) F [1, 2] (c_X1_numberAt l E s1 s4 N (cf N (q / 256) (q % 256)) (q / 256) i (by exact cf_lt _ _ _) (by omega) (by omega)) dX5_addParent_52 rfl (by decide) rfl rfl rfl (Nat.le_of_ble_eq_true rfl) ⟨Nat.le_of_ble_eq_true rfl, Nat.le_of_ble_eq_true rfl⟩ rfl rfl ⟨Nat.le_of_ble_eq_true rfl, Nat.le_of_ble_eq_true rfl⟩ 1 rfl rfl gX5_addParent_X1_numberAt (by decide +kernel) (fun r u hp => by obtain ⟨-, h⟩ := hp; exact h) ?_
          rintro r_52 u_52 ⟨rfl, -⟩
          have hqn : nu N (cf N (q / 256) (q % 256)) (q / 256) i < 65536 := hN _
          refine g_sipush (v := nI 256) F dX5_addParent_55 (by decide) ?_
          refine g_idivN F dX5_addParent_58 (by omega) (by decide) (by decide) ?_
          refine g_callVvW (n := 1) F [3, 4] (c_X0_add l E k0 k1 (ad4 N (cf N (q / 256) (q % 256)) (q / 256) (ad U (q / 256)) i) ((nu N (cf N (q / 256) (q % 256)) (q / 256) i) / 256) (by omega)) dX5_addParent_59 rfl (by decide) rfl rfl rfl (Nat.le_of_ble_eq_true rfl) ⟨Nat.le_of_ble_eq_true rfl, Nat.le_of_ble_eq_true rfl⟩ rfl rfl ⟨Nat.le_of_ble_eq_true rfl, Nat.le_of_ble_eq_true rfl⟩ 3 rfl rfl gX5_addParent_X0_add (by decide +kernel) (fun u hp => by obtain rfl := hp; rfl) ?_
          rintro u_59 rfl
          refine g_ws (w2 := [ob 5 s0 [.ref s1, .ref s2, .ref s3, .int (nI mi), .int (nI wr)], ob 1 s1 [.ref s4], ai E s4 768 N, ob 0 k0 [.ref k1], az E k1 96 (ad (ad4 N (cf N (q / 256) (q % 256)) (q / 256) (ad U (q / 256)) i) ((nu N (cf N (q / 256) (q % 256)) (q / 256) i) / 256))]) rfl ?_
          refine g_iinc (k := 5) (v := nI (i + 1)) (lv2 := [(5, .int (nI (i + 1))), (0, .ref s0), (1, .int (nI q)), (2, .ref k0), (3, .int (nI (q / 256))), (4, .int (nI (cf N (q / 256) (q % 256))))]) F dX5_addParent_62 rfl (nI_1 _) (by decide) rfl ?_
          refine g_goto (tgt := 36) F dX5_addParent_65 (by decide) ?_
          refine g_azC 4 rfl (ad4 N (cf N (q / 256) (q % 256)) (q / 256) (ad U (q / 256)) (i + 1)) (by intro j hj; rfl) (w2 := [ob 5 s0 [.ref s1, .ref s2, .ref s3, .int (nI mi), .int (nI wr)], ob 1 s1 [.ref s4], ai E s4 768 N, ob 0 k0 [.ref k1], az E k1 96 (ad4 N (cf N (q / 256) (q % 256)) (q / 256) (ad U (q / 256)) (i + 1))]) rfl ?_
          refine g_lv [1, 2, 3, 4, 5, 0] rfl ?_
          exact ih36 (i + 1) (by omega) (by omega)
    refine g_azC 4 rfl (ad4 N (cf N (q / 256) (q % 256)) (q / 256) (ad U (q / 256)) 0) (by intro j hj; rfl) (w2 := [ob 5 s0 [.ref s1, .ref s2, .ref s3, .int (nI mi), .int (nI wr)], ob 1 s1 [.ref s4], ai E s4 768 N, ob 0 k0 [.ref k1], az E k1 96 (ad4 N (cf N (q / 256) (q % 256)) (q / 256) (ad U (q / 256)) 0)]) rfl ?_
    refine g_lv [3, 4, 5, 2, 1, 0] rfl ?_
    exact loop36 ((4 - 0) + 1) 0 (Nat.lt_succ_self _) (by omega)
  · skip
    refine g_azC 4 rfl (ap N q U) (by intro j hj; unfold ap; rw [if_neg c12]) (w2 := [ob 5 s0 [.ref s1, .ref s2, .ref s3, .int (nI mi), .int (nI wr)], ob 1 s1 [.ref s4], ai E s4 768 N, ob 0 k0 [.ref k1], az E k1 96 (ap N q U)]) rfl ?_
    exact hret _ _ _ dX5_addParent_15 rfl
set_option maxHeartbeats 4000000 in
set_option maxRecDepth 100000 in
theorem c_X5_addBlocksOf (l : Launch) (E : En) (s0 : Nat) (s1 : Nat) (s2 : Nat) (s3 : Nat) (s4 : Nat) (s6 : Nat) (s7 : Nat) (s8 : Nat) (mi : Nat) (wr : Nat) (z : Nat) (N : Nat → Nat) (rb : Nat → Nat) (rs : Nat → Nat) (k0 : Nat) (k1 : Nat) (U : Nat → Nat) (r : Nat) (hr : r < 8) (hN : BN N) (hrb : rb r < 96) (hrs : rs r < 65536) : CtV l yX5_addBlocksOf wsX5_addBlocksOf ({ frames := 5, cells := 0, slots := 0, locals := 114 } : Room) E [.ref s0, .int (nI r), .ref k0] [ob 5 s0 [.ref s1, .ref s2, .ref s3, .int (nI mi), .int (nI wr)], ob 1 s1 [.ref s4], ai E s4 768 N, ob 3 s3 [.ref s6, .ref s7, .ref s8, .int (nI z)], ai E s7 8 rb, ai E s8 8 rs, ob 0 k0 [.ref k1], az E k1 96 U] (fun uu => uu = [ob 5 s0 [.ref s1, .ref s2, .ref s3, .int (nI mi), .int (nI wr)], ob 1 s1 [.ref s4], ai E s4 768 N, ob 3 s3 [.ref s6, .ref s7, .ref s8, .int (nI z)], ai E s7 8 rb, ai E s8 8 rs, ob 0 k0 [.ref k1], az E k1 96 (ab N (rb r) (rs r) U)]) := by
  refine CtV.of cX5_addBlocksOf 6 RX5 rfl (by decide) rfl (Nat.le_of_ble_eq_true rfl) ?_
  intro Γ F hin0 hret
  show G Γ E 0 0 0 [(0, .ref s0), (1, .int (nI r)), (2, .ref k0)] [] [ob 5 s0 [.ref s1, .ref s2, .ref s3, .int (nI mi), .int (nI wr)], ob 1 s1 [.ref s4], ai E s4 768 N, ob 3 s3 [.ref s6, .ref s7, .ref s8, .int (nI z)], ai E s7 8 rb, ai E s8 8 rs, ob 0 k0 [.ref k1], az E k1 96 U]
  refine g_aload_n F 0 dX5_addBlocksOf_0 rfl rfl ?_
  refine g_get F 0 2 dX5_addBlocksOf_1 rfl rfl (by decide) (by decide +kernel) (by decide +kernel) rfl ?_
  refine g_iload_n F 1 dX5_addBlocksOf_4 rfl rfl ?_
  refine g_callViR (n := 1) F [3, 4] (c_X3_blockAt l E s3 s6 s7 s8 z rb r (by omega)) dX5_addBlocksOf_5 rfl (by decide) rfl rfl rfl (Nat.le_of_ble_eq_true rfl) ⟨Nat.le_of_ble_eq_true rfl, Nat.le_of_ble_eq_true rfl⟩ rfl rfl ⟨Nat.le_of_ble_eq_true rfl, Nat.le_of_ble_eq_true rfl⟩ 3 rfl rfl gX5_addBlocksOf_X3_blockAt (by decide +kernel) (fun r u hp => by obtain ⟨-, h⟩ := hp; exact h) ?_
  rintro r_5 u_5 ⟨rfl, -⟩
  refine g_istore_n (lv2 := [(3, .int (nI (rb r))), (0, .ref s0), (1, .int (nI r)), (2, .ref k0)]) F dX5_addBlocksOf_8 rfl (by decide) rfl ?_
  refine g_aload_n F 1 dX5_addBlocksOf_9 rfl rfl ?_
  refine g_iload_n F 0 dX5_addBlocksOf_10 rfl rfl ?_
  refine g_aload_n F 1 dX5_addBlocksOf_11 rfl rfl ?_
  refine g_get F 0 2 dX5_addBlocksOf_12 rfl rfl (by decide) (by decide +kernel) (by decide +kernel) rfl ?_
  refine g_iload_n F 2 dX5_addBlocksOf_15 rfl rfl ?_
  refine g_callViR (n := 1) F [3, 5] (c_X3_sumAt l E s3 s6 s7 s8 z rs r (by omega)) dX5_addBlocksOf_16 rfl (by decide) rfl rfl rfl (Nat.le_of_ble_eq_true rfl) ⟨Nat.le_of_ble_eq_true rfl, Nat.le_of_ble_eq_true rfl⟩ rfl rfl ⟨Nat.le_of_ble_eq_true rfl, Nat.le_of_ble_eq_true rfl⟩ 3 rfl rfl gX5_addBlocksOf_X3_sumAt (by decide +kernel) (fun r u hp => by obtain ⟨-, h⟩ := hp; exact h) ?_
  rintro r_16 u_16 ⟨rfl, -⟩
  refine g_callViR (n := 2) F [0, 1, 2] (c_X5_copyToFollow l E s0 s1 s2 s3 s4 mi wr N (rb r) (rs r) (by omega) (by omega) (by assumption)) dX5_addBlocksOf_19 rfl (by decide) rfl rfl rfl (Nat.le_of_ble_eq_true rfl) ⟨Nat.le_of_ble_eq_true rfl, Nat.le_of_ble_eq_true rfl⟩ rfl rfl ⟨Nat.le_of_ble_eq_true rfl, Nat.le_of_ble_eq_true rfl⟩ 0 rfl rfl gX5_addBlocksOf_X5_copyToFollow (by decide +kernel) (fun r u hp => by obtain ⟨-, h⟩ := hp; exact h) ?_
  rintro r_19 u_19 ⟨rfl, -⟩
  refine g_istore (lv2 := [(4, .int (nI (cf N (rb r) (rs r)))), (3, .int (nI (rb r))), (0, .ref s0), (1, .int (nI r)), (2, .ref k0)]) F dX5_addBlocksOf_22 (by decide) rfl ?_
  refine g_aload_n F 4 dX5_addBlocksOf_24 rfl rfl ?_
  refine g_iload_n F 1 dX5_addBlocksOf_25 rfl rfl ?_
  refine g_callVvW (n := 1) F [6, 7] (c_X0_add l E k0 k1 U (rb r) (by omega)) dX5_addBlocksOf_26 rfl (by decide) rfl rfl rfl (Nat.le_of_ble_eq_true rfl) ⟨Nat.le_of_ble_eq_true rfl, Nat.le_of_ble_eq_true rfl⟩ rfl rfl ⟨Nat.le_of_ble_eq_true rfl, Nat.le_of_ble_eq_true rfl⟩ 6 rfl rfl gX5_addBlocksOf_X0_add (by decide +kernel) (fun u hp => by obtain rfl := hp; rfl) ?_
  rintro u_26 rfl
  refine g_ws (w2 := [ob 5 s0 [.ref s1, .ref s2, .ref s3, .int (nI mi), .int (nI wr)], ob 1 s1 [.ref s4], ai E s4 768 N, ob 3 s3 [.ref s6, .ref s7, .ref s8, .int (nI z)], ai E s7 8 rb, ai E s8 8 rs, ob 0 k0 [.ref k1], az E k1 96 (ad U (rb r))]) rfl ?_
  refine g_iconst (v := nI 0) F dX5_addBlocksOf_29 (by decide) ?_
  refine g_istore (lv2 := [(5, .int (nI 0)), (4, .int (nI (cf N (rb r) (rs r)))), (3, .int (nI (rb r))), (0, .ref s0), (1, .int (nI r)), (2, .ref k0)]) F dX5_addBlocksOf_30 (by decide) rfl ?_
  have loop32 : ∀ (n : Nat) (i : Nat), 4 - i < n → (i ≤ 4) → G Γ E (0) (0) 32 [(0, .ref s0), (1, .int (nI r)), (2, .ref k0), (3, .int (nI (rb r))), (4, .int (nI (cf N (rb r) (rs r)))), (5, .int (nI i))] [] [ob 5 s0 [.ref s1, .ref s2, .ref s3, .int (nI mi), .int (nI wr)], ob 1 s1 [.ref s4], ai E s4 768 N, ob 3 s3 [.ref s6, .ref s7, .ref s8, .int (nI z)], ai E s7 8 rb, ai E s8 8 rs, ob 0 k0 [.ref k1], az E k1 96 (ab4 N (cf N (rb r) (rs r)) (rb r) (ad U (rb r)) i)] := by
    intro n
    induction n with
    | zero => intro i hz; exact absurd hz (Nat.not_lt_zero _)
    | succ n ih32 =>
      intro i hz32 hi
      refine g_iload F 5 dX5_addBlocksOf_32 rfl ?_
      refine g_iconst (v := nI 4) F dX5_addBlocksOf_34 (by decide) ?_
      refine g_icmp_geN (tgt := 61) F dX5_addBlocksOf_35 (by decide) (by omega) (by omega) (fun c35 => ?_) (fun c35 => ?_)
      · skip
        refine g_azC 7 rfl (ab N (rb r) (rs r) U) (by intro j hj; unfold ab; rw [show i = 4 by omega]) (w2 := [ob 5 s0 [.ref s1, .ref s2, .ref s3, .int (nI mi), .int (nI wr)], ob 1 s1 [.ref s4], ai E s4 768 N, ob 3 s3 [.ref s6, .ref s7, .ref s8, .int (nI z)], ai E s7 8 rb, ai E s8 8 rs, ob 0 k0 [.ref k1], az E k1 96 (ab N (rb r) (rs r) U)]) rfl ?_
        exact hret _ _ _ dX5_addBlocksOf_61 rfl
      · skip
        refine g_aload_n F 0 dX5_addBlocksOf_38 rfl rfl ?_
        refine g_aload_n F 0 dX5_addBlocksOf_39 rfl rfl ?_
        refine g_get F 0 0 dX5_addBlocksOf_40 rfl rfl (by decide) (by decide +kernel) (by decide +kernel) rfl ?_
        refine g_iload F 4 dX5_addBlocksOf_43 rfl ?_
        refine g_iload_n F 3 dX5_addBlocksOf_45 rfl rfl ?_
        refine g_iload F 5 dX5_addBlocksOf_46 rfl ?_
        refine g_callViR (n := 3) F [1, 2] (c_X1_numberAt l E s1 s4 N (cf N (rb r) (rs r)) (rb r) i (by exact cf_lt _ _ _) (by omega) (by omega)) dX5_addBlocksOf_48 rfl (by decide) rfl rfl rfl (Nat.le_of_ble_eq_true rfl) ⟨Nat.le_of_ble_eq_true rfl, Nat.le_of_ble_eq_true rfl⟩ rfl rfl ⟨Nat.le_of_ble_eq_true rfl, Nat.le_of_ble_eq_true rfl⟩ 1 rfl rfl gX5_addBlocksOf_X1_numberAt (by decide +kernel) (fun r u hp => by obtain ⟨-, h⟩ := hp; exact h) ?_
        rintro r_48 u_48 ⟨rfl, -⟩
        refine g_aload_n F 2 dX5_addBlocksOf_51 rfl rfl ?_
        refine g_callVvW (n := 2) F [0, 1, 2, 6, 7] (c_X5_addParent l E s0 s1 s2 s3 s4 mi wr N k0 k1 (ab4 N (cf N (rb r) (rs r)) (rb r) (ad U (rb r)) i) (nu N (cf N (rb r) (rs r)) (rb r) i) (by exact hN _) (by assumption)) dX5_addBlocksOf_52 rfl (by decide) rfl rfl rfl (Nat.le_of_ble_eq_true rfl) ⟨Nat.le_of_ble_eq_true rfl, Nat.le_of_ble_eq_true rfl⟩ rfl rfl ⟨Nat.le_of_ble_eq_true rfl, Nat.le_of_ble_eq_true rfl⟩ 0 rfl rfl gX5_addBlocksOf_X5_addParent (by decide +kernel) (fun u hp => by obtain rfl := hp; rfl) ?_
        rintro u_52 rfl
        refine g_ws (w2 := [ob 5 s0 [.ref s1, .ref s2, .ref s3, .int (nI mi), .int (nI wr)], ob 1 s1 [.ref s4], ai E s4 768 N, ob 3 s3 [.ref s6, .ref s7, .ref s8, .int (nI z)], ai E s7 8 rb, ai E s8 8 rs, ob 0 k0 [.ref k1], az E k1 96 (ap N (nu N (cf N (rb r) (rs r)) (rb r) i) (ab4 N (cf N (rb r) (rs r)) (rb r) (ad U (rb r)) i))]) rfl ?_
        refine g_iinc (k := 5) (v := nI (i + 1)) (lv2 := [(5, .int (nI (i + 1))), (0, .ref s0), (1, .int (nI r)), (2, .ref k0), (3, .int (nI (rb r))), (4, .int (nI (cf N (rb r) (rs r))))]) F dX5_addBlocksOf_55 rfl (nI_1 _) (by decide) rfl ?_
        refine g_goto (tgt := 32) F dX5_addBlocksOf_58 (by decide) ?_
        refine g_azC 7 rfl (ab4 N (cf N (rb r) (rs r)) (rb r) (ad U (rb r)) (i + 1)) (by intro j hj; rfl) (w2 := [ob 5 s0 [.ref s1, .ref s2, .ref s3, .int (nI mi), .int (nI wr)], ob 1 s1 [.ref s4], ai E s4 768 N, ob 3 s3 [.ref s6, .ref s7, .ref s8, .int (nI z)], ai E s7 8 rb, ai E s8 8 rs, ob 0 k0 [.ref k1], az E k1 96 (ab4 N (cf N (rb r) (rs r)) (rb r) (ad U (rb r)) (i + 1))]) rfl ?_
        refine g_lv [1, 2, 3, 4, 5, 0] rfl ?_
        exact ih32 (i + 1) (by omega) (by omega)
  refine g_azC 7 rfl (ab4 N (cf N (rb r) (rs r)) (rb r) (ad U (rb r)) 0) (by intro j hj; rfl) (w2 := [ob 5 s0 [.ref s1, .ref s2, .ref s3, .int (nI mi), .int (nI wr)], ob 1 s1 [.ref s4], ai E s4 768 N, ob 3 s3 [.ref s6, .ref s7, .ref s8, .int (nI z)], ai E s7 8 rb, ai E s8 8 rs, ob 0 k0 [.ref k1], az E k1 96 (ab4 N (cf N (rb r) (rs r)) (rb r) (ad U (rb r)) 0)]) rfl ?_
  refine g_lv [3, 4, 5, 2, 1, 0] rfl ?_
  exact loop32 ((4 - 0) + 1) 0 (Nat.lt_succ_self _) (by omega)
set_option maxHeartbeats 4000000 in
set_option maxRecDepth 100000 in
theorem c_X5_settleUse (l : Launch) (E : En) (s0 : Nat) (s1 : Nat) (s2 : Nat) (s3 : Nat) (s4 : Nat) (s5 : Nat) (s6 : Nat) (s7 : Nat) (s8 : Nat) (mi : Nat) (wr : Nat) (z : Nat) (N : Nat → Nat) (U : Nat → Nat) (rb : Nat → Nat) (rs : Nat → Nat) (k0 : Nat) (k1 : Nat) (X : Nat → Nat) (hz : z ≤ 8) (hU : BU U) (hN : BN N) (hrb : ∀ i : Nat, i < z → rb i < 96) (hrs : ∀ i : Nat, i < z → rs i < 65536) : CtI l yX5_settleUse wsX5_settleUse ({ frames := 6, cells := 0, slots := 0, locals := 139 } : Room) E [.ref s0, .ref k0] [ob 5 s0 [.ref s1, .ref s2, .ref s3, .int (nI mi), .int (nI wr)], ob 1 s1 [.ref s4], ai E s4 768 N, ob 0 s2 [.ref s5], az E s5 96 U, ob 3 s3 [.ref s6, .ref s7, .ref s8, .int (nI z)], ai E s7 8 rb, ai E s8 8 rs, ob 0 k0 [.ref k1], az E k1 96 X] (fun rr uu => rr = (nI (cw U (su N rb rs z) 96)) ∧ uu = [ob 5 s0 [.ref s1, .ref s2, .ref s3, .int (nI mi), .int (nI wr)], ob 1 s1 [.ref s4], ai E s4 768 N, ob 0 s2 [.ref s5], az E s5 96 (su N rb rs z), ob 3 s3 [.ref s6, .ref s7, .ref s8, .int (nI z)], ai E s7 8 rb, ai E s8 8 rs, ob 0 k0 [.ref k1], az E k1 96 U]) := by
  refine CtI.of cX5_settleUse 3 RX5 .int rfl (by decide) rfl (Or.inl rfl) (Nat.le_of_ble_eq_true rfl) (fun h => by cases h) ?_
  intro Γ F hret
  show G Γ E 0 0 0 [(0, .ref s0), (1, .ref k0)] [] [ob 5 s0 [.ref s1, .ref s2, .ref s3, .int (nI mi), .int (nI wr)], ob 1 s1 [.ref s4], ai E s4 768 N, ob 0 s2 [.ref s5], az E s5 96 U, ob 3 s3 [.ref s6, .ref s7, .ref s8, .int (nI z)], ai E s7 8 rb, ai E s8 8 rs, ob 0 k0 [.ref k1], az E k1 96 X]
  refine g_aload_n F 1 dX5_settleUse_0 rfl rfl ?_
  refine g_aload_n F 0 dX5_settleUse_1 rfl rfl ?_
  refine g_get F 0 1 dX5_settleUse_2 rfl rfl (by decide) (by decide +kernel) (by decide +kernel) rfl ?_
  refine g_callVvW (n := 1) F [8, 9, 3, 4] (c_X0_copyFrom l E k0 k1 X s2 s5 U (by assumption)) dX5_settleUse_5 rfl (by decide) rfl rfl rfl (Nat.le_of_ble_eq_true rfl) ⟨Nat.le_of_ble_eq_true rfl, Nat.le_of_ble_eq_true rfl⟩ rfl rfl ⟨Nat.le_of_ble_eq_true rfl, Nat.le_of_ble_eq_true rfl⟩ 8 rfl rfl gX5_settleUse_X0_copyFrom (by decide +kernel) (fun u hp => by obtain rfl := hp; rfl) ?_
  rintro u_5 rfl
  refine g_ws (w2 := [ob 5 s0 [.ref s1, .ref s2, .ref s3, .int (nI mi), .int (nI wr)], ob 1 s1 [.ref s4], ai E s4 768 N, ob 0 s2 [.ref s5], az E s5 96 U, ob 3 s3 [.ref s6, .ref s7, .ref s8, .int (nI z)], ai E s7 8 rb, ai E s8 8 rs, ob 0 k0 [.ref k1], az E k1 96 U]) rfl ?_
  refine g_aload_n F 0 dX5_settleUse_8 rfl rfl ?_
  refine g_get F 0 1 dX5_settleUse_9 rfl rfl (by decide) (by decide +kernel) (by decide +kernel) rfl ?_
  refine g_callVvW (n := 0) F [3, 4] (c_X0_clear l E s2 s5 U ) dX5_settleUse_12 rfl (by decide) rfl rfl rfl (Nat.le_of_ble_eq_true rfl) ⟨Nat.le_of_ble_eq_true rfl, Nat.le_of_ble_eq_true rfl⟩ rfl rfl ⟨Nat.le_of_ble_eq_true rfl, Nat.le_of_ble_eq_true rfl⟩ 3 rfl rfl gX5_settleUse_X0_clear (by decide +kernel) (fun u hp => by obtain rfl := hp; rfl) ?_
  rintro u_12 rfl
  refine g_ws (w2 := [ob 5 s0 [.ref s1, .ref s2, .ref s3, .int (nI mi), .int (nI wr)], ob 1 s1 [.ref s4], ai E s4 768 N, ob 0 s2 [.ref s5], az E s5 96 (fun _ => 0), ob 3 s3 [.ref s6, .ref s7, .ref s8, .int (nI z)], ai E s7 8 rb, ai E s8 8 rs, ob 0 k0 [.ref k1], az E k1 96 U]) rfl ?_
  refine g_iconst (v := nI 0) F dX5_settleUse_15 (by decide) ?_
  refine g_istore_n (lv2 := [(2, .int (nI 0)), (0, .ref s0), (1, .ref k0)]) F dX5_settleUse_16 rfl (by decide) rfl ?_
  have loop17 : ∀ (n : Nat) (i : Nat), z - i < n → (i ≤ z) → G Γ E (0) (0) 17 [(0, .ref s0), (1, .ref k0), (2, .int (nI i))] [] [ob 5 s0 [.ref s1, .ref s2, .ref s3, .int (nI mi), .int (nI wr)], ob 1 s1 [.ref s4], ai E s4 768 N, ob 0 s2 [.ref s5], az E s5 96 (su N rb rs i), ob 3 s3 [.ref s6, .ref s7, .ref s8, .int (nI z)], ai E s7 8 rb, ai E s8 8 rs, ob 0 k0 [.ref k1], az E k1 96 U] := by
    intro n
    induction n with
    | zero => intro i hz; exact absurd hz (Nat.not_lt_zero _)
    | succ n ih17 =>
      intro i hz17 hi
      refine g_iload_n F 2 dX5_settleUse_17 rfl rfl ?_
      refine g_aload_n F 0 dX5_settleUse_18 rfl rfl ?_
      refine g_get F 0 2 dX5_settleUse_19 rfl rfl (by decide) (by decide +kernel) (by decide +kernel) rfl ?_
      refine g_callViR (n := 0) F [5] (c_X3_size l E s3 s6 s7 s8 z ) dX5_settleUse_22 rfl (by decide) rfl rfl rfl (Nat.le_of_ble_eq_true rfl) ⟨Nat.le_of_ble_eq_true rfl, Nat.le_of_ble_eq_true rfl⟩ rfl rfl ⟨Nat.le_of_ble_eq_true rfl, Nat.le_of_ble_eq_true rfl⟩ 5 rfl rfl gX5_settleUse_X3_size (by decide +kernel) (fun r u hp => by obtain ⟨-, h⟩ := hp; exact h) ?_
      rintro r_22 u_22 ⟨rfl, -⟩
      refine g_icmp_geN (tgt := 43) F dX5_settleUse_25 (by decide) (by omega) (by omega) (fun c25 => ?_) (fun c25 => ?_)
      · skip
        refine g_azC 4 rfl (su N rb rs z) (by intro j hj; rw [show i = z by omega]) (w2 := [ob 5 s0 [.ref s1, .ref s2, .ref s3, .int (nI mi), .int (nI wr)], ob 1 s1 [.ref s4], ai E s4 768 N, ob 0 s2 [.ref s5], az E s5 96 (su N rb rs z), ob 3 s3 [.ref s6, .ref s7, .ref s8, .int (nI z)], ai E s7 8 rb, ai E s8 8 rs, ob 0 k0 [.ref k1], az E k1 96 U]) rfl ?_
        refine g_aload_n F 1 dX5_settleUse_43 rfl rfl ?_
        refine g_aload_n F 0 dX5_settleUse_44 rfl rfl ?_
        refine g_get F 0 1 dX5_settleUse_45 rfl rfl (by decide) (by decide +kernel) (by decide +kernel) rfl ?_
        refine g_callViR (n := 1) F [8, 9, 3, 4] (c_X0_sizeWithout l E k0 k1 U s2 s5 (su N rb rs z) (by assumption) (by exact su_BU _)) dX5_settleUse_48 rfl (by decide) rfl rfl rfl (Nat.le_of_ble_eq_true rfl) ⟨Nat.le_of_ble_eq_true rfl, Nat.le_of_ble_eq_true rfl⟩ rfl rfl ⟨Nat.le_of_ble_eq_true rfl, Nat.le_of_ble_eq_true rfl⟩ 8 rfl rfl gX5_settleUse_X0_sizeWithout (by decide +kernel) (fun r u hp => by obtain ⟨-, h⟩ := hp; exact h) ?_
        rintro r_48 u_48 ⟨rfl, -⟩
        exact hret _ _ _ _ dX5_settleUse_51 ⟨rfl, rfl⟩
      · skip
        refine g_aload_n F 0 dX5_settleUse_28 rfl rfl ?_
        refine g_iload_n F 2 dX5_settleUse_29 rfl rfl ?_
        refine g_aload_n F 0 dX5_settleUse_30 rfl rfl ?_
        refine g_get F 0 1 dX5_settleUse_31 rfl rfl (by decide) (by decide +kernel) (by decide +kernel) rfl ?_
        refine g_callVvW (n := 2) F [0, 1, 2, 5, 6, 7, 3, 4] (c_X5_addBlocksOf l E s0 s1 s2 s3 s4 s6 s7 s8 mi wr z N rb rs s2 s5 (su N rb rs i) i (by omega) (by assumption) (by exact hrb i (by omega)) (by exact hrs i (by omega))) dX5_settleUse_34 rfl (by decide) rfl rfl rfl (Nat.le_of_ble_eq_true rfl) ⟨Nat.le_of_ble_eq_true rfl, Nat.le_of_ble_eq_true rfl⟩ rfl rfl ⟨Nat.le_of_ble_eq_true rfl, Nat.le_of_ble_eq_true rfl⟩ 0 rfl rfl gX5_settleUse_X5_addBlocksOf (by decide +kernel) (fun u hp => by obtain rfl := hp; rfl) ?_
        rintro u_34 rfl
        refine g_ws (w2 := [ob 5 s0 [.ref s1, .ref s2, .ref s3, .int (nI mi), .int (nI wr)], ob 1 s1 [.ref s4], ai E s4 768 N, ob 0 s2 [.ref s5], az E s5 96 (ab N (rb i) (rs i) (su N rb rs i)), ob 3 s3 [.ref s6, .ref s7, .ref s8, .int (nI z)], ai E s7 8 rb, ai E s8 8 rs, ob 0 k0 [.ref k1], az E k1 96 U]) rfl ?_
        refine g_iinc (k := 2) (v := nI (i + 1)) (lv2 := [(2, .int (nI (i + 1))), (0, .ref s0), (1, .ref k0)]) F dX5_settleUse_37 rfl (nI_1 _) (by decide) rfl ?_
        refine g_goto (tgt := 17) F dX5_settleUse_40 (by decide) ?_
        refine g_azC 4 rfl (su N rb rs (i + 1)) (by intro j hj; rfl) (w2 := [ob 5 s0 [.ref s1, .ref s2, .ref s3, .int (nI mi), .int (nI wr)], ob 1 s1 [.ref s4], ai E s4 768 N, ob 0 s2 [.ref s5], az E s5 96 (su N rb rs (i + 1)), ob 3 s3 [.ref s6, .ref s7, .ref s8, .int (nI z)], ai E s7 8 rb, ai E s8 8 rs, ob 0 k0 [.ref k1], az E k1 96 U]) rfl ?_
        refine g_lv [1, 2, 0] rfl ?_
        exact ih17 (i + 1) (by omega) (by omega)
  refine g_azC 4 rfl (su N rb rs 0) (by intro j hj; rfl) (w2 := [ob 5 s0 [.ref s1, .ref s2, .ref s3, .int (nI mi), .int (nI wr)], ob 1 s1 [.ref s4], ai E s4 768 N, ob 0 s2 [.ref s5], az E s5 96 (su N rb rs 0), ob 3 s3 [.ref s6, .ref s7, .ref s8, .int (nI z)], ai E s7 8 rb, ai E s8 8 rs, ob 0 k0 [.ref k1], az E k1 96 U]) rfl ?_
  refine g_lv [1, 2, 0] rfl ?_
  exact loop17 ((z - 0) + 1) 0 (Nat.lt_succ_self _) (by omega)
set_option maxHeartbeats 4000000 in
set_option maxRecDepth 100000 in
theorem c_X5_unlikeChildren (l : Launch) (E : En) (s0 : Nat) (s1 : Nat) (s2 : Nat) (s3 : Nat) (s4 : Nat) (mi : Nat) (wr : Nat) (N : Nat → Nat) (p : Nat) (q : Nat) (hp : p < 65536) (hq : q < 65536) (hN : BN N) : CtI l yX5_unlikeChildren wsX5_unlikeChildren ({ frames := 3, cells := 0, slots := 0, locals := 66 } : Room) E [.ref s0, .int (nI p), .int (nI q)] [ob 5 s0 [.ref s1, .ref s2, .ref s3, .int (nI mi), .int (nI wr)], ob 1 s1 [.ref s4], ai E s4 768 N] (fun rr uu => rr = (ucI (ucn N p q)) ∧ uu = [ob 5 s0 [.ref s1, .ref s2, .ref s3, .int (nI mi), .int (nI wr)], ob 1 s1 [.ref s4], ai E s4 768 N]) := by
  refine CtI.of cX5_unlikeChildren 11 RX5 .int rfl (by decide) rfl (Or.inl rfl) (Nat.le_of_ble_eq_true rfl) (fun h => by cases h) ?_
  intro Γ F hret
  show G Γ E 0 0 0 [(0, .ref s0), (1, .int (nI p)), (2, .int (nI q))] [] [ob 5 s0 [.ref s1, .ref s2, .ref s3, .int (nI mi), .int (nI wr)], ob 1 s1 [.ref s4], ai E s4 768 N]
  refine g_iload_n F 1 dX5_unlikeChildren_0 rfl rfl ?_
  refine g_sipush (v := nI 256) F dX5_unlikeChildren_1 (by decide) ?_
  refine g_idivN F dX5_unlikeChildren_4 (by omega) (by decide) (by decide) ?_
  refine g_istore_n (lv2 := [(3, .int (nI (p / 256))), (0, .ref s0), (1, .int (nI p)), (2, .int (nI q))]) F dX5_unlikeChildren_5 rfl (by decide) rfl ?_
  refine g_iload_n F 3 dX5_unlikeChildren_6 rfl rfl ?_
  refine g_sipush (v := nI 256) F dX5_unlikeChildren_7 (by decide) ?_
  refine g_idivN F dX5_unlikeChildren_10 (by omega) (by decide) (by decide) ?_
  refine g_istore (lv2 := [(4, .int (nI (q / 256))), (3, .int (nI (p / 256))), (0, .ref s0), (1, .int (nI p)), (2, .int (nI q))]) F dX5_unlikeChildren_11 (by decide) rfl ?_
  refine g_iload_n F 1 dX5_unlikeChildren_13 rfl rfl ?_
  refine g_iload F 0 dX5_unlikeChildren_14 rfl ?_
  refine g_icmp_neN (tgt := 21) F dX5_unlikeChildren_16 (by decide) (by omega) (by omega) (fun c16 => ?_) (fun c16 => ?_)
  · skip
    refine g_aload_n F 2 dX5_unlikeChildren_21 rfl rfl ?_
    refine g_get F 0 0 dX5_unlikeChildren_22 rfl rfl (by decide) (by decide +kernel) (by decide +kernel) rfl ?_
    refine g_iload_n F 1 dX5_unlikeChildren_25 rfl rfl ?_
    refine g_iload_n F 3 dX5_unlikeChildren_26 rfl rfl ?_
    refine g_sipush (v := nI 256) F dX5_unlikeChildren_27 (by decide) ?_
    refine g_iremN F dX5_unlikeChildren_30 (by omega) (by decide) (by decide) ?_
    refine g_callViR (n := 2) F [1, 2] (c_X1_copyWithSum l E s1 s4 N (p / 256) (p % 256) (by omega) (by omega) (by assumption)) dX5_unlikeChildren_31 rfl (by decide) rfl rfl rfl (Nat.le_of_ble_eq_true rfl) ⟨Nat.le_of_ble_eq_true rfl, Nat.le_of_ble_eq_true rfl⟩ rfl rfl ⟨Nat.le_of_ble_eq_true rfl, Nat.le_of_ble_eq_true rfl⟩ 1 rfl rfl gX5_unlikeChildren_X1_copyWithSum (by decide +kernel) (fun r u hp => by obtain ⟨-, h⟩ := hp; exact h) ?_
    rintro r_31 u_31 ⟨rfl, -⟩
    refine g_istore (lv2 := [(5, .int (nI (tk N (p / 256) (p % 256)))), (4, .int (nI (q / 256))), (3, .int (nI (p / 256))), (0, .ref s0), (1, .int (nI p)), (2, .int (nI q))]) F dX5_unlikeChildren_34 (by decide) rfl ?_
    refine g_aload_n F 3 dX5_unlikeChildren_36 rfl rfl ?_
    refine g_get F 0 0 dX5_unlikeChildren_37 rfl rfl (by decide) (by decide +kernel) (by decide +kernel) rfl ?_
    refine g_iload F 1 dX5_unlikeChildren_40 rfl ?_
    refine g_iload_n F 5 dX5_unlikeChildren_42 rfl rfl ?_
    refine g_sipush (v := nI 256) F dX5_unlikeChildren_43 (by decide) ?_
    refine g_iremN F dX5_unlikeChildren_46 (by omega) (by decide) (by decide) ?_
    refine g_callViR (n := 2) F [1, 2] (c_X1_copyWithSum l E s1 s4 N (q / 256) (q % 256) (by omega) (by omega) (by assumption)) dX5_unlikeChildren_47 rfl (by decide) rfl rfl rfl (Nat.le_of_ble_eq_true rfl) ⟨Nat.le_of_ble_eq_true rfl, Nat.le_of_ble_eq_true rfl⟩ rfl rfl ⟨Nat.le_of_ble_eq_true rfl, Nat.le_of_ble_eq_true rfl⟩ 1 rfl rfl gX5_unlikeChildren_X1_copyWithSum (by decide +kernel) (fun r u hp => by obtain ⟨-, h⟩ := hp; exact h) ?_
    rintro r_47 u_47 ⟨rfl, -⟩
    refine g_istore (lv2 := [(6, .int (nI (tk N (q / 256) (q % 256)))), (5, .int (nI (tk N (p / 256) (p % 256)))), (4, .int (nI (q / 256))), (3, .int (nI (p / 256))), (0, .ref s0), (1, .int (nI p)), (2, .int (nI q))]) F dX5_unlikeChildren_50 (by decide) rfl ?_
    have hp1 := tk_le N (p / 256) (p % 256)
    have hq1 := tk_le N (q / 256) (q % 256)
    refine g_iload F 1 dX5_unlikeChildren_52 rfl ?_
    refine g_iconst (v := nI 2) F dX5_unlikeChildren_54 (by decide) ?_
    skip
    refine g_icmp_eqN (tgt := 64) F dX5_unlikeChildren_55 (by decide) (by omega) (by omega) (fun c55 => ?_) (fun c55 => ?_)
    · skip
      refine g_ldc (v := (-1000002)) F dX5_unlikeChildren_64 (by decide +kernel) ?_
      exact hret _ _ _ _ dX5_unlikeChildren_66 ⟨(by unfold ucn; rw [if_neg c16]; first | rw [if_pos c55]; rfl | (rw [if_neg (by omega), if_pos (by omega)]; rfl)), rfl⟩
    · skip
      refine g_iload F 0 dX5_unlikeChildren_58 rfl ?_
      refine g_iconst (v := nI 2) F dX5_unlikeChildren_60 (by decide) ?_
      refine g_icmp_neN (tgt := 67) F dX5_unlikeChildren_61 (by decide) (by omega) (by omega) (fun c61 => ?_) (fun c61 => ?_)
      · skip
        refine g_iconst (v := nI 0) F dX5_unlikeChildren_67 (by decide) ?_
        refine g_istore (lv2 := [(7, .int (nI 0)), (6, .int (nI (tk N (q / 256) (q % 256)))), (5, .int (nI (tk N (p / 256) (p % 256)))), (4, .int (nI (q / 256))), (3, .int (nI (p / 256))), (0, .ref s0), (1, .int (nI p)), (2, .int (nI q))]) F dX5_unlikeChildren_68 (by decide) rfl ?_
        refine g_iconst (v := nI 0) F dX5_unlikeChildren_70 (by decide) ?_
        refine g_istore (lv2 := [(8, .int (nI 0)), (7, .int (nI 0)), (6, .int (nI (tk N (q / 256) (q % 256)))), (5, .int (nI (tk N (p / 256) (p % 256)))), (4, .int (nI (q / 256))), (3, .int (nI (p / 256))), (0, .ref s0), (1, .int (nI p)), (2, .int (nI q))]) F dX5_unlikeChildren_71 (by decide) rfl ?_
        have loop73 : ∀ (n : Nat) (i : Nat) (z : Nat), 4 - i < n → (i ≤ 4) → (z = ucs N (tk N (p / 256) (p % 256)) (p / 256) (tk N (q / 256) (q % 256)) (q / 256) i) → G Γ E (0) (0) 73 [(0, .ref s0), (1, .int (nI p)), (2, .int (nI q)), (3, .int (nI (p / 256))), (4, .int (nI (q / 256))), (5, .int (nI (tk N (p / 256) (p % 256)))), (6, .int (nI (tk N (q / 256) (q % 256)))), (7, .int (nI z)), (8, .int (nI i))] [] [ob 5 s0 [.ref s1, .ref s2, .ref s3, .int (nI mi), .int (nI wr)], ob 1 s1 [.ref s4], ai E s4 768 N] := by
          intro n
          induction n with
          | zero => intro i z hz; exact absurd hz (Nat.not_lt_zero _)
          | succ n ih73 =>
            intro i z hz73 hi hz
            refine g_iload F 8 dX5_unlikeChildren_73 rfl ?_
            refine g_iconst (v := nI 4) F dX5_unlikeChildren_75 (by decide) ?_
            refine g_icmp_geN (tgt := 138) F dX5_unlikeChildren_76 (by decide) (by omega) (by omega) (fun c76 => ?_) (fun c76 => ?_)
            · skip
              refine g_iload F 7 dX5_unlikeChildren_138 rfl ?_
              exact hret _ _ _ _ dX5_unlikeChildren_140 ⟨(by 
                    have hl := ucs_lt N (tk N (p / 256) (p % 256)) (p / 256) (tk N (q / 256) (q % 256)) (q / 256) 4
                    unfold ucn; rw [if_neg c16, if_neg (by omega), if_neg (by omega), hz, show i = 4 by omega]; unfold ucI; rw [if_neg (by omega)]), rfl⟩
            · skip
              have hpc : tk N (p / 256) (p % 256) < 2 := by omega
              have hqc : tk N (q / 256) (q % 256) < 2 := by omega
              have hpb : p / 256 < 96 := tk_in (Nat.ne_of_lt hpc)
              have hqb : q / 256 < 96 := tk_in (Nat.ne_of_lt hqc)
              have hpn : nu N (tk N (p / 256) (p % 256)) (p / 256) i < 65536 := hN _
              have hqn : nu N (tk N (q / 256) (q % 256)) (q / 256) i < 65536 := hN _
              refine g_aload_n F 0 dX5_unlikeChildren_79 rfl rfl ?_
              refine g_get F 0 0 dX5_unlikeChildren_80 rfl rfl (by decide) (by decide +kernel) (by decide +kernel) rfl ?_
              refine g_iload F 5 dX5_unlikeChildren_83 rfl ?_
              refine g_iload_n F 3 dX5_unlikeChildren_85 rfl rfl ?_
              refine g_iload F 8 dX5_unlikeChildren_86 rfl ?_
              refine g_callViR (n := 3) F [1, 2] (c_X1_numberAt l E s1 s4 N (tk N (p / 256) (p % 256)) (p / 256) i (by omega) (by omega) (by omega)) dX5_unlikeChildren_88 rfl (by decide) rfl rfl rfl (Nat.le_of_ble_eq_true rfl) ⟨Nat.le_of_ble_eq_true rfl, Nat.le_of_ble_eq_true rfl⟩ rfl rfl ⟨Nat.le_of_ble_eq_true rfl, Nat.le_of_ble_eq_true rfl⟩ 1 rfl rfl gX5_unlikeChildren_X1_numberAt (by decide +kernel) (fun r u hp => by obtain ⟨-, h⟩ := hp; exact h) ?_
              rintro r_88 u_88 ⟨rfl, -⟩
              refine g_sipush (v := nI 256) F dX5_unlikeChildren_91 (by decide) ?_
              refine g_idivN F dX5_unlikeChildren_94 (by omega) (by decide) (by decide) ?_
              refine g_istore (lv2 := [(9, .int (nI ((nu N (tk N (p / 256) (p % 256)) (p / 256) i) / 256))), (0, .ref s0), (1, .int (nI p)), (2, .int (nI q)), (3, .int (nI (p / 256))), (4, .int (nI (q / 256))), (5, .int (nI (tk N (p / 256) (p % 256)))), (6, .int (nI (tk N (q / 256) (q % 256)))), (7, .int (nI z)), (8, .int (nI i))]) F dX5_unlikeChildren_95 (by decide) rfl ?_
              refine g_aload_n F 1 dX5_unlikeChildren_97 rfl rfl ?_
              refine g_get F 0 0 dX5_unlikeChildren_98 rfl rfl (by decide) (by decide +kernel) (by decide +kernel) rfl ?_
              refine g_iload F 7 dX5_unlikeChildren_101 rfl ?_
              refine g_iload F 5 dX5_unlikeChildren_103 rfl ?_
              refine g_iload F 9 dX5_unlikeChildren_105 rfl ?_
              refine g_callViR (n := 3) F [1, 2] (c_X1_numberAt l E s1 s4 N (tk N (q / 256) (q % 256)) (q / 256) i (by omega) (by omega) (by omega)) dX5_unlikeChildren_107 rfl (by decide) rfl rfl rfl (Nat.le_of_ble_eq_true rfl) ⟨Nat.le_of_ble_eq_true rfl, Nat.le_of_ble_eq_true rfl⟩ rfl rfl ⟨Nat.le_of_ble_eq_true rfl, Nat.le_of_ble_eq_true rfl⟩ 1 rfl rfl gX5_unlikeChildren_X1_numberAt (by decide +kernel) (fun r u hp => by obtain ⟨-, h⟩ := hp; exact h) ?_
              rintro r_107 u_107 ⟨rfl, -⟩
              refine g_sipush (v := nI 256) F dX5_unlikeChildren_110 (by decide) ?_
              refine g_idivN F dX5_unlikeChildren_113 (by omega) (by decide) (by decide) ?_
              refine g_istore (lv2 := [(10, .int (nI ((nu N (tk N (q / 256) (q % 256)) (q / 256) i) / 256))), (9, .int (nI ((nu N (tk N (p / 256) (p % 256)) (p / 256) i) / 256))), (0, .ref s0), (1, .int (nI p)), (2, .int (nI q)), (3, .int (nI (p / 256))), (4, .int (nI (q / 256))), (5, .int (nI (tk N (p / 256) (p % 256)))), (6, .int (nI (tk N (q / 256) (q % 256)))), (7, .int (nI z)), (8, .int (nI i))]) F dX5_unlikeChildren_114 (by decide) rfl ?_
              refine g_iload F 1 dX5_unlikeChildren_116 rfl ?_
              refine g_iload F 0 dX5_unlikeChildren_118 rfl ?_
              refine g_icmp_eqN (tgt := 132) F dX5_unlikeChildren_120 (by decide) (by omega) (by omega) (fun c120 => ?_) (fun c120 => ?_)
              · skip
                refine g_iinc (k := 10) (v := nI (i + 1)) (lv2 := [(8, .int (nI (i + 1))), (10, .int (nI ((nu N (tk N (q / 256) (q % 256)) (q / 256) i) / 256))), (9, .int (nI ((nu N (tk N (p / 256) (p % 256)) (p / 256) i) / 256))), (0, .ref s0), (1, .int (nI p)), (2, .int (nI q)), (3, .int (nI (p / 256))), (4, .int (nI (q / 256))), (5, .int (nI (tk N (p / 256) (p % 256)))), (6, .int (nI (tk N (q / 256) (q % 256)))), (7, .int (nI z))]) F dX5_unlikeChildren_132 rfl (nI_1 _) (by decide) rfl ?_
                refine g_goto (tgt := 73) F dX5_unlikeChildren_135 (by decide) ?_
                refine g_lv [3, 4, 5, 6, 7, 8, 9, 10, 0] rfl ?_
                exact ih73 (i + 1) z (by omega) (by omega) (by unfold ucs; first | rw [if_pos c120, hz] | rw [if_neg c120, hz])
              · skip
                refine g_iload F 9 dX5_unlikeChildren_123 rfl ?_
                refine g_iconst (v := nI 1) F dX5_unlikeChildren_125 (by decide) ?_
                refine g_iload F 10 dX5_unlikeChildren_126 rfl ?_
                refine g_ishl F dX5_unlikeChildren_128 ?_
                refine g_ior F dX5_unlikeChildren_129 ?_
                refine g_top ((nI z) ||| ((nI 1) <<< ((nI i) &&& 31))) (nI (z ||| 2 ^ i)) (by rw [shl1 i (by omega), nI_or]) ?_
                refine g_istore (lv2 := [(7, .int (nI (z ||| 2 ^ i))), (10, .int (nI ((nu N (tk N (q / 256) (q % 256)) (q / 256) i) / 256))), (9, .int (nI ((nu N (tk N (p / 256) (p % 256)) (p / 256) i) / 256))), (0, .ref s0), (1, .int (nI p)), (2, .int (nI q)), (3, .int (nI (p / 256))), (4, .int (nI (q / 256))), (5, .int (nI (tk N (p / 256) (p % 256)))), (6, .int (nI (tk N (q / 256) (q % 256)))), (8, .int (nI i))]) F dX5_unlikeChildren_130 (by decide) rfl ?_
                refine g_iinc (k := 10) (v := nI (i + 1)) (lv2 := [(8, .int (nI (i + 1))), (7, .int (nI (z ||| 2 ^ i))), (10, .int (nI ((nu N (tk N (q / 256) (q % 256)) (q / 256) i) / 256))), (9, .int (nI ((nu N (tk N (p / 256) (p % 256)) (p / 256) i) / 256))), (0, .ref s0), (1, .int (nI p)), (2, .int (nI q)), (3, .int (nI (p / 256))), (4, .int (nI (q / 256))), (5, .int (nI (tk N (p / 256) (p % 256)))), (6, .int (nI (tk N (q / 256) (q % 256))))]) F dX5_unlikeChildren_132 rfl (nI_1 _) (by decide) rfl ?_
                refine g_goto (tgt := 73) F dX5_unlikeChildren_135 (by decide) ?_
                refine g_lv [4, 5, 6, 7, 8, 9, 10, 1, 0] rfl ?_
                exact ih73 (i + 1) (z ||| 2 ^ i) (by omega) (by omega) (by unfold ucs; first | rw [if_pos c120, hz] | rw [if_neg c120, hz])
        refine g_lv [6, 7, 8, 5, 4, 3, 2, 1, 0] rfl ?_
        exact loop73 ((4 - 0) + 1) 0 0 (Nat.lt_succ_self _) (by omega) (by rfl)
      · skip
        refine g_ldc (v := (-1000002)) F dX5_unlikeChildren_64 (by decide +kernel) ?_
        exact hret _ _ _ _ dX5_unlikeChildren_66 ⟨(by unfold ucn; rw [if_neg c16]; first | rw [if_pos c55]; rfl | (rw [if_neg (by omega), if_pos (by omega)]; rfl)), rfl⟩
  · skip
    refine g_iconst (v := nI 0) F dX5_unlikeChildren_19 (by decide) ?_
    exact hret _ _ _ _ dX5_unlikeChildren_20 ⟨(by unfold ucn; rw [if_pos c16]; rfl), rfl⟩
set_option maxHeartbeats 4000000 in
set_option maxRecDepth 100000 in
theorem c_X5_unlikeLeaves (l : Launch) (E : En) (s0 : Nat) (s1 : Nat) (s2 : Nat) (s3 : Nat) (s4 : Nat) (s6 : Nat) (s7 : Nat) (s8 : Nat) (mi : Nat) (wr : Nat) (z : Nat) (N : Nat → Nat) (rb : Nat → Nat) (rs : Nat → Nat) (p : Nat) (q : Nat) (hp : p < 8) (hq : q < 8) (hN : BN N) (hb1 : rb p < 65536) (hb2 : rb q < 65536) (hs1 : rs p < 65536) (hs2 : rs q < 65536) : CtI l yX5_unlikeLeaves wsX5_unlikeLeaves ({ frames := 4, cells := 0, slots := 0, locals := 96 } : Room) E [.ref s0, .int (nI p), .int (nI q)] [ob 5 s0 [.ref s1, .ref s2, .ref s3, .int (nI mi), .int (nI wr)], ob 1 s1 [.ref s4], ai E s4 768 N, ob 3 s3 [.ref s6, .ref s7, .ref s8, .int (nI z)], ai E s7 8 rb, ai E s8 8 rs] (fun rr uu => rr = (ulI (uly N (rb p) (rs p) (rb q) (rs q))) ∧ uu = [ob 5 s0 [.ref s1, .ref s2, .ref s3, .int (nI mi), .int (nI wr)], ob 1 s1 [.ref s4], ai E s4 768 N, ob 3 s3 [.ref s6, .ref s7, .ref s8, .int (nI z)], ai E s7 8 rb, ai E s8 8 rs]) := by
  refine CtI.of cX5_unlikeLeaves 10 RX5 .int rfl (by decide) rfl (Or.inl rfl) (Nat.le_of_ble_eq_true rfl) (fun h => by cases h) ?_
  intro Γ F hret
  show G Γ E 0 0 0 [(0, .ref s0), (1, .int (nI p)), (2, .int (nI q))] [] [ob 5 s0 [.ref s1, .ref s2, .ref s3, .int (nI mi), .int (nI wr)], ob 1 s1 [.ref s4], ai E s4 768 N, ob 3 s3 [.ref s6, .ref s7, .ref s8, .int (nI z)], ai E s7 8 rb, ai E s8 8 rs]
  refine g_aload_n F 0 dX5_unlikeLeaves_0 rfl rfl ?_
  refine g_get F 0 2 dX5_unlikeLeaves_1 rfl rfl (by decide) (by decide +kernel) (by decide +kernel) rfl ?_
  refine g_iload_n F 1 dX5_unlikeLeaves_4 rfl rfl ?_
  refine g_callViR (n := 1) F [3, 4] (c_X3_blockAt l E s3 s6 s7 s8 z rb p (by omega)) dX5_unlikeLeaves_5 rfl (by decide) rfl rfl rfl (Nat.le_of_ble_eq_true rfl) ⟨Nat.le_of_ble_eq_true rfl, Nat.le_of_ble_eq_true rfl⟩ rfl rfl ⟨Nat.le_of_ble_eq_true rfl, Nat.le_of_ble_eq_true rfl⟩ 3 rfl rfl gX5_unlikeLeaves_X3_blockAt (by decide +kernel) (fun r u hp => by obtain ⟨-, h⟩ := hp; exact h) ?_
  rintro r_5 u_5 ⟨rfl, -⟩
  refine g_istore_n (lv2 := [(3, .int (nI (rb p))), (0, .ref s0), (1, .int (nI p)), (2, .int (nI q))]) F dX5_unlikeLeaves_8 rfl (by decide) rfl ?_
  refine g_aload_n F 1 dX5_unlikeLeaves_9 rfl rfl ?_
  refine g_get F 0 2 dX5_unlikeLeaves_10 rfl rfl (by decide) (by decide +kernel) (by decide +kernel) rfl ?_
  refine g_iload_n F 3 dX5_unlikeLeaves_13 rfl rfl ?_
  refine g_callViR (n := 1) F [3, 4] (c_X3_blockAt l E s3 s6 s7 s8 z rb q (by omega)) dX5_unlikeLeaves_14 rfl (by decide) rfl rfl rfl (Nat.le_of_ble_eq_true rfl) ⟨Nat.le_of_ble_eq_true rfl, Nat.le_of_ble_eq_true rfl⟩ rfl rfl ⟨Nat.le_of_ble_eq_true rfl, Nat.le_of_ble_eq_true rfl⟩ 3 rfl rfl gX5_unlikeLeaves_X3_blockAt (by decide +kernel) (fun r u hp => by obtain ⟨-, h⟩ := hp; exact h) ?_
  rintro r_14 u_14 ⟨rfl, -⟩
  refine g_istore (lv2 := [(4, .int (nI (rb q))), (3, .int (nI (rb p))), (0, .ref s0), (1, .int (nI p)), (2, .int (nI q))]) F dX5_unlikeLeaves_17 (by decide) rfl ?_
  refine g_iload_n F 1 dX5_unlikeLeaves_19 rfl rfl ?_
  refine g_iload F 0 dX5_unlikeLeaves_20 rfl ?_
  refine g_icmp_neN (tgt := 27) F dX5_unlikeLeaves_22 (by decide) (by omega) (by omega) (fun c22 => ?_) (fun c22 => ?_)
  · skip
    refine g_aload_n F 2 dX5_unlikeLeaves_27 rfl rfl ?_
    refine g_get F 0 0 dX5_unlikeLeaves_28 rfl rfl (by decide) (by decide +kernel) (by decide +kernel) rfl ?_
    refine g_iload_n F 1 dX5_unlikeLeaves_31 rfl rfl ?_
    refine g_aload_n F 2 dX5_unlikeLeaves_32 rfl rfl ?_
    refine g_get F 0 2 dX5_unlikeLeaves_33 rfl rfl (by decide) (by decide +kernel) (by decide +kernel) rfl ?_
    refine g_iload_n F 3 dX5_unlikeLeaves_36 rfl rfl ?_
    refine g_callViR (n := 1) F [3, 5] (c_X3_sumAt l E s3 s6 s7 s8 z rs p (by omega)) dX5_unlikeLeaves_37 rfl (by decide) rfl rfl rfl (Nat.le_of_ble_eq_true rfl) ⟨Nat.le_of_ble_eq_true rfl, Nat.le_of_ble_eq_true rfl⟩ rfl rfl ⟨Nat.le_of_ble_eq_true rfl, Nat.le_of_ble_eq_true rfl⟩ 3 rfl rfl gX5_unlikeLeaves_X3_sumAt (by decide +kernel) (fun r u hp => by obtain ⟨-, h⟩ := hp; exact h) ?_
    rintro r_37 u_37 ⟨rfl, -⟩
    refine g_callViR (n := 2) F [1, 2] (c_X1_copyWithSum l E s1 s4 N (rb p) (rs p) (by omega) (by omega) (by assumption)) dX5_unlikeLeaves_40 rfl (by decide) rfl rfl rfl (Nat.le_of_ble_eq_true rfl) ⟨Nat.le_of_ble_eq_true rfl, Nat.le_of_ble_eq_true rfl⟩ rfl rfl ⟨Nat.le_of_ble_eq_true rfl, Nat.le_of_ble_eq_true rfl⟩ 1 rfl rfl gX5_unlikeLeaves_X1_copyWithSum (by decide +kernel) (fun r u hp => by obtain ⟨-, h⟩ := hp; exact h) ?_
    rintro r_40 u_40 ⟨rfl, -⟩
    refine g_istore (lv2 := [(5, .int (nI (tk N (rb p) (rs p)))), (4, .int (nI (rb q))), (3, .int (nI (rb p))), (0, .ref s0), (1, .int (nI p)), (2, .int (nI q))]) F dX5_unlikeLeaves_43 (by decide) rfl ?_
    refine g_aload_n F 3 dX5_unlikeLeaves_45 rfl rfl ?_
    refine g_get F 0 0 dX5_unlikeLeaves_46 rfl rfl (by decide) (by decide +kernel) (by decide +kernel) rfl ?_
    refine g_iload F 1 dX5_unlikeLeaves_49 rfl ?_
    refine g_aload_n F 3 dX5_unlikeLeaves_51 rfl rfl ?_
    refine g_get F 0 2 dX5_unlikeLeaves_52 rfl rfl (by decide) (by decide +kernel) (by decide +kernel) rfl ?_
    refine g_iload_n F 5 dX5_unlikeLeaves_55 rfl rfl ?_
    refine g_callViR (n := 1) F [3, 5] (c_X3_sumAt l E s3 s6 s7 s8 z rs q (by omega)) dX5_unlikeLeaves_56 rfl (by decide) rfl rfl rfl (Nat.le_of_ble_eq_true rfl) ⟨Nat.le_of_ble_eq_true rfl, Nat.le_of_ble_eq_true rfl⟩ rfl rfl ⟨Nat.le_of_ble_eq_true rfl, Nat.le_of_ble_eq_true rfl⟩ 3 rfl rfl gX5_unlikeLeaves_X3_sumAt (by decide +kernel) (fun r u hp => by obtain ⟨-, h⟩ := hp; exact h) ?_
    rintro r_56 u_56 ⟨rfl, -⟩
    refine g_callViR (n := 2) F [1, 2] (c_X1_copyWithSum l E s1 s4 N (rb q) (rs q) (by omega) (by omega) (by assumption)) dX5_unlikeLeaves_59 rfl (by decide) rfl rfl rfl (Nat.le_of_ble_eq_true rfl) ⟨Nat.le_of_ble_eq_true rfl, Nat.le_of_ble_eq_true rfl⟩ rfl rfl ⟨Nat.le_of_ble_eq_true rfl, Nat.le_of_ble_eq_true rfl⟩ 1 rfl rfl gX5_unlikeLeaves_X1_copyWithSum (by decide +kernel) (fun r u hp => by obtain ⟨-, h⟩ := hp; exact h) ?_
    rintro r_59 u_59 ⟨rfl, -⟩
    refine g_istore (lv2 := [(6, .int (nI (tk N (rb q) (rs q)))), (5, .int (nI (tk N (rb p) (rs p)))), (4, .int (nI (rb q))), (3, .int (nI (rb p))), (0, .ref s0), (1, .int (nI p)), (2, .int (nI q))]) F dX5_unlikeLeaves_62 (by decide) rfl ?_
    have hp1 := tk_le N (rb p) (rs p)
    have hq1 := tk_le N (rb q) (rs q)
    refine g_iload F 1 dX5_unlikeLeaves_64 rfl ?_
    refine g_iconst (v := nI 2) F dX5_unlikeLeaves_66 (by decide) ?_
    refine g_icmp_eqN (tgt := 76) F dX5_unlikeLeaves_67 (by decide) (by omega) (by omega) (fun c67 => ?_) (fun c67 => ?_)
    · skip
      refine g_ldc (v := (-1000002)) F dX5_unlikeLeaves_76 (by decide +kernel) ?_
      exact hret _ _ _ _ dX5_unlikeLeaves_78 ⟨(by unfold uly; rw [if_neg c22]; first | rw [if_pos c67]; rfl | (rw [if_neg (by omega), if_pos (by omega)]; rfl)), rfl⟩
    · skip
      refine g_iload F 0 dX5_unlikeLeaves_70 rfl ?_
      refine g_iconst (v := nI 2) F dX5_unlikeLeaves_72 (by decide) ?_
      refine g_icmp_neN (tgt := 79) F dX5_unlikeLeaves_73 (by decide) (by omega) (by omega) (fun c73 => ?_) (fun c73 => ?_)
      · skip
        refine g_iconst (v := nI 0) F dX5_unlikeLeaves_79 (by decide) ?_
        refine g_istore (lv2 := [(7, .int (nI 0)), (6, .int (nI (tk N (rb q) (rs q)))), (5, .int (nI (tk N (rb p) (rs p)))), (4, .int (nI (rb q))), (3, .int (nI (rb p))), (0, .ref s0), (1, .int (nI p)), (2, .int (nI q))]) F dX5_unlikeLeaves_80 (by decide) rfl ?_
        refine g_iconst (v := nI 0) F dX5_unlikeLeaves_82 (by decide) ?_
        refine g_istore (lv2 := [(8, .int (nI 0)), (7, .int (nI 0)), (6, .int (nI (tk N (rb q) (rs q)))), (5, .int (nI (tk N (rb p) (rs p)))), (4, .int (nI (rb q))), (3, .int (nI (rb p))), (0, .ref s0), (1, .int (nI p)), (2, .int (nI q))]) F dX5_unlikeLeaves_83 (by decide) rfl ?_
        have loop85 : ∀ (n : Nat) (i : Nat) (zz : Nat), 4 - i < n → (i ≤ 4) → (zz = uln N (tk N (rb p) (rs p)) (rb p) (tk N (rb q) (rs q)) (rb q) i) → (¬ zz = 65536) → G Γ E (0) (0) 85 [(0, .ref s0), (1, .int (nI p)), (2, .int (nI q)), (3, .int (nI (rb p))), (4, .int (nI (rb q))), (5, .int (nI (tk N (rb p) (rs p)))), (6, .int (nI (tk N (rb q) (rs q)))), (7, .int (nI zz)), (8, .int (nI i))] [] [ob 5 s0 [.ref s1, .ref s2, .ref s3, .int (nI mi), .int (nI wr)], ob 1 s1 [.ref s4], ai E s4 768 N, ob 3 s3 [.ref s6, .ref s7, .ref s8, .int (nI z)], ai E s7 8 rb, ai E s8 8 rs] := by
          intro n
          induction n with
          | zero => intro i zz hz; exact absurd hz (Nat.not_lt_zero _)
          | succ n ih85 =>
            intro i zz hz85 hi hz hz2
            refine g_iload F 8 dX5_unlikeLeaves_85 rfl ?_
            refine g_iconst (v := nI 4) F dX5_unlikeLeaves_87 (by decide) ?_
            refine g_icmp_geN (tgt := 148) F dX5_unlikeLeaves_88 (by decide) (by omega) (by omega) (fun c88 => ?_) (fun c88 => ?_)
            · skip
              refine g_iload F 7 dX5_unlikeLeaves_148 rfl ?_
              exact hret _ _ _ _ dX5_unlikeLeaves_150 ⟨(by 
                    unfold uly; rw [if_neg c22, if_neg (by omega), if_neg (by omega)]; have hi4 : i = 4 := by omega
                    subst hi4
                    rw [← hz]; unfold ulI; rw [if_neg hz2]), rfl⟩
            · skip
              have hpc : tk N (rb p) (rs p) < 2 := by omega
              have hqc : tk N (rb q) (rs q) < 2 := by omega
              have hpb : rb p < 96 := tk_in (Nat.ne_of_lt hpc)
              have hqb : rb q < 96 := tk_in (Nat.ne_of_lt hqc)
              refine g_aload_n F 0 dX5_unlikeLeaves_91 rfl rfl ?_
              refine g_aload_n F 0 dX5_unlikeLeaves_92 rfl rfl ?_
              refine g_get F 0 0 dX5_unlikeLeaves_93 rfl rfl (by decide) (by decide +kernel) (by decide +kernel) rfl ?_
              refine g_iload F 5 dX5_unlikeLeaves_96 rfl ?_
              refine g_iload_n F 3 dX5_unlikeLeaves_98 rfl rfl ?_
              refine g_iload F 8 dX5_unlikeLeaves_99 rfl ?_
              refine g_callViR (n := 3) F [1, 2] (c_X1_numberAt l E s1 s4 N (tk N (rb p) (rs p)) (rb p) i (by omega) (by omega) (by omega)) dX5_unlikeLeaves_101 rfl (by decide) rfl rfl rfl (Nat.le_of_ble_eq_true rfl) ⟨Nat.le_of_ble_eq_true rfl, Nat.le_of_ble_eq_true rfl⟩ rfl rfl ⟨Nat.le_of_ble_eq_true rfl, Nat.le_of_ble_eq_true rfl⟩ 1 rfl rfl gX5_unlikeLeaves_X1_numberAt (by decide +kernel) (fun r u hp => by obtain ⟨-, h⟩ := hp; exact h) ?_
              rintro r_101 u_101 ⟨rfl, -⟩
              refine g_aload_n F 0 dX5_unlikeLeaves_104 rfl rfl ?_
              refine g_get F 0 0 dX5_unlikeLeaves_105 rfl rfl (by decide) (by decide +kernel) (by decide +kernel) rfl ?_
              refine g_iload F 6 dX5_unlikeLeaves_108 rfl ?_
              refine g_iload F 4 dX5_unlikeLeaves_110 rfl ?_
              refine g_iload F 8 dX5_unlikeLeaves_112 rfl ?_
              refine g_callViR (n := 3) F [1, 2] (c_X1_numberAt l E s1 s4 N (tk N (rb q) (rs q)) (rb q) i (by omega) (by omega) (by omega)) dX5_unlikeLeaves_114 rfl (by decide) rfl rfl rfl (Nat.le_of_ble_eq_true rfl) ⟨Nat.le_of_ble_eq_true rfl, Nat.le_of_ble_eq_true rfl⟩ rfl rfl ⟨Nat.le_of_ble_eq_true rfl, Nat.le_of_ble_eq_true rfl⟩ 1 rfl rfl gX5_unlikeLeaves_X1_numberAt (by decide +kernel) (fun r u hp => by obtain ⟨-, h⟩ := hp; exact h) ?_
              rintro r_114 u_114 ⟨rfl, -⟩
              refine g_callViR (n := 2) F [0, 1, 2] (c_X5_unlikeChildren l E s0 s1 s2 s3 s4 mi wr N (nu N (tk N (rb p) (rs p)) (rb p) i) (nu N (tk N (rb q) (rs q)) (rb q) i) (by exact hN _) (by exact hN _) (by assumption)) dX5_unlikeLeaves_117 rfl (by decide) rfl rfl rfl (Nat.le_of_ble_eq_true rfl) ⟨Nat.le_of_ble_eq_true rfl, Nat.le_of_ble_eq_true rfl⟩ rfl rfl ⟨Nat.le_of_ble_eq_true rfl, Nat.le_of_ble_eq_true rfl⟩ 0 rfl rfl gX5_unlikeLeaves_X5_unlikeChildren (by decide +kernel) (fun r u hp => by obtain ⟨-, h⟩ := hp; exact h) ?_
              rintro r_117 u_117 ⟨rfl, -⟩
              refine g_istore (lv2 := [(9, .int (ucI (ucn N (nu N (tk N (rb p) (rs p)) (rb p) i) (nu N (tk N (rb q) (rs q)) (rb q) i)))), (0, .ref s0), (1, .int (nI p)), (2, .int (nI q)), (3, .int (nI (rb p))), (4, .int (nI (rb q))), (5, .int (nI (tk N (rb p) (rs p)))), (6, .int (nI (tk N (rb q) (rs q)))), (7, .int (nI zz)), (8, .int (nI i))]) F dX5_unlikeLeaves_120 (by decide) rfl ?_
              refine g_iload F 0 dX5_unlikeLeaves_122 rfl ?_
              refine g_if_ge (tgt := 130) F dX5_unlikeLeaves_124 (by decide) (fun c124 => ?_) (fun c124 => ?_)
              · skip
                refine g_iload F 8 dX5_unlikeLeaves_130 rfl ?_
                refine g_iload F 0 dX5_unlikeLeaves_132 rfl ?_
                refine g_top (ucI (ucn N (nu N (tk N (rb p) (rs p)) (rb p) i) (nu N (tk N (rb q) (rs q)) (rb q) i))) (nI (ucn N (nu N (tk N (rb p) (rs p)) (rb p) i) (nu N (tk N (rb q) (rs q)) (rb q) i))) (by unfold ucI; rw [if_neg (ucI_ok c124)]) ?_
                refine g_iconst (v := nI 4) F dX5_unlikeLeaves_134 (by decide) ?_
                refine g_iload F 9 dX5_unlikeLeaves_135 rfl ?_
                refine g_imulN F dX5_unlikeLeaves_137 ?_
                refine g_ishl F dX5_unlikeLeaves_138 ?_
                refine g_top ((nI (ucn N (nu N (tk N (rb p) (rs p)) (rb p) i) (nu N (tk N (rb q) (rs q)) (rb q) i))) <<< ((nI (4 * i)) &&& 31)) (nI (ucn N (nu N (tk N (rb p) (rs p)) (rb p) i) (nu N (tk N (rb q) (rs q)) (rb q) i) * 2 ^ (4 * i))) (by exact shl4 _ (by have := ucn_le N (nu N (tk N (rb p) (rs p)) (rb p) i) (nu N (tk N (rb q) (rs q)) (rb q) i); have := ucI_ok c124; omega) i (by omega)) ?_
                refine g_ior F dX5_unlikeLeaves_139 ?_
                refine g_top ((nI zz) ||| (nI (ucn N (nu N (tk N (rb p) (rs p)) (rb p) i) (nu N (tk N (rb q) (rs q)) (rb q) i) * 2 ^ (4 * i)))) (nI (zz ||| ucn N (nu N (tk N (rb p) (rs p)) (rb p) i) (nu N (tk N (rb q) (rs q)) (rb q) i) * 2 ^ (4 * i))) (by rw [nI_or]) ?_
                refine g_istore (lv2 := [(7, .int (nI (zz ||| ucn N (nu N (tk N (rb p) (rs p)) (rb p) i) (nu N (tk N (rb q) (rs q)) (rb q) i) * 2 ^ (4 * i)))), (9, .int (ucI (ucn N (nu N (tk N (rb p) (rs p)) (rb p) i) (nu N (tk N (rb q) (rs q)) (rb q) i)))), (0, .ref s0), (1, .int (nI p)), (2, .int (nI q)), (3, .int (nI (rb p))), (4, .int (nI (rb q))), (5, .int (nI (tk N (rb p) (rs p)))), (6, .int (nI (tk N (rb q) (rs q)))), (8, .int (nI i))]) F dX5_unlikeLeaves_140 (by decide) rfl ?_
                refine g_iinc (k := 9) (v := nI (i + 1)) (lv2 := [(8, .int (nI (i + 1))), (7, .int (nI (zz ||| ucn N (nu N (tk N (rb p) (rs p)) (rb p) i) (nu N (tk N (rb q) (rs q)) (rb q) i) * 2 ^ (4 * i)))), (9, .int (ucI (ucn N (nu N (tk N (rb p) (rs p)) (rb p) i) (nu N (tk N (rb q) (rs q)) (rb q) i)))), (0, .ref s0), (1, .int (nI p)), (2, .int (nI q)), (3, .int (nI (rb p))), (4, .int (nI (rb q))), (5, .int (nI (tk N (rb p) (rs p)))), (6, .int (nI (tk N (rb q) (rs q))))]) F dX5_unlikeLeaves_142 rfl (nI_1 _) (by decide) rfl ?_
                refine g_goto (tgt := 85) F dX5_unlikeLeaves_145 (by decide) ?_
                refine g_lv [3, 4, 5, 6, 7, 8, 9, 1, 0] rfl ?_
                exact ih85 (i + 1) (zz ||| ucn N (nu N (tk N (rb p) (rs p)) (rb p) i) (nu N (tk N (rb q) (rs q)) (rb q) i) * 2 ^ (4 * i)) (by omega) (by omega) (by exact uln_nx hz hz2 (ucI_ok c124)) (by exact uln_ne (by omega) hz hz2 (ucI_ok c124))
              · skip
                refine g_iload F 0 dX5_unlikeLeaves_127 rfl ?_
                exact hret _ _ _ _ dX5_unlikeLeaves_129 ⟨(by have h16 := ucI_no (ucn_le _ _ _) c124; unfold uly; rw [if_neg c22, if_neg (by omega), if_neg (by omega), uln_one (uln_at h16) 4 (by omega), h16]; rfl), rfl⟩
        refine g_lv [6, 7, 8, 5, 4, 3, 2, 1, 0] rfl ?_
        exact loop85 ((4 - 0) + 1) 0 0 (Nat.lt_succ_self _) (by omega) (by rfl) (by omega)
      · skip
        refine g_ldc (v := (-1000002)) F dX5_unlikeLeaves_76 (by decide +kernel) ?_
        exact hret _ _ _ _ dX5_unlikeLeaves_78 ⟨(by unfold uly; rw [if_neg c22]; first | rw [if_pos c67]; rfl | (rw [if_neg (by omega), if_pos (by omega)]; rfl)), rfl⟩
  · skip
    refine g_iconst (v := nI 0) F dX5_unlikeLeaves_25 (by decide) ?_
    exact hret _ _ _ _ dX5_unlikeLeaves_26 ⟨(by unfold uly; rw [if_pos c22]; rfl), rfl⟩
set_option maxHeartbeats 4000000 in
set_option maxRecDepth 100000 in
theorem c_X5_copyFrom (l : Launch) (E : En) (s0 : Nat) (s1 : Nat) (s2 : Nat) (s3 : Nat) (s4 : Nat) (s5 : Nat) (s6 : Nat) (s7 : Nat) (s8 : Nat) (mi : Nat) (wr : Nat) (z : Nat) (N : Nat → Nat) (U : Nat → Nat) (rn : Nat → Nat) (rb : Nat → Nat) (rs : Nat → Nat) (t0 : Nat) (t1 : Nat) (t2 : Nat) (t3 : Nat) (t4 : Nat) (t5 : Nat) (t6 : Nat) (t7 : Nat) (t8 : Nat) (mi2 : Nat) (wr2 : Nat) (z2 : Nat) (N2 : Nat → Nat) (U2 : Nat → Nat) (rn2 : Nat → Nat) (rb2 : Nat → Nat) (rs2 : Nat → Nat) (hU : BU U2) : CtV l yX5_copyFrom wsX5_copyFrom ({ frames := 2, cells := 0, slots := 0, locals := 45 } : Room) E [.ref s0, .ref t0] [ob 5 s0 [.ref s1, .ref s2, .ref s3, .int (nI mi), .int (nI wr)], ob 1 s1 [.ref s4], ai E s4 768 N, ob 0 s2 [.ref s5], az E s5 96 U, ob 3 s3 [.ref s6, .ref s7, .ref s8, .int (nI z)], ai E s6 8 rn, ai E s7 8 rb, ai E s8 8 rs, ob 5 t0 [.ref t1, .ref t2, .ref t3, .int (nI mi2), .int (nI wr2)], ob 1 t1 [.ref t4], ai E t4 768 N2, ob 0 t2 [.ref t5], az E t5 96 U2, ob 3 t3 [.ref t6, .ref t7, .ref t8, .int (nI z2)], ai E t6 8 rn2, ai E t7 8 rb2, ai E t8 8 rs2] (fun uu => uu = [ob 5 s0 [.ref s1, .ref s2, .ref s3, .int (nI mi2), .int (nI wr2)], ob 1 s1 [.ref s4], ai E s4 768 N2, ob 0 s2 [.ref s5], az E s5 96 U2, ob 3 s3 [.ref s6, .ref s7, .ref s8, .int (nI z2)], ai E s6 8 rn2, ai E s7 8 rb2, ai E s8 8 rs2, ob 5 t0 [.ref t1, .ref t2, .ref t3, .int (nI mi2), .int (nI wr2)], ob 1 t1 [.ref t4], ai E t4 768 N2, ob 0 t2 [.ref t5], az E t5 96 U2, ob 3 t3 [.ref t6, .ref t7, .ref t8, .int (nI z2)], ai E t6 8 rn2, ai E t7 8 rb2, ai E t8 8 rs2]) := by
  refine CtV.of cX5_copyFrom 2 RX5 rfl (by decide) rfl (Nat.le_of_ble_eq_true rfl) ?_
  intro Γ F hin0 hret
  show G Γ E 0 0 0 [(0, .ref s0), (1, .ref t0)] [] [ob 5 s0 [.ref s1, .ref s2, .ref s3, .int (nI mi), .int (nI wr)], ob 1 s1 [.ref s4], ai E s4 768 N, ob 0 s2 [.ref s5], az E s5 96 U, ob 3 s3 [.ref s6, .ref s7, .ref s8, .int (nI z)], ai E s6 8 rn, ai E s7 8 rb, ai E s8 8 rs, ob 5 t0 [.ref t1, .ref t2, .ref t3, .int (nI mi2), .int (nI wr2)], ob 1 t1 [.ref t4], ai E t4 768 N2, ob 0 t2 [.ref t5], az E t5 96 U2, ob 3 t3 [.ref t6, .ref t7, .ref t8, .int (nI z2)], ai E t6 8 rn2, ai E t7 8 rb2, ai E t8 8 rs2]
  refine g_aload_n F 0 dX5_copyFrom_0 rfl rfl ?_
  refine g_get F 0 0 dX5_copyFrom_1 rfl rfl (by decide) (by decide +kernel) (by decide +kernel) rfl ?_
  refine g_aload_n F 1 dX5_copyFrom_4 rfl rfl ?_
  refine g_get F 9 0 dX5_copyFrom_5 rfl rfl (by decide) (by decide +kernel) (by decide +kernel) rfl ?_
  refine g_callVvW (n := 1) F [1, 2, 10, 11] (c_X1_copyFrom l E s1 s4 N t1 t4 N2 ) dX5_copyFrom_8 rfl (by decide) rfl rfl rfl (Nat.le_of_ble_eq_true rfl) ⟨Nat.le_of_ble_eq_true rfl, Nat.le_of_ble_eq_true rfl⟩ rfl rfl ⟨Nat.le_of_ble_eq_true rfl, Nat.le_of_ble_eq_true rfl⟩ 1 rfl rfl gX5_copyFrom_X1_copyFrom (by decide +kernel) (fun u hp => by obtain rfl := hp; rfl) ?_
  rintro u_8 rfl
  refine g_ws (w2 := [ob 5 s0 [.ref s1, .ref s2, .ref s3, .int (nI mi), .int (nI wr)], ob 1 s1 [.ref s4], ai E s4 768 N2, ob 0 s2 [.ref s5], az E s5 96 U, ob 3 s3 [.ref s6, .ref s7, .ref s8, .int (nI z)], ai E s6 8 rn, ai E s7 8 rb, ai E s8 8 rs, ob 5 t0 [.ref t1, .ref t2, .ref t3, .int (nI mi2), .int (nI wr2)], ob 1 t1 [.ref t4], ai E t4 768 N2, ob 0 t2 [.ref t5], az E t5 96 U2, ob 3 t3 [.ref t6, .ref t7, .ref t8, .int (nI z2)], ai E t6 8 rn2, ai E t7 8 rb2, ai E t8 8 rs2]) rfl ?_
  refine g_aload_n F 0 dX5_copyFrom_11 rfl rfl ?_
  refine g_get F 0 1 dX5_copyFrom_12 rfl rfl (by decide) (by decide +kernel) (by decide +kernel) rfl ?_
  refine g_aload_n F 1 dX5_copyFrom_15 rfl rfl ?_
  refine g_get F 9 1 dX5_copyFrom_16 rfl rfl (by decide) (by decide +kernel) (by decide +kernel) rfl ?_
  refine g_callVvW (n := 1) F [3, 4, 12, 13] (c_X0_copyFrom l E s2 s5 U t2 t5 U2 (by assumption)) dX5_copyFrom_19 rfl (by decide) rfl rfl rfl (Nat.le_of_ble_eq_true rfl) ⟨Nat.le_of_ble_eq_true rfl, Nat.le_of_ble_eq_true rfl⟩ rfl rfl ⟨Nat.le_of_ble_eq_true rfl, Nat.le_of_ble_eq_true rfl⟩ 3 rfl rfl gX5_copyFrom_X0_copyFrom (by decide +kernel) (fun u hp => by obtain rfl := hp; rfl) ?_
  rintro u_19 rfl
  refine g_ws (w2 := [ob 5 s0 [.ref s1, .ref s2, .ref s3, .int (nI mi), .int (nI wr)], ob 1 s1 [.ref s4], ai E s4 768 N2, ob 0 s2 [.ref s5], az E s5 96 U2, ob 3 s3 [.ref s6, .ref s7, .ref s8, .int (nI z)], ai E s6 8 rn, ai E s7 8 rb, ai E s8 8 rs, ob 5 t0 [.ref t1, .ref t2, .ref t3, .int (nI mi2), .int (nI wr2)], ob 1 t1 [.ref t4], ai E t4 768 N2, ob 0 t2 [.ref t5], az E t5 96 U2, ob 3 t3 [.ref t6, .ref t7, .ref t8, .int (nI z2)], ai E t6 8 rn2, ai E t7 8 rb2, ai E t8 8 rs2]) rfl ?_
  refine g_aload_n F 0 dX5_copyFrom_22 rfl rfl ?_
  refine g_get F 0 2 dX5_copyFrom_23 rfl rfl (by decide) (by decide +kernel) (by decide +kernel) rfl ?_
  refine g_aload_n F 1 dX5_copyFrom_26 rfl rfl ?_
  refine g_get F 9 2 dX5_copyFrom_27 rfl rfl (by decide) (by decide +kernel) (by decide +kernel) rfl ?_
  refine g_callVvW (n := 1) F [5, 6, 7, 8, 14, 15, 16, 17] (c_X3_copyFrom l E s3 s6 s7 s8 z rn rb rs t3 t6 t7 t8 z2 rn2 rb2 rs2 ) dX5_copyFrom_30 rfl (by decide) rfl rfl rfl (Nat.le_of_ble_eq_true rfl) ⟨Nat.le_of_ble_eq_true rfl, Nat.le_of_ble_eq_true rfl⟩ rfl rfl ⟨Nat.le_of_ble_eq_true rfl, Nat.le_of_ble_eq_true rfl⟩ 5 rfl rfl gX5_copyFrom_X3_copyFrom (by decide +kernel) (fun u hp => by obtain rfl := hp; rfl) ?_
  rintro u_30 rfl
  refine g_ws (w2 := [ob 5 s0 [.ref s1, .ref s2, .ref s3, .int (nI mi), .int (nI wr)], ob 1 s1 [.ref s4], ai E s4 768 N2, ob 0 s2 [.ref s5], az E s5 96 U2, ob 3 s3 [.ref s6, .ref s7, .ref s8, .int (nI z2)], ai E s6 8 rn2, ai E s7 8 rb2, ai E s8 8 rs2, ob 5 t0 [.ref t1, .ref t2, .ref t3, .int (nI mi2), .int (nI wr2)], ob 1 t1 [.ref t4], ai E t4 768 N2, ob 0 t2 [.ref t5], az E t5 96 U2, ob 3 t3 [.ref t6, .ref t7, .ref t8, .int (nI z2)], ai E t6 8 rn2, ai E t7 8 rb2, ai E t8 8 rs2]) rfl ?_
  refine g_aload_n F 0 dX5_copyFrom_33 rfl rfl ?_
  refine g_aload_n F 1 dX5_copyFrom_34 rfl rfl ?_
  refine g_get F 9 3 dX5_copyFrom_35 rfl rfl (by decide) (by decide +kernel) (by decide +kernel) rfl ?_
  refine g_put F 0 3 dX5_copyFrom_38 rfl rfl (by decide) (by decide +kernel) (by decide +kernel) tyX5_ok nmX5 rfl (by decide +kernel) rfl rfl (Nat.le_of_ble_eq_true rfl) rfl (ty := .int) (w2 := [ob 5 s0 [.ref s1, .ref s2, .ref s3, .int (nI mi2), .int (nI wr)], ob 1 s1 [.ref s4], ai E s4 768 N2, ob 0 s2 [.ref s5], az E s5 96 U2, ob 3 s3 [.ref s6, .ref s7, .ref s8, .int (nI z2)], ai E s6 8 rn2, ai E s7 8 rb2, ai E s8 8 rs2, ob 5 t0 [.ref t1, .ref t2, .ref t3, .int (nI mi2), .int (nI wr2)], ob 1 t1 [.ref t4], ai E t4 768 N2, ob 0 t2 [.ref t5], az E t5 96 U2, ob 3 t3 [.ref t6, .ref t7, .ref t8, .int (nI z2)], ai E t6 8 rn2, ai E t7 8 rb2, ai E t8 8 rs2]) rfl ?_
  refine g_aload_n F 0 dX5_copyFrom_41 rfl rfl ?_
  refine g_aload_n F 1 dX5_copyFrom_42 rfl rfl ?_
  refine g_get F 9 4 dX5_copyFrom_43 rfl rfl (by decide) (by decide +kernel) (by decide +kernel) rfl ?_
  refine g_put F 0 4 dX5_copyFrom_46 rfl rfl (by decide) (by decide +kernel) (by decide +kernel) tyX5_ok nmX5 rfl (by decide +kernel) rfl rfl (Nat.le_of_ble_eq_true rfl) rfl (ty := .int) (w2 := [ob 5 s0 [.ref s1, .ref s2, .ref s3, .int (nI mi2), .int (nI wr2)], ob 1 s1 [.ref s4], ai E s4 768 N2, ob 0 s2 [.ref s5], az E s5 96 U2, ob 3 s3 [.ref s6, .ref s7, .ref s8, .int (nI z2)], ai E s6 8 rn2, ai E s7 8 rb2, ai E s8 8 rs2, ob 5 t0 [.ref t1, .ref t2, .ref t3, .int (nI mi2), .int (nI wr2)], ob 1 t1 [.ref t4], ai E t4 768 N2, ob 0 t2 [.ref t5], az E t5 96 U2, ob 3 t3 [.ref t6, .ref t7, .ref t8, .int (nI z2)], ai E t6 8 rn2, ai E t7 8 rb2, ai E t8 8 rs2]) rfl ?_
  exact hret _ _ _ dX5_copyFrom_49 rfl
