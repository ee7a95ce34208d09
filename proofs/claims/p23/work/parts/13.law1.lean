/-! the law's own methods -/
def lwv (v : Int32) (n : Nat) : Nat := dv (v &&& nI 2147483647) % n
theorem low_bit : (2147483647 : Int32).toBitVec = BitVec.ofNat 32 (2 ^ 31 - 1) := by decide
theorem low_nI (v : Int32) : v &&& nI 2147483647 = nI (dv (v &&& nI 2147483647)) ∧ dv (v &&& nI 2147483647) < 2147483648 := by
  have h : ∃ j : Nat, j < 2 ^ 31 ∧ v &&& nI 2147483647 = nI j := by
    refine ⟨v.toBitVec.toNat % 2 ^ 31, Nat.mod_lt _ (by decide), ?_⟩
    apply Int32.toBitVec_inj.mp
    rw [Int32.toBitVec_and]
    show v.toBitVec &&& (BitVec.ofNat 32 (2 ^ 31 - 1)) = BitVec.ofNat 32 _
    apply BitVec.eq_of_toNat_eq
    rw [BitVec.toNat_and, BitVec.toNat_ofNat, BitVec.toNat_ofNat, Nat.mod_eq_of_lt (show 2 ^ 31 - 1 < 2 ^ 32 by decide), Nat.and_two_pow_sub_one_eq_mod]
    exact (Nat.mod_eq_of_lt (Nat.lt_of_lt_of_le (Nat.mod_lt _ (show 0 < 2 ^ 31 by decide)) (show 2 ^ 31 ≤ 2 ^ 32 by decide))).symm
  obtain ⟨j, hj, e⟩ := h
  rw [e, dv_nI hj]
  exact ⟨rfl, hj⟩
theorem lwv_lt (v : Int32) {n : Nat} (h : 0 < n) : lwv v n < n := Nat.mod_lt _ h
def fr1 (U : Nat → Nat) (i : Nat) : Nat := if U i = 0 then 1 else 0
noncomputable def bcn (U : Nat → Nat) : Nat → Nat
  | 0 => 0
  | i + 1 => bcn U i + pcL (bs U i)
theorem bcn_2 (U : Nat → Nat) : bcn U 2 = cn U 96 := by
  show 0 + pcL (bs U 0) + pcL (bs U 1) = _
  rw [Nat.zero_add, pcL_bs]
theorem bcn_le (U : Nat → Nat) : ∀ i, bcn U i ≤ 64 * i
  | 0 => Nat.le_refl 0
  | i + 1 => by
    have := bcn_le U i
    have := pcL_le (bs U i)
    show bcn U i + pcL (bs U i) ≤ _
    omega
noncomputable def nal (N : Nat → Nat) (b : Nat) : Nat := @ite _ (al N b) (Classical.propDecidable _) 0 1
theorem nal_a {N : Nat → Nat} {b : Nat} (h : al N b) : nal N b = 0 := if_pos h
theorem nal_b {N : Nat → Nat} {b : Nat} (h : ¬ al N b) : nal N b = 1 := if_neg h
theorem nal_le (N : Nat → Nat) (b : Nat) : nal N b ≤ 1 := by
  by_cases h : al N b
  · rw [nal_a h]; omega
  · rw [nal_b h]; omega
theorem ZB_ly2 {N T : Nat → Nat} (h : ZB N) {b v : Nat} (hb : b < 96) (hT : 64 ≤ b → ∀ k, k < 4 → T (v * 4 + k) = 0) : ZB (ly2 N b T v) := fun c b2 k hc h1 h2 hk => by
  rw [nu_ly2 hc hb h2 hk]
  by_cases z : b2 = b
  · rw [if_pos z]; exact hT (by omega) k hk
  · rw [if_neg z]; exact h c b2 k hc h1 h2 hk
theorem ZB_md {N : Nat → Nat} (h : ZB N) (b s l : Nat) : ∀ m, m ≤ gl N b s l → ZB (md N (wb N b s l) (wtc N b s l) m).2
  | 0, _ => h
  | m + 1, hm => ZB_ly2 (ZB_md h b s l m (by omega)) (wb_in (by omega)) (fun h64 k hk => by
      rw [wtc_at hk]
      exact h _ _ _ (gl_lt (by omega)) h64 (wb_in (by omega)) hk)
set_option maxHeartbeats 4000000 in
set_option maxRecDepth 100000 in
theorem c_L_low (l : Launch) (E : En) (v : Int32) (n : Nat) (hn : 0 < n) (hn2 : n < 2147483648) : CtI l yL_low wsL_low ({ frames := 0, cells := 0, slots := 0, locals := 0 } : Room) E [.int (v), .int (nI n)] [] (fun rr uu => rr = (nI (lwv v n)) ∧ uu = []) := by
  refine CtI.of cL_low 2 RL .int rfl (by decide) rfl (Or.inl rfl) (Nat.le_of_ble_eq_true rfl) (fun h => by cases h) ?_
  intro Γ F hret
  show G Γ E 0 0 0 [(0, .int (v)), (1, .int (nI n))] [] []
  refine g_iload_n F 0 dL_low_0 rfl rfl ?_
  refine g_ldc (v := 2147483647) F dL_low_1 (by decide +kernel) ?_
  refine g_top (2147483647) (nI 2147483647) (by decide) ?_
  refine g_iand F dL_low_3 ?_
  have hlo := (low_nI v).2
  refine g_top (v &&& (nI 2147483647)) (nI (dv (v &&& nI 2147483647))) (by exact (low_nI v).1) ?_
  refine g_iload_n F 1 dL_low_4 rfl rfl ?_
  refine g_iremN F dL_low_5 (by omega) (by omega) (by omega) ?_
  exact hret _ _ _ _ dL_low_6 ⟨(congrArg nI (by rfl)), rfl⟩
set_option maxHeartbeats 4000000 in
set_option maxRecDepth 100000 in
theorem c_L_number (l : Launch) (E : En) (f : Nat → Nat) (k : Nat) (hf : ∀ j : Nat, j < 4 → f j < 65536) (hk : k < 4) : CtI l yL_number wsL_number ({ frames := 0, cells := 0, slots := 0, locals := 0 } : Room) E [.long (pkN f), .int (nI k)] [] (fun rr uu => rr = (nI (f k)) ∧ uu = []) := by
  refine CtI.of cL_number 3 RL .int rfl (by decide) rfl (Or.inl rfl) (Nat.le_of_ble_eq_true rfl) (fun h => by cases h) ?_
  intro Γ F hret
  show G Γ E 0 0 0 [(0, .long (pkN f)), (2, .int (nI k))] [] []
  refine g_lload_n F 0 dL_number_0 rfl rfl ?_
  refine g_bipush (v := nI 16) F dL_number_1 (by decide) ?_
  refine g_iload_n F 1 dL_number_3 rfl rfl ?_
  refine g_imulN F dL_number_4 ?_
  refine g_lushr (v := (((pkN f)).toUInt64 >>> ((nI (16 * k)).toInt64.toUInt64 &&& Int64.toUInt64 63)).toInt64) F dL_number_5 (by rfl) ?_
  refine g_ldc2 (v := 65535) F dL_number_6 (by decide +kernel) ?_
  refine g_land F dL_number_9 ?_
  refine g_l2i (v := nI (f k)) F dL_number_10 (by exact pk_num hf hk) ?_
  exact hret _ _ _ _ dL_number_11 ⟨rfl, rfl⟩
set_option maxHeartbeats 4000000 in
set_option maxRecDepth 100000 in
theorem c_L_sum (l : Launch) (E : En) (f : Nat → Nat) (hf : ∀ j : Nat, j < 4 → f j < 65536) : CtI l yL_sum wsL_sum ({ frames := 1, cells := 0, slots := 0, locals := 22 } : Room) E [.long (pkN f)] [] (fun rr uu => rr = (nI (sm f 0)) ∧ uu = []) := by
  refine CtI.of cL_sum 2 RL .int rfl (by decide) rfl (Or.inl rfl) (Nat.le_of_ble_eq_true rfl) (fun h => by cases h) ?_
  intro Γ F hret
  show G Γ E 0 0 0 [(0, .long (pkN f))] [] []
  refine g_iconst (v := nI 4) F dL_sum_0 (by decide) ?_
  refine g_lload_n F 0 dL_sum_1 rfl rfl ?_
  refine g_iconst (v := nI 0) F dL_sum_2 (by decide) ?_
  refine g_callSiR (n := 2) F [] (c_L_number l E f 0 (by assumption) (by decide)) dL_sum_3 rfl (by decide) rfl rfl rfl (Nat.le_of_ble_eq_true rfl) ⟨Nat.le_of_ble_eq_true rfl, Nat.le_of_ble_eq_true rfl⟩ rfl rfl ⟨Nat.le_of_ble_eq_true rfl, Nat.le_of_ble_eq_true rfl⟩ ggL_sum_L_number (by decide +kernel) (by decide +kernel) (by decide +kernel) (by decide +kernel) (fun r u hp => by obtain ⟨-, h⟩ := hp; exact h) ?_
  rintro r_3 u_3 ⟨rfl, -⟩
  refine g_imulN F dL_sum_6 ?_
  refine g_iconst (v := nI 3) F dL_sum_7 (by decide) ?_
  refine g_lload_n F 0 dL_sum_8 rfl rfl ?_
  refine g_iconst (v := nI 1) F dL_sum_9 (by decide) ?_
  refine g_callSiR (n := 2) F [] (c_L_number l E f 1 (by assumption) (by decide)) dL_sum_10 rfl (by decide) rfl rfl rfl (Nat.le_of_ble_eq_true rfl) ⟨Nat.le_of_ble_eq_true rfl, Nat.le_of_ble_eq_true rfl⟩ rfl rfl ⟨Nat.le_of_ble_eq_true rfl, Nat.le_of_ble_eq_true rfl⟩ ggL_sum_L_number (by decide +kernel) (by decide +kernel) (by decide +kernel) (by decide +kernel) (fun r u hp => by obtain ⟨-, h⟩ := hp; exact h) ?_
  rintro r_10 u_10 ⟨rfl, -⟩
  refine g_imulN F dL_sum_13 ?_
  refine g_iaddN F dL_sum_14 ?_
  refine g_iconst (v := nI 2) F dL_sum_15 (by decide) ?_
  refine g_lload_n F 0 dL_sum_16 rfl rfl ?_
  refine g_iconst (v := nI 2) F dL_sum_17 (by decide) ?_
  refine g_callSiR (n := 2) F [] (c_L_number l E f 2 (by assumption) (by decide)) dL_sum_18 rfl (by decide) rfl rfl rfl (Nat.le_of_ble_eq_true rfl) ⟨Nat.le_of_ble_eq_true rfl, Nat.le_of_ble_eq_true rfl⟩ rfl rfl ⟨Nat.le_of_ble_eq_true rfl, Nat.le_of_ble_eq_true rfl⟩ ggL_sum_L_number (by decide +kernel) (by decide +kernel) (by decide +kernel) (by decide +kernel) (fun r u hp => by obtain ⟨-, h⟩ := hp; exact h) ?_
  rintro r_18 u_18 ⟨rfl, -⟩
  refine g_imulN F dL_sum_21 ?_
  refine g_iaddN F dL_sum_22 ?_
  refine g_lload_n F 0 dL_sum_23 rfl rfl ?_
  refine g_iconst (v := nI 3) F dL_sum_24 (by decide) ?_
  refine g_callSiR (n := 2) F [] (c_L_number l E f 3 (by assumption) (by decide)) dL_sum_25 rfl (by decide) rfl rfl rfl (Nat.le_of_ble_eq_true rfl) ⟨Nat.le_of_ble_eq_true rfl, Nat.le_of_ble_eq_true rfl⟩ rfl rfl ⟨Nat.le_of_ble_eq_true rfl, Nat.le_of_ble_eq_true rfl⟩ ggL_sum_L_number (by decide +kernel) (by decide +kernel) (by decide +kernel) (by decide +kernel) (fun r u hp => by obtain ⟨-, h⟩ := hp; exact h) ?_
  rintro r_25 u_25 ⟨rfl, -⟩
  refine g_iaddN F dL_sum_28 ?_
  refine g_bipush (v := nI 7) F dL_sum_29 (by decide) ?_
  refine g_iaddN F dL_sum_31 ?_
  refine g_sipush (v := nI 251) F dL_sum_32 (by decide) ?_
  refine g_iremN F dL_sum_35 (by have h0 := hf 0 (by decide); have h1 := hf 1 (by decide); have h2 := hf 2 (by decide); have h3 := hf 3 (by decide); omega) (by decide) (by decide) ?_
  exact hret _ _ _ _ dL_sum_36 ⟨(congrArg nI (by rfl)), rfl⟩
set_option maxHeartbeats 4000000 in
set_option maxRecDepth 100000 in
theorem c_L_with (l : Launch) (E : En) (f : Nat → Nat) (k : Nat) (v : Nat) (hk : k < 4) (hv : v < 65536) : CtJ l yL_with wsL_with ({ frames := 0, cells := 0, slots := 0, locals := 0 } : Room) E [.long (pkN f), .int (nI k), .int (nI v)] [] (fun (rr : Int64) uu => rr = (pkN (up f k v)) ∧ uu = []) := by
  refine CtJ.of cL_with 4 RL rfl (by decide) rfl (Nat.le_of_ble_eq_true rfl) ?_
  intro Γ F hret
  show G Γ E 0 0 0 [(0, .long (pkN f)), (2, .int (nI k)), (3, .int (nI v))] [] []
  refine g_lload_n F 0 dL_with_0 rfl rfl ?_
  refine g_ldc2 (v := 65535) F dL_with_1 (by decide +kernel) ?_
  refine g_bipush (v := nI 16) F dL_with_4 (by decide) ?_
  refine g_iload_n F 1 dL_with_6 rfl rfl ?_
  refine g_imulN F dL_with_7 ?_
  refine g_lshl (v := 65535 <<< ((nI (16 * k)).toInt64 &&& 63)) F dL_with_8 (by rfl) ?_
  refine g_ldc2 (v := (-1)) F dL_with_9 (by decide +kernel) ?_
  refine g_lxor F dL_with_12 ?_
  refine g_land F dL_with_13 ?_
  refine g_iload_n F 2 dL_with_14 rfl rfl ?_
  refine g_i2l (v := (nI v).toInt64) F dL_with_15 (by rfl) ?_
  refine g_bipush (v := nI 16) F dL_with_16 (by decide) ?_
  refine g_iload_n F 1 dL_with_18 rfl rfl ?_
  refine g_imulN F dL_with_19 ?_
  refine g_lshl (v := ((nI v).toInt64) <<< ((nI (16 * k)).toInt64 &&& 63)) F dL_with_20 (by rfl) ?_
  refine g_lor F dL_with_21 ?_
  exact hret _ _ _ _ dL_with_22 ⟨(by exact pk_with hk hv), rfl⟩
set_option maxHeartbeats 4000000 in
set_option maxRecDepth 100000 in
theorem c_L_content (l : Launch) (E : En) (h : Nat) (N : Nat → Nat) (i : Nat) (b : Nat) (hi : i < 2) (hb : b < 96) (hZ : ZB N) : CtJ l yL_content wsL_content ({ frames := 0, cells := 0, slots := 0, locals := 0 } : Room) E [.int (nI b), .ref h] [aj E h 64 (cc N i)] (fun (rr : Int64) uu => rr = (pkN (ccf N i b)) ∧ uu = [aj E h 64 (cc N i)]) := by
  refine CtJ.of cL_content 2 RL rfl (by decide) rfl (Nat.le_of_ble_eq_true rfl) ?_
  intro Γ F hret
  show G Γ E 0 0 0 [(0, .int (nI b)), (1, .ref h)] [] [aj E h 64 (cc N i)]
  refine g_iload_n F 0 dL_content_0 rfl rfl ?_
  refine g_bipush (v := nI 64) F dL_content_1 (by decide) ?_
  refine g_icmp_geN (tgt := 12) F dL_content_3 (by decide) (by omega) (by omega) (fun c3 => ?_) (fun c3 => ?_)
  · skip
    refine g_lconst (v := 0) F dL_content_12 (by decide) ?_
    exact hret _ _ _ _ dL_content_13 ⟨(by first | exact cc_zero hZ hi c3 hb | rfl), rfl⟩
  · skip
    refine g_aload_n F 1 dL_content_6 rfl rfl ?_
    refine g_iload_n F 0 dL_content_7 rfl rfl ?_
    refine g_jald F 0 dL_content_8 rfl (by omega) (by decide) ?_
    refine g_goto (tgt := 13) F dL_content_9 (by decide) ?_
    exact hret _ _ _ _ dL_content_13 ⟨(by first | exact cc_zero hZ hi c3 hb | rfl), rfl⟩
set_option maxHeartbeats 4000000 in
set_option maxRecDepth 100000 in
theorem c_L_from (l : Launch) (E : En) (c : Nat) (d : Nat) (N : Nat → Nat) (b : Nat) (s : Nat) (hb : b < 65536) (hs : s < 65536) (hN : BN N) (hZ : ZB N) : CtI l yL_from wsL_from ({ frames := 2, cells := 0, slots := 0, locals := 43 } : Room) E [.int (nI b), .int (nI s), .ref c, .ref d] [aj E c 64 (cc N 0), aj E d 64 (cc N 1)] (fun rr uu => rr = (nI (tk N b s)) ∧ uu = [aj E c 64 (cc N 0), aj E d 64 (cc N 1)]) := by
  refine CtI.of cL_from 4 RL .int rfl (by decide) rfl (Or.inl rfl) (Nat.le_of_ble_eq_true rfl) (fun h => by cases h) ?_
  intro Γ F hret
  show G Γ E 0 0 0 [(0, .int (nI b)), (1, .int (nI s)), (2, .ref c), (3, .ref d)] [] [aj E c 64 (cc N 0), aj E d 64 (cc N 1)]
  refine g_iload_n F 0 dL_from_0 rfl rfl ?_
  refine g_bipush (v := nI 95) F dL_from_1 (by decide) ?_
  refine g_icmp_leN (tgt := 10) F dL_from_3 (by decide) (by omega) (by omega) (fun c3 => ?_) (fun c3 => ?_)
  · skip
    have hq1 := sm_lt N ((0 * 96 + b) * 4)
    have hq2 := sm_lt N ((1 * 96 + b) * 4)
    refine g_iload_n F 0 dL_from_10 rfl rfl ?_
    refine g_aload_n F 2 dL_from_11 rfl rfl ?_
    refine g_callSjR (n := 2) F [0] (c_L_content l E c N 0 b (by decide) (by omega) (by assumption)) dL_from_12 rfl (by decide) rfl rfl rfl (Nat.le_of_ble_eq_true rfl) ⟨Nat.le_of_ble_eq_true rfl, Nat.le_of_ble_eq_true rfl⟩ rfl rfl ⟨Nat.le_of_ble_eq_true rfl, Nat.le_of_ble_eq_true rfl⟩ ggL_from_L_content (by decide +kernel) (by decide +kernel) (by decide +kernel) (by decide +kernel) (fun r u hp => by obtain ⟨-, h⟩ := hp; exact h) ?_
    rintro r_12 u_12 ⟨rfl, -⟩
    refine g_callSiR (n := 1) F [] (c_L_sum l E (ccf N 0 b) (by exact ccf_lt hN _ _)) dL_from_15 rfl (by decide) rfl rfl rfl (Nat.le_of_ble_eq_true rfl) ⟨Nat.le_of_ble_eq_true rfl, Nat.le_of_ble_eq_true rfl⟩ rfl rfl ⟨Nat.le_of_ble_eq_true rfl, Nat.le_of_ble_eq_true rfl⟩ ggL_from_L_sum (by decide +kernel) (by decide +kernel) (by decide +kernel) (by decide +kernel) (fun r u hp => by obtain ⟨-, h⟩ := hp; exact h) ?_
    rintro r_15 u_15 ⟨rfl, -⟩
    refine g_top (nI (sm (ccf N 0 b) 0)) (nI (sm N ((0 * 96 + b) * 4))) (by rfl) ?_
    refine g_iload_n F 1 dL_from_18 rfl rfl ?_
    refine g_icmp_neN (tgt := 26) F dL_from_19 (by decide) (by omega) (by omega) (fun c19 => ?_) (fun c19 => ?_)
    · skip
      refine g_iload_n F 0 dL_from_26 rfl rfl ?_
      refine g_aload_n F 3 dL_from_27 rfl rfl ?_
      refine g_callSjR (n := 2) F [1] (c_L_content l E d N 1 b (by decide) (by omega) (by assumption)) dL_from_28 rfl (by decide) rfl rfl rfl (Nat.le_of_ble_eq_true rfl) ⟨Nat.le_of_ble_eq_true rfl, Nat.le_of_ble_eq_true rfl⟩ rfl rfl ⟨Nat.le_of_ble_eq_true rfl, Nat.le_of_ble_eq_true rfl⟩ ggL_from_L_content (by decide +kernel) (by decide +kernel) (by decide +kernel) (by decide +kernel) (fun r u hp => by obtain ⟨-, h⟩ := hp; exact h) ?_
      rintro r_28 u_28 ⟨rfl, -⟩
      refine g_callSiR (n := 1) F [] (c_L_sum l E (ccf N 1 b) (by exact ccf_lt hN _ _)) dL_from_31 rfl (by decide) rfl rfl rfl (Nat.le_of_ble_eq_true rfl) ⟨Nat.le_of_ble_eq_true rfl, Nat.le_of_ble_eq_true rfl⟩ rfl rfl ⟨Nat.le_of_ble_eq_true rfl, Nat.le_of_ble_eq_true rfl⟩ ggL_from_L_sum (by decide +kernel) (by decide +kernel) (by decide +kernel) (by decide +kernel) (fun r u hp => by obtain ⟨-, h⟩ := hp; exact h) ?_
      rintro r_31 u_31 ⟨rfl, -⟩
      refine g_top (nI (sm (ccf N 1 b) 0)) (nI (sm N ((1 * 96 + b) * 4))) (by rfl) ?_
      refine g_iload_n F 1 dL_from_34 rfl rfl ?_
      refine g_icmp_neN (tgt := 42) F dL_from_35 (by decide) (by omega) (by omega) (fun c35 => ?_) (fun c35 => ?_)
      · skip
        refine g_iconst (v := nI 2) F dL_from_42 (by decide) ?_
        exact hret _ _ _ _ dL_from_43 ⟨(congrArg nI (by unfold tk; (repeat' split) <;> omega)), rfl⟩
      · skip
        refine g_iconst (v := nI 1) F dL_from_38 (by decide) ?_
        refine g_goto (tgt := 43) F dL_from_39 (by decide) ?_
        exact hret _ _ _ _ dL_from_43 ⟨(congrArg nI (by unfold tk; (repeat' split) <;> omega)), rfl⟩
    · skip
      refine g_iconst (v := nI 0) F dL_from_22 (by decide) ?_
      refine g_goto (tgt := 43) F dL_from_23 (by decide) ?_
      exact hret _ _ _ _ dL_from_43 ⟨(congrArg nI (by unfold tk; (repeat' split) <;> omega)), rfl⟩
  · skip
    refine g_iconst (v := nI 2) F dL_from_6 (by decide) ?_
    refine g_goto (tgt := 43) F dL_from_7 (by decide) ?_
    exact hret _ _ _ _ dL_from_43 ⟨(congrArg nI (by unfold tk; (repeat' split) <;> omega)), rfl⟩
set_option maxHeartbeats 4000000 in
set_option maxRecDepth 100000 in
theorem c_L_way (l : Launch) (E : En) (li : Nat) (c : Nat) (d : Nat) (N : Nat → Nat) (lf : Nat → Nat) (w : Nat) (Wf : Nat → Nat) (b0 : Nat) (s0 : Nat) (r : Nat) (l0 : Nat) (hr : r < 8) (hl : l0 < 16) (hN : BN N) (hZ : ZB N) (hb : lf (3 * r + 1) = b0) (hs : lf (3 * r + 2) = s0) (hb2 : b0 < 65536) (hs2 : s0 < 65536) : CtI l yL_way wsL_way ({ frames := 3, cells := 0, slots := 0, locals := 66 } : Room) E [.int (nI r), .int (nI l0), .ref li, .ref c, .ref d, .ref w] [ai E li 24 lf, aj E c 64 (cc N 0), aj E d 64 (cc N 1), ai E w 9 Wf] (fun rr uu => ∃ (W2 : Nat → Nat), (WX N b0 s0 l0 W2) ∧ rr = (nI (gl N b0 s0 l0)) ∧ uu = [ai E li 24 lf, aj E c 64 (cc N 0), aj E d 64 (cc N 1), ai E w 9 W2]) := by
  refine CtI.of cL_way 10 RL .int rfl (by decide) rfl (Or.inl rfl) (Nat.le_of_ble_eq_true rfl) (fun h => by cases h) ?_
  intro Γ F hret
  show G Γ E 0 0 0 [(0, .int (nI r)), (1, .int (nI l0)), (2, .ref li), (3, .ref c), (4, .ref d), (5, .ref w)] [] [ai E li 24 lf, aj E c 64 (cc N 0), aj E d 64 (cc N 1), ai E w 9 Wf]
  refine g_aload_n F 2 dL_way_0 rfl rfl ?_
  refine g_iconst (v := nI 3) F dL_way_1 (by decide) ?_
  refine g_iload_n F 0 dL_way_2 rfl rfl ?_
  refine g_imulN F dL_way_3 ?_
  refine g_iconst (v := nI 1) F dL_way_4 (by decide) ?_
  refine g_iaddN F dL_way_5 ?_
  refine g_iald F 0 dL_way_6 rfl (by omega) (by decide) ?_
  refine g_top (nI (lf ((3 * r) + 1))) (nI b0) (by rw [← hb]) ?_
  refine g_istore (lv2 := [(6, .int (nI b0)), (0, .int (nI r)), (1, .int (nI l0)), (2, .ref li), (3, .ref c), (4, .ref d), (5, .ref w)]) F dL_way_7 (by decide) rfl ?_
  refine g_aload_n F 3 dL_way_9 rfl rfl ?_
  refine g_iconst (v := nI 3) F dL_way_10 (by decide) ?_
  refine g_iload_n F 1 dL_way_11 rfl rfl ?_
  refine g_imulN F dL_way_12 ?_
  refine g_iconst (v := nI 2) F dL_way_13 (by decide) ?_
  refine g_iaddN F dL_way_14 ?_
  refine g_iald F 0 dL_way_15 rfl (by omega) (by decide) ?_
  refine g_top (nI (lf ((3 * r) + 2))) (nI s0) (by rw [← hs]) ?_
  refine g_istore (lv2 := [(7, .int (nI s0)), (6, .int (nI b0)), (0, .int (nI r)), (1, .int (nI l0)), (2, .ref li), (3, .ref c), (4, .ref d), (5, .ref w)]) F dL_way_16 (by decide) rfl ?_
  refine g_iconst (v := nI 0) F dL_way_18 (by decide) ?_
  refine g_istore (lv2 := [(8, .int (nI 0)), (7, .int (nI s0)), (6, .int (nI b0)), (0, .int (nI r)), (1, .int (nI l0)), (2, .ref li), (3, .ref c), (4, .ref d), (5, .ref w)]) F dL_way_19 (by decide) rfl ?_
  have loop21 : ∀ (n : Nat) (v : Nat) (x : Nat) (y : Nat) (A : Nat → Nat), 3 - v < n → (v ≤ 3) → (x = wb N b0 s0 l0 v) → (y = wq N b0 s0 l0 v) → (x < 65536) → (y < 65536) → (∀ u : Nat, u < v → A u = wb N b0 s0 l0 u ∧ A (3 + u) = wq N b0 s0 l0 u ∧ A (6 + u) = wd N b0 s0 l0 u) → (∀ u : Nat, u < v → wd N b0 s0 l0 u < 2) → G Γ E (0) (0) 21 [(0, .int (nI r)), (1, .int (nI l0)), (2, .ref li), (3, .ref c), (4, .ref d), (5, .ref w), (6, .int (nI x)), (7, .int (nI y)), (8, .int (nI v))] [] [ai E li 24 lf, aj E c 64 (cc N 0), aj E d 64 (cc N 1), ai E w 9 A] := by
    intro n
    induction n with
    | zero => intro v x y A hz; exact absurd hz (Nat.not_lt_zero _)
    | succ n ih21 =>
      intro v x y A hz21 hv hx hy hx2 hy2 hA hg
      refine g_iload F 8 dL_way_21 rfl ?_
      refine g_iconst (v := nI 3) F dL_way_23 (by decide) ?_
      refine g_icmp_geN (tgt := 139) F dL_way_24 (by decide) (by omega) (by omega) (fun c24 => ?_) (fun c24 => ?_)
      · skip
        refine g_iconst (v := nI 3) F dL_way_139 (by decide) ?_
        exact hret _ _ _ _ dL_way_140 ⟨A, (by 
              intro u hu hu2
              exact hA u (by omega)), (congrArg nI (by rw [gl_3 (fun u hu => hg u (by omega))])), (by rfl)⟩
      · skip
        refine g_aload F 5 dL_way_27 rfl ?_
        refine g_iload F 8 dL_way_29 rfl ?_
        refine g_iload F 6 dL_way_31 rfl ?_
        refine g_iast F 3 dL_way_33 rfl (by omega) (by decide) (w2 := [ai E li 24 lf, aj E c 64 (cc N 0), aj E d 64 (cc N 1), ai E w 9 (up A v x)]) rfl ?_
        refine g_aload F 5 dL_way_34 rfl ?_
        refine g_iconst (v := nI 3) F dL_way_36 (by decide) ?_
        refine g_iload F 8 dL_way_37 rfl ?_
        refine g_iaddN F dL_way_39 ?_
        refine g_iload F 7 dL_way_40 rfl ?_
        refine g_iast F 3 dL_way_42 rfl (by omega) (by decide) (w2 := [ai E li 24 lf, aj E c 64 (cc N 0), aj E d 64 (cc N 1), ai E w 9 (up (up A v x) (3 + v) y)]) rfl ?_
        refine g_aload F 5 dL_way_43 rfl ?_
        refine g_bipush (v := nI 6) F dL_way_45 (by decide) ?_
        refine g_iload F 8 dL_way_47 rfl ?_
        refine g_iaddN F dL_way_49 ?_
        refine g_iload F 6 dL_way_50 rfl ?_
        refine g_iload F 7 dL_way_52 rfl ?_
        refine g_aload_n F 3 dL_way_54 rfl rfl ?_
        refine g_aload F 4 dL_way_55 rfl ?_
        refine g_callSiR (n := 4) F [1, 2] (c_L_from l E c d N x y (by omega) (by omega) (by assumption) (by assumption)) dL_way_57 rfl (by decide) rfl rfl rfl (Nat.le_of_ble_eq_true rfl) ⟨Nat.le_of_ble_eq_true rfl, Nat.le_of_ble_eq_true rfl⟩ rfl rfl ⟨Nat.le_of_ble_eq_true rfl, Nat.le_of_ble_eq_true rfl⟩ ggL_way_L_from (by decide +kernel) (by decide +kernel) (by decide +kernel) (by decide +kernel) (fun r u hp => by obtain ⟨-, h⟩ := hp; exact h) ?_
        rintro r_57 u_57 ⟨rfl, -⟩
        refine g_iast F 3 dL_way_60 rfl (by omega) (by decide) (w2 := [ai E li 24 lf, aj E c 64 (cc N 0), aj E d 64 (cc N 1), ai E w 9 (up (up (up A v x) (3 + v) y) (6 + v) (tk N x y))]) rfl ?_
        have hwd : tk N x y = wd N b0 s0 l0 v := by rw [hx, hy]; rfl
        have hA2 : ∀ u : Nat, u < v + 1 → up (up (up A v x) (3 + v) y) (6 + v) (tk N x y) u = wb N b0 s0 l0 u ∧ up (up (up A v x) (3 + v) y) (6 + v) (tk N x y) (3 + u) = wq N b0 s0 l0 u ∧ up (up (up A v x) (3 + v) y) (6 + v) (tk N x y) (6 + u) = wd N b0 s0 l0 u := by
          intro u hu
          by_cases h : u = v
          · subst h
            refine ⟨?_, ?_, ?_⟩
            · rw [up_n _ _ (by omega), up_n _ _ (by omega), up_s, hx]
            · rw [up_n _ _ (by omega), up_s, hy]
            · rw [up_s, hwd]
          · have := hA u (by omega)
            refine ⟨?_, ?_, ?_⟩
            · rw [up_n _ _ (by omega), up_n _ _ (by omega), up_n _ _ (by omega)]; exact this.1
            · rw [up_n _ _ (by omega), up_n _ _ (by omega), up_n _ _ (by omega)]; exact this.2.1
            · rw [up_n _ _ (by omega), up_n _ _ (by omega), up_n _ _ (by omega)]; exact this.2.2
        have htk := tk_le N x y
        refine g_aload F 5 dL_way_61 rfl ?_
        refine g_bipush (v := nI 6) F dL_way_63 (by decide) ?_
        refine g_iload F 8 dL_way_65 rfl ?_
        refine g_iaddN F dL_way_67 ?_
        refine g_iald F 3 dL_way_68 rfl (by omega) (by decide) ?_
        refine g_top (nI ((up (up (up A v x) (3 + v) y) (6 + v) (tk N x y)) (6 + v))) (nI (tk N x y)) (by rw [up_s]) ?_
        refine g_iconst (v := nI 2) F dL_way_69 (by decide) ?_
        refine g_icmp_neN (tgt := 76) F dL_way_70 (by decide) (by omega) (by omega) (fun c70 => ?_) (fun c70 => ?_)
        · skip
          refine g_iload F 6 dL_way_76 rfl ?_
          refine g_aload F 5 dL_way_78 rfl ?_
          refine g_bipush (v := nI 6) F dL_way_80 (by decide) ?_
          refine g_iload F 8 dL_way_82 rfl ?_
          refine g_iaddN F dL_way_84 ?_
          refine g_iald F 3 dL_way_85 rfl (by omega) (by decide) ?_
          have kj98 : G Γ E (0) (0) 98 [(0, .int (nI r)), (1, .int (nI l0)), (2, .ref li), (3, .ref c), (4, .ref d), (5, .ref w), (6, .int (nI x)), (7, .int (nI y)), (8, .int (nI v))] [.long (pkN (ccf N (tk N x y) x))] [ai E li 24 lf, aj E c 64 (cc N 0), aj E d 64 (cc N 1), ai E w 9 (up (up (up A v x) (3 + v) y) (6 + v) (tk N x y))] := by
            refine g_iload F 8 dL_way_98 rfl ?_
            have kj112 : G Γ E (0) (0) 112 [(0, .int (nI r)), (1, .int (nI l0)), (2, .ref li), (3, .ref c), (4, .ref d), (5, .ref w), (6, .int (nI x)), (7, .int (nI y)), (8, .int (nI v))] [.int (nI (ch l0 v)), .long (pkN (ccf N (tk N x y) x))] [ai E li 24 lf, aj E c 64 (cc N 0), aj E d 64 (cc N 1), ai E w 9 (up (up (up A v x) (3 + v) y) (6 + v) (tk N x y))] := by
              refine g_callSiR (n := 2) F [] (c_L_number l E (ccf N (tk N x y) x) (ch l0 v) (by exact ccf_lt hN _ _) (by exact ch_lt hl)) dL_way_112 rfl (by decide) rfl rfl rfl (Nat.le_of_ble_eq_true rfl) ⟨Nat.le_of_ble_eq_true rfl, Nat.le_of_ble_eq_true rfl⟩ rfl rfl ⟨Nat.le_of_ble_eq_true rfl, Nat.le_of_ble_eq_true rfl⟩ ggL_way_L_number (by decide +kernel) (by decide +kernel) (by decide +kernel) (by decide +kernel) (fun r u hp => by obtain ⟨-, h⟩ := hp; exact h) ?_
              rintro r_112 u_112 ⟨rfl, -⟩
              refine g_top (nI ((ccf N (tk N x y) x) (ch l0 v))) (nI (nu N (tk N x y) x (ch l0 v))) (by rfl) ?_
              have hnq : nu N (tk N x y) x (ch l0 v) < 65536 := hN _
              refine g_istore (lv2 := [(9, .int (nI (nu N (tk N x y) x (ch l0 v)))), (0, .int (nI r)), (1, .int (nI l0)), (2, .ref li), (3, .ref c), (4, .ref d), (5, .ref w), (6, .int (nI x)), (7, .int (nI y)), (8, .int (nI v))]) F dL_way_115 (by decide) rfl ?_
              refine g_iload F 0 dL_way_117 rfl ?_
              refine g_sipush (v := nI 256) F dL_way_119 (by decide) ?_
              refine g_idivN F dL_way_122 (by omega) (by decide) (by decide) ?_
              refine g_istore (lv2 := [(6, .int (nI ((nu N (tk N x y) x (ch l0 v)) / 256))), (9, .int (nI (nu N (tk N x y) x (ch l0 v)))), (0, .int (nI r)), (1, .int (nI l0)), (2, .ref li), (3, .ref c), (4, .ref d), (5, .ref w), (7, .int (nI y)), (8, .int (nI v))]) F dL_way_123 (by decide) rfl ?_
              refine g_iload F 1 dL_way_125 rfl ?_
              refine g_sipush (v := nI 256) F dL_way_127 (by decide) ?_
              refine g_iremN F dL_way_130 (by omega) (by decide) (by decide) ?_
              refine g_istore (lv2 := [(7, .int (nI ((nu N (tk N x y) x (ch l0 v)) % 256))), (6, .int (nI ((nu N (tk N x y) x (ch l0 v)) / 256))), (9, .int (nI (nu N (tk N x y) x (ch l0 v)))), (0, .int (nI r)), (1, .int (nI l0)), (2, .ref li), (3, .ref c), (4, .ref d), (5, .ref w), (8, .int (nI v))]) F dL_way_131 (by decide) rfl ?_
              refine g_iinc (k := 9) (v := nI (v + 1)) (lv2 := [(8, .int (nI (v + 1))), (7, .int (nI ((nu N (tk N x y) x (ch l0 v)) % 256))), (6, .int (nI ((nu N (tk N x y) x (ch l0 v)) / 256))), (9, .int (nI (nu N (tk N x y) x (ch l0 v)))), (0, .int (nI r)), (1, .int (nI l0)), (2, .ref li), (3, .ref c), (4, .ref d), (5, .ref w)]) F dL_way_133 rfl (nI_1 _) (by decide) rfl ?_
              refine g_goto (tgt := 21) F dL_way_136 (by decide) ?_
              refine g_lv [4, 5, 6, 7, 8, 9, 2, 1, 0] rfl ?_
              exact ih21 (v + 1) ((nu N (tk N x y) x (ch l0 v)) / 256) ((nu N (tk N x y) x (ch l0 v)) % 256) (up (up (up A v x) (3 + v) y) (6 + v) (tk N x y)) (by omega) (by omega) (by rw [hx, hy]; rfl) (by rw [hx, hy]; rfl) (by omega) (by omega) (by intro u hu; exact hA2 u (by omega)) (by intro u hu; by_cases h : u = v; (rw [h, ← hwd]; exact tk_lt c70); exact hg u (by omega))
            refine g_if_neN (tgt := 109) F dL_way_100 (by decide) (by omega) (fun c100 => ?_) (fun c100 => ?_)
            · skip
              refine g_iload_n F 1 dL_way_109 rfl rfl ?_
              refine g_iconst (v := nI 4) F dL_way_110 (by decide) ?_
              refine g_iremN F dL_way_111 (by omega) (by decide) (by decide) ?_
              refine g_top (nI (l0 % 4)) (nI (ch l0 v)) (by unfold ch; rw [if_neg c100]) ?_
              exact kj112
            · skip
              refine g_iload_n F 1 dL_way_103 rfl rfl ?_
              refine g_iconst (v := nI 4) F dL_way_104 (by decide) ?_
              refine g_idivN F dL_way_105 (by omega) (by decide) (by decide) ?_
              refine g_goto (tgt := 112) F dL_way_106 (by decide) ?_
              refine g_top (nI (l0 / 4)) (nI (ch l0 v)) (by unfold ch; rw [if_pos c100]) ?_
              exact kj112
          refine g_top (nI ((up (up (up A v x) (3 + v) y) (6 + v) (tk N x y)) (6 + v))) (nI (tk N x y)) (by rw [up_s]) ?_
          refine g_if_neN (tgt := 93) F dL_way_86 (by decide) (by omega) (fun c86 => ?_) (fun c86 => ?_)
          · skip
            refine g_aload F 4 dL_way_93 rfl ?_
            refine g_callSjR (n := 2) F [2] (c_L_content l E d N 1 x (by decide) (by exact tk_in c70) (by assumption)) dL_way_95 rfl (by decide) rfl rfl rfl (Nat.le_of_ble_eq_true rfl) ⟨Nat.le_of_ble_eq_true rfl, Nat.le_of_ble_eq_true rfl⟩ rfl rfl ⟨Nat.le_of_ble_eq_true rfl, Nat.le_of_ble_eq_true rfl⟩ ggL_way_L_content (by decide +kernel) (by decide +kernel) (by decide +kernel) (by decide +kernel) (fun r u hp => by obtain ⟨-, h⟩ := hp; exact h) ?_
            rintro r_95 u_95 ⟨rfl, -⟩
            refine g_topJ (pkN (ccf N 1 x)) (pkN (ccf N (tk N x y) x)) (by rw [show tk N x y = 1 by omega]) ?_
            exact kj98
          · skip
            refine g_aload_n F 3 dL_way_89 rfl rfl ?_
            refine g_goto (tgt := 95) F dL_way_90 (by decide) ?_
            refine g_callSjR (n := 2) F [1] (c_L_content l E c N 0 x (by decide) (by exact tk_in c70) (by assumption)) dL_way_95 rfl (by decide) rfl rfl rfl (Nat.le_of_ble_eq_true rfl) ⟨Nat.le_of_ble_eq_true rfl, Nat.le_of_ble_eq_true rfl⟩ rfl rfl ⟨Nat.le_of_ble_eq_true rfl, Nat.le_of_ble_eq_true rfl⟩ ggL_way_L_content (by decide +kernel) (by decide +kernel) (by decide +kernel) (by decide +kernel) (fun r u hp => by obtain ⟨-, h⟩ := hp; exact h) ?_
            rintro r_95 u_95 ⟨rfl, -⟩
            refine g_topJ (pkN (ccf N 0 x)) (pkN (ccf N (tk N x y) x)) (by rw [c86]) ?_
            exact kj98
        · skip
          refine g_iload F 8 dL_way_73 rfl ?_
          exact hret _ _ _ _ dL_way_75 ⟨(up (up (up A v x) (3 + v) y) (6 + v) (tk N x y)), (by 
                have hgl := gl_is hg (by omega) (by rw [← hwd]; exact c70)
                intro u hu hu2
                exact hA2 u (by omega)), (congrArg nI (by exact (gl_is hg (by omega) (by rw [← hwd]; exact c70)).symm)), (by rfl)⟩
  refine g_lv [3, 4, 5, 6, 7, 8, 2, 1, 0] rfl ?_
  exact loop21 ((3 - 0) + 1) 0 b0 s0 Wf (Nat.lt_succ_self _) (by omega) (by rfl) (by rfl) (by omega) (by omega) (by intro u hu; omega) (by intro u hu; omega)
set_option maxHeartbeats 4000000 in
set_option maxRecDepth 100000 in
theorem c_L_first (l : Launch) (E : En) (us : Nat) (U : Nat → Nat)  : CtI l yL_first wsL_first ({ frames := 0, cells := 0, slots := 0, locals := 0 } : Room) E [.ref us] [aj E us 2 (bu U)] (fun rr uu => rr = (lof U) ∧ uu = [aj E us 2 (bu U)]) := by
  refine CtI.of cL_first 2 RL .int rfl (by decide) rfl (Or.inl rfl) (Nat.le_of_ble_eq_true rfl) (fun h => by cases h) ?_
  intro Γ F hret
  show G Γ E 0 0 0 [(0, .ref us)] [] [aj E us 2 (bu U)]
  refine g_iconst (v := nI 0) F dL_first_0 (by decide) ?_
  refine g_istore_n (lv2 := [(1, .int (nI 0)), (0, .ref us)]) F dL_first_1 rfl (by decide) rfl ?_
  have loop2 : ∀ (n : Nat) (i : Nat), 96 - i < n → (i ≤ 96) → (∀ k, k < i → ¬ U k = 0) → G Γ E (0) (0) 2 [(0, .ref us), (1, .int (nI i))] [] [aj E us 2 (bu U)] := by
    intro n
    induction n with
    | zero => intro i hz; exact absurd hz (Nat.not_lt_zero _)
    | succ n ih2 =>
      intro i hz2 hi hk
      refine g_iload_n F 1 dL_first_2 rfl rfl ?_
      refine g_bipush (v := nI 96) F dL_first_3 (by decide) ?_
      refine g_icmp_geN (tgt := 34) F dL_first_5 (by decide) (by omega) (by omega) (fun c5 => ?_) (fun c5 => ?_)
      · skip
        refine g_ldc (v := (-1000004)) F dL_first_34 (by decide +kernel) ?_
        exact hret _ _ _ _ dL_first_36 ⟨(by unfold lof; rw [ff_no U 96 (fun k h => hk k (by omega)), if_neg (by omega)]), rfl⟩
      · skip
        refine g_aload_n F 0 dL_first_8 rfl rfl ?_
        refine g_iload_n F 1 dL_first_9 rfl rfl ?_
        refine g_bipush (v := nI 64) F dL_first_10 (by decide) ?_
        refine g_idivN F dL_first_12 (by omega) (by decide) (by decide) ?_
        refine g_jald F 0 dL_first_13 rfl (by omega) (by decide) ?_
        refine g_iload_n F 1 dL_first_14 rfl rfl ?_
        refine g_bipush (v := nI 64) F dL_first_15 (by decide) ?_
        refine g_iremN F dL_first_17 (by omega) (by decide) (by decide) ?_
        refine g_lushr (v := ((((bu U) (i / 64))).toUInt64 >>> ((nI (i % 64)).toInt64.toUInt64 &&& Int64.toUInt64 63)).toInt64) F dL_first_18 (by rfl) ?_
        refine g_lconst (v := 1) F dL_first_19 (by decide) ?_
        refine g_land F dL_first_20 ?_
        refine g_lconst (v := 0) F dL_first_21 (by decide) ?_
        refine g_lcmp F dL_first_22 ?_
        refine g_if_ne (tgt := 28) F dL_first_23 (by decide) (fun c23 => ?_) (fun c23 => ?_)
        · skip
          refine g_iinc (k := 1) (v := nI (i + 1)) (lv2 := [(1, .int (nI (i + 1))), (0, .ref us)]) F dL_first_28 rfl (nI_1 _) (by decide) rfl ?_
          refine g_goto (tgt := 2) F dL_first_31 (by decide) ?_
          refine g_lv [1, 0] rfl ?_
          exact ih2 (i + 1) (by omega) (by omega) (by intro k hk2; by_cases h : k = i; (rw [h]; exact fun z => c23 ((bs_tst (by omega)).mpr z)); exact hk k (by omega))
        · skip
          refine g_iload_n F 1 dL_first_26 rfl rfl ?_
          exact hret _ _ _ _ dL_first_27 ⟨(by unfold lof; rw [ff_is U 96 c5 ((bs_tst (by omega)).mp c23) hk, if_pos c5]), rfl⟩
  refine g_lv [1, 0] rfl ?_
  exact loop2 ((96 - 0) + 1) 0 (Nat.lt_succ_self _) (by omega) (by intro k hk; omega)
set_option maxHeartbeats 4000000 in
set_option maxRecDepth 100000 in
theorem c_L_free (l : Launch) (E : En) (us : Nat) (U : Nat → Nat)  : CtI l yL_free wsL_free ({ frames := 0, cells := 0, slots := 0, locals := 0 } : Room) E [.ref us] [aj E us 2 (bu U)] (fun rr uu => rr = (nI (96 - cn U 96)) ∧ uu = [aj E us 2 (bu U)]) := by
  refine CtI.of cL_free 3 RL .int rfl (by decide) rfl (Or.inl rfl) (Nat.le_of_ble_eq_true rfl) (fun h => by cases h) ?_
  intro Γ F hret
  show G Γ E 0 0 0 [(0, .ref us)] [] [aj E us 2 (bu U)]
  refine g_iconst (v := nI 0) F dL_free_0 (by decide) ?_
  refine g_istore_n (lv2 := [(1, .int (nI 0)), (0, .ref us)]) F dL_free_1 rfl (by decide) rfl ?_
  refine g_iconst (v := nI 0) F dL_free_2 (by decide) ?_
  refine g_istore_n (lv2 := [(2, .int (nI 0)), (1, .int (nI 0)), (0, .ref us)]) F dL_free_3 rfl (by decide) rfl ?_
  have loop4 : ∀ (n : Nat) (i : Nat) (z : Nat), 96 - i < n → (i ≤ 96) → (z + cn U i = i) → G Γ E (0) (0) 4 [(0, .ref us), (1, .int (nI z)), (2, .int (nI i))] [] [aj E us 2 (bu U)] := by
    intro n
    induction n with
    | zero => intro i z hz; exact absurd hz (Nat.not_lt_zero _)
    | succ n ih4 =>
      intro i z hz4 hi hz
      refine g_iload_n F 2 dL_free_4 rfl rfl ?_
      refine g_bipush (v := nI 96) F dL_free_5 (by decide) ?_
      refine g_icmp_geN (tgt := 42) F dL_free_7 (by decide) (by omega) (by omega) (fun c7 => ?_) (fun c7 => ?_)
      · skip
        refine g_iload_n F 1 dL_free_42 rfl rfl ?_
        exact hret _ _ _ _ dL_free_43 ⟨(congrArg nI (by 
              have h96 : i = 96 := by omega
              subst h96; omega)), rfl⟩
      · skip
        refine g_iload_n F 1 dL_free_10 rfl rfl ?_
        refine g_aload_n F 0 dL_free_11 rfl rfl ?_
        refine g_iload_n F 2 dL_free_12 rfl rfl ?_
        refine g_bipush (v := nI 64) F dL_free_13 (by decide) ?_
        refine g_idivN F dL_free_15 (by omega) (by decide) (by decide) ?_
        refine g_jald F 0 dL_free_16 rfl (by omega) (by decide) ?_
        refine g_iload_n F 2 dL_free_17 rfl rfl ?_
        refine g_bipush (v := nI 64) F dL_free_18 (by decide) ?_
        refine g_iremN F dL_free_20 (by omega) (by decide) (by decide) ?_
        refine g_lushr (v := ((((bu U) (i / 64))).toUInt64 >>> ((nI (i % 64)).toInt64.toUInt64 &&& Int64.toUInt64 63)).toInt64) F dL_free_21 (by rfl) ?_
        refine g_lconst (v := 1) F dL_free_22 (by decide) ?_
        refine g_land F dL_free_23 ?_
        refine g_lconst (v := 0) F dL_free_24 (by decide) ?_
        refine g_lcmp F dL_free_25 ?_
        have kj34 : G Γ E (0) (0) 34 [(0, .ref us), (1, .int (nI z)), (2, .int (nI i))] [.int (nI (fr1 U i)), .int (nI z)] [aj E us 2 (bu U)] := by
          refine g_iaddN F dL_free_34 ?_
          refine g_istore_n (lv2 := [(1, .int (nI (z + (fr1 U i)))), (0, .ref us), (2, .int (nI i))]) F dL_free_35 rfl (by decide) rfl ?_
          refine g_iinc (k := 2) (v := nI (i + 1)) (lv2 := [(2, .int (nI (i + 1))), (1, .int (nI (z + (fr1 U i)))), (0, .ref us)]) F dL_free_36 rfl (nI_1 _) (by decide) rfl ?_
          refine g_goto (tgt := 4) F dL_free_39 (by decide) ?_
          refine g_lv [2, 1, 0] rfl ?_
          exact ih4 (i + 1) (z + (fr1 U i)) (by omega) (by omega) (by unfold fr1; rw [cn_s]; split <;> omega)
        refine g_if_ne (tgt := 33) F dL_free_26 (by decide) (fun c26 => ?_) (fun c26 => ?_)
        · skip
          refine g_iconst (v := nI 0) F dL_free_33 (by decide) ?_
          refine g_top (nI 0) (nI (fr1 U i)) (by unfold fr1; rw [if_neg (fun z => c26 ((bs_tst (by omega)).mpr z))]) ?_
          exact kj34
        · skip
          refine g_iconst (v := nI 1) F dL_free_29 (by decide) ?_
          refine g_goto (tgt := 34) F dL_free_30 (by decide) ?_
          refine g_top (nI 1) (nI (fr1 U i)) (by unfold fr1; rw [if_pos ((bs_tst (by omega)).mp c26)]) ?_
          exact kj34
  refine g_lv [2, 1, 0] rfl ?_
  exact loop4 ((96 - 0) + 1) 0 0 (Nat.lt_succ_self _) (by omega) (by rw [cn_0])
set_option maxHeartbeats 4000000 in
set_option maxRecDepth 100000 in
theorem c_L_bits (l : Launch) (E : En) (q : Nat) (U : Nat → Nat)  : CtI l yL_bits wsL_bits ({ frames := 0, cells := 0, slots := 0, locals := 0 } : Room) E [.ref q] [aj E q 2 (bu U)] (fun rr uu => rr = (nI (cn U 96)) ∧ uu = [aj E q 2 (bu U)]) := by
  refine CtI.of cL_bits 5 RL .int rfl (by decide) rfl (Or.inl rfl) (Nat.le_of_ble_eq_true rfl) (fun h => by cases h) ?_
  intro Γ F hret
  show G Γ E 0 0 0 [(0, .ref q)] [] [aj E q 2 (bu U)]
  refine g_iconst (v := nI 0) F dL_bits_0 (by decide) ?_
  refine g_istore_n (lv2 := [(1, .int (nI 0)), (0, .ref q)]) F dL_bits_1 rfl (by decide) rfl ?_
  refine g_iconst (v := nI 0) F dL_bits_2 (by decide) ?_
  refine g_istore_n (lv2 := [(2, .int (nI 0)), (1, .int (nI 0)), (0, .ref q)]) F dL_bits_3 rfl (by decide) rfl ?_
  have loop4 : ∀ (n : Nat) (i : Nat) (z : Nat), 2 - i < n → (i ≤ 2) → (z = bcn U i) → G Γ E (0) (0) 4 [(0, .ref q), (1, .int (nI z)), (2, .int (nI i))] [] [aj E q 2 (bu U)] := by
    intro n
    induction n with
    | zero => intro i z hz; exact absurd hz (Nat.not_lt_zero _)
    | succ n ih4 =>
      intro i z hz4 hi hz
      refine g_iload_n F 2 dL_bits_4 rfl rfl ?_
      refine g_iconst (v := nI 2) F dL_bits_5 (by decide) ?_
      refine g_icmp_geN (tgt := 37) F dL_bits_6 (by decide) (by omega) (by omega) (fun c6 => ?_) (fun c6 => ?_)
      · skip
        refine g_iload_n F 1 dL_bits_37 rfl rfl ?_
        exact hret _ _ _ _ dL_bits_38 ⟨(congrArg nI (by rw [hz, show i = 2 by omega, bcn_2])), rfl⟩
      · skip
        refine g_aload_n F 0 dL_bits_9 rfl rfl ?_
        refine g_iload_n F 2 dL_bits_10 rfl rfl ?_
        refine g_jald F 0 dL_bits_11 rfl (by omega) (by decide) ?_
        refine g_lstore_n (lv2 := [(3, .long ((bu U) i)), (0, .ref q), (1, .int (nI z)), (2, .int (nI i))]) F dL_bits_12 rfl (by decide) rfl ?_
        have loop13 : ∀ (n : Nat) (n9 : Nat) (x : Int64), pcL x < n → (n9 + pcL x = bcn U i + pcL (bs U i)) → G Γ E (0) (0) 13 [(0, .ref q), (1, .int (nI n9)), (2, .int (nI i)), (3, .long (x))] [] [aj E q 2 (bu U)] := by
          intro n
          induction n with
          | zero => intro n9 x hz; exact absurd hz (Nat.not_lt_zero _)
          | succ n ih13 =>
            intro n9 x hz13 hn9
            refine g_lload_n F 3 dL_bits_13 rfl rfl ?_
            refine g_lconst (v := 0) F dL_bits_14 (by decide) ?_
            refine g_lcmp F dL_bits_15 ?_
            refine g_if_eq (tgt := 31) F dL_bits_16 (by decide) (fun c16 => ?_) (fun c16 => ?_)
            · skip
              refine g_iinc (k := 2) (v := nI (i + 1)) (lv2 := [(2, .int (nI (i + 1))), (0, .ref q), (1, .int (nI n9)), (3, .long (x))]) F dL_bits_31 rfl (nI_1 _) (by decide) rfl ?_
              refine g_goto (tgt := 4) F dL_bits_34 (by decide) ?_
              refine g_lv [1, 2, 0] rfl ?_
              exact ih4 (i + 1) n9 (by omega) (by omega) (by 
                    have e9 : x = 0 := (lg_cmp_eq x 0).mp c16
                    rw [e9, pcL_0] at hn9
                    exact hn9)
            · skip
              refine g_iinc (k := 1) (v := nI (n9 + 1)) (lv2 := [(1, .int (nI (n9 + 1))), (0, .ref q), (2, .int (nI i)), (3, .long (x))]) F dL_bits_19 rfl (nI_1 _) (by decide) rfl ?_
              refine g_lload_n F 3 dL_bits_22 rfl rfl ?_
              refine g_lload_n F 3 dL_bits_23 rfl rfl ?_
              refine g_lconst (v := 1) F dL_bits_24 (by decide) ?_
              refine g_lsub F dL_bits_25 ?_
              refine g_land F dL_bits_26 ?_
              refine g_lstore_n (lv2 := [(3, .long (x &&& (x - 1))), (1, .int (nI (n9 + 1))), (0, .ref q), (2, .int (nI i))]) F dL_bits_27 rfl (by decide) rfl ?_
              refine g_goto (tgt := 13) F dL_bits_28 (by decide) ?_
              refine g_lv [2, 1, 3, 0] rfl ?_
              exact ih13 (n9 + 1) (x &&& (x - 1)) (by have := pcL_dec (fun z => c16 ((lg_cmp_eq x 0).mpr z)); omega) (by have := pcL_dec (fun z => c16 ((lg_cmp_eq x 0).mpr z)); omega)
        refine g_lv [1, 2, 3, 0] rfl ?_
        exact loop13 ((pcL ((bu U) i)) + 1) z ((bu U) i) (Nat.lt_succ_self _) (by rw [hz]; rfl)
  refine g_lv [2, 1, 0] rfl ?_
  exact loop4 ((2 - 0) + 1) 0 0 (Nat.lt_succ_self _) (by omega) (by rfl)
