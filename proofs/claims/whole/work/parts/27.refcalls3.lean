/-! the reference's calls: unlike, count, undo, type -/
def uuI (n : Nat) : Int32 := if n = 16 then (-1) else nI n
theorem uuI_ok {n : Nat} (h : (0 : Int32) ≤ uuI n) : ¬ n = 16 := fun z => by
  subst z
  exact absurd h (by decide)
theorem uuI_no {n : Nat} (hn : n ≤ 16) (h : ¬ (0 : Int32) ≤ uuI n) : n = 16 := by
  by_cases z : n = 16
  · exact z
  · exact absurd (by unfold uuI; rw [if_neg z]; exact nI_pos' (by omega)) h
set_option maxHeartbeats 4000000 in
set_option maxRecDepth 100000 in
theorem c_X9_unlikeUnder (l : Launch) (E : En) (q : Nat) (r : Nat → Nat) (rc : Nat) (tl : Nat) (at9 : Nat) (lf9 : Int32) (pl9 : Int32) (vl9 : Int32) (fa : Nat) (rs9 : Nat) (cs : Int32) (dn : Nat) (S : Nat → Nat) (C : CS) (p9 : Nat) (q9 : Nat) (hR : Rel S C) (hI : IC C) (hp : p9 < 65536) (hq : q9 < 65536) (hne : ¬ p9 / 256 = q9 / 256) : CtI l yX9_unlikeUnder wsX9_unlikeUnder ({ frames := 3, cells := 0, slots := 0, locals := 67 } : Room) E [.ref q, .int (nI p9), .int (nI q9)] [ob 9 q [.ref (r 0), .ref (r 1), .ref (r 2), .int (nI rc), .ref (r 3), .int (nI tl), .ref (r 4), .ref (r 5), .ref (r 6), .ref (r 7), .ref (r 8), .ref (r 9), .ref (r 10), .ref (r 11), .ref (r 12), .int (nI at9), .int (lf9), .int (pl9), .int (vl9), .int (nI fa), .int (nI rs9), .int (cs), .int (nI dn)], ai E (r 0) 892 S] (fun rr uu => rr = (uuI (ucn (sN C) p9 q9)) ∧ uu = [ob 9 q [.ref (r 0), .ref (r 1), .ref (r 2), .int (nI rc), .ref (r 3), .int (nI tl), .ref (r 4), .ref (r 5), .ref (r 6), .ref (r 7), .ref (r 8), .ref (r 9), .ref (r 10), .ref (r 11), .ref (r 12), .int (nI at9), .int (lf9), .int (pl9), .int (vl9), .int (nI fa), .int (nI rs9), .int (cs), .int (nI dn)], ai E (r 0) 892 S]) := by
  refine CtI.of cX9_unlikeUnder 7 RX9 .int rfl (by decide) rfl (Or.inl rfl) (Nat.le_of_ble_eq_true rfl) (fun h => by cases h) ?_
  intro Γ F hret
  show G Γ E 0 0 0 [(0, .ref q), (1, .int (nI p9)), (2, .int (nI q9))] [] [ob 9 q [.ref (r 0), .ref (r 1), .ref (r 2), .int (nI rc), .ref (r 3), .int (nI tl), .ref (r 4), .ref (r 5), .ref (r 6), .ref (r 7), .ref (r 8), .ref (r 9), .ref (r 10), .ref (r 11), .ref (r 12), .int (nI at9), .int (lf9), .int (pl9), .int (vl9), .int (nI fa), .int (nI rs9), .int (cs), .int (nI dn)], ai E (r 0) 892 S]
  refine g_aload_n F 0 dX9_unlikeUnder_0 rfl rfl ?_
  refine g_iload_n F 1 dX9_unlikeUnder_1 rfl rfl ?_
  refine g_sipush (v := nI 256) F dX9_unlikeUnder_2 (by decide) ?_
  refine g_idivN F dX9_unlikeUnder_5 (by omega) (by decide) (by decide) ?_
  refine g_iload_n F 1 dX9_unlikeUnder_6 rfl rfl ?_
  refine g_sipush (v := nI 256) F dX9_unlikeUnder_7 (by decide) ?_
  refine g_iremN F dX9_unlikeUnder_10 (by omega) (by decide) (by decide) ?_
  refine g_callViR (n := 2) F [0, 1] (c_X9_takenFrom l E q r rc tl at9 lf9 pl9 vl9 fa rs9 cs dn S C (p9 / 256) (p9 % 256) (by assumption) (by assumption) (by omega) (by omega)) dX9_unlikeUnder_11 rfl (by decide) rfl rfl rfl (Nat.le_of_ble_eq_true rfl) ⟨Nat.le_of_ble_eq_true rfl, Nat.le_of_ble_eq_true rfl⟩ rfl rfl ⟨Nat.le_of_ble_eq_true rfl, Nat.le_of_ble_eq_true rfl⟩ 0 rfl rfl gX9_unlikeUnder_X9_takenFrom (by decide +kernel) (fun r u hp => by obtain ⟨-, h⟩ := hp; exact h) ?_
  rintro r_11 u_11 ⟨rfl, -⟩
  refine g_istore_n (lv2 := [(3, .int (nI (tk (sN C) (p9 / 256) (p9 % 256)))), (0, .ref q), (1, .int (nI p9)), (2, .int (nI q9))]) F dX9_unlikeUnder_14 rfl (by decide) rfl ?_
  refine g_aload_n F 1 dX9_unlikeUnder_15 rfl rfl ?_
  refine g_iload_n F 3 dX9_unlikeUnder_16 rfl rfl ?_
  refine g_sipush (v := nI 256) F dX9_unlikeUnder_17 (by decide) ?_
  refine g_idivN F dX9_unlikeUnder_20 (by omega) (by decide) (by decide) ?_
  refine g_iload_n F 3 dX9_unlikeUnder_21 rfl rfl ?_
  refine g_sipush (v := nI 256) F dX9_unlikeUnder_22 (by decide) ?_
  refine g_iremN F dX9_unlikeUnder_25 (by omega) (by decide) (by decide) ?_
  refine g_callViR (n := 2) F [0, 1] (c_X9_takenFrom l E q r rc tl at9 lf9 pl9 vl9 fa rs9 cs dn S C (q9 / 256) (q9 % 256) (by assumption) (by assumption) (by omega) (by omega)) dX9_unlikeUnder_26 rfl (by decide) rfl rfl rfl (Nat.le_of_ble_eq_true rfl) ⟨Nat.le_of_ble_eq_true rfl, Nat.le_of_ble_eq_true rfl⟩ rfl rfl ⟨Nat.le_of_ble_eq_true rfl, Nat.le_of_ble_eq_true rfl⟩ 0 rfl rfl gX9_unlikeUnder_X9_takenFrom (by decide +kernel) (fun r u hp => by obtain ⟨-, h⟩ := hp; exact h) ?_
  rintro r_26 u_26 ⟨rfl, -⟩
  refine g_istore (lv2 := [(4, .int (nI (tk (sN C) (q9 / 256) (q9 % 256)))), (3, .int (nI (tk (sN C) (p9 / 256) (p9 % 256)))), (0, .ref q), (1, .int (nI p9)), (2, .int (nI q9))]) F dX9_unlikeUnder_29 (by decide) rfl ?_
  have hp1 := tk_le (sN C) (p9 / 256) (p9 % 256)
  have hq1 := tk_le (sN C) (q9 / 256) (q9 % 256)
  refine g_iload_n F 1 dX9_unlikeUnder_31 rfl rfl ?_
  refine g_iconst (v := nI 2) F dX9_unlikeUnder_32 (by decide) ?_
  refine g_icmp_eqN (tgt := 42) F dX9_unlikeUnder_33 (by decide) (by omega) (by omega) (fun c33 => ?_) (fun c33 => ?_)
  · skip
    refine g_iconst (v := (-1)) F dX9_unlikeUnder_42 (by decide) ?_
    exact hret _ _ _ _ dX9_unlikeUnder_43 ⟨(by unfold ucn; rw [if_neg hne]; first | (rw [if_pos c33]; rfl) | (rw [if_neg c33, if_pos c39]; rfl)), rfl⟩
  · skip
    refine g_iload F 0 dX9_unlikeUnder_36 rfl ?_
    refine g_iconst (v := nI 2) F dX9_unlikeUnder_38 (by decide) ?_
    refine g_icmp_neN (tgt := 44) F dX9_unlikeUnder_39 (by decide) (by omega) (by omega) (fun c39 => ?_) (fun c39 => ?_)
    · skip
      have hpc : tk (sN C) (p9 / 256) (p9 % 256) < 2 := by omega
      have hqc : tk (sN C) (q9 / 256) (q9 % 256) < 2 := by omega
      have hpb : p9 / 256 < 96 := tk_in (Nat.ne_of_lt hpc)
      have hqb : q9 / 256 < 96 := tk_in (Nat.ne_of_lt hqc)
      refine g_iconst (v := nI 0) F dX9_unlikeUnder_44 (by decide) ?_
      refine g_istore (lv2 := [(5, .int (nI 0)), (4, .int (nI (tk (sN C) (q9 / 256) (q9 % 256)))), (3, .int (nI (tk (sN C) (p9 / 256) (p9 % 256)))), (0, .ref q), (1, .int (nI p9)), (2, .int (nI q9))]) F dX9_unlikeUnder_45 (by decide) rfl ?_
      refine g_iconst (v := nI 0) F dX9_unlikeUnder_47 (by decide) ?_
      refine g_istore (lv2 := [(6, .int (nI 0)), (5, .int (nI 0)), (4, .int (nI (tk (sN C) (q9 / 256) (q9 % 256)))), (3, .int (nI (tk (sN C) (p9 / 256) (p9 % 256)))), (0, .ref q), (1, .int (nI p9)), (2, .int (nI q9))]) F dX9_unlikeUnder_48 (by decide) rfl ?_
      have loop50 : ∀ (n : Nat) (i : Nat) (z : Nat), 4 - i < n → (i ≤ 4) → (z = ucs (sN C) (tk (sN C) (p9 / 256) (p9 % 256)) (p9 / 256) (tk (sN C) (q9 / 256) (q9 % 256)) (q9 / 256) i) → G Γ E 0 0 50 [(0, .ref q), (1, .int (nI p9)), (2, .int (nI q9)), (3, .int (nI (tk (sN C) (p9 / 256) (p9 % 256)))), (4, .int (nI (tk (sN C) (q9 / 256) (q9 % 256)))), (5, .int (nI z)), (6, .int (nI i))] [] [ob 9 q [.ref (r 0), .ref (r 1), .ref (r 2), .int (nI rc), .ref (r 3), .int (nI tl), .ref (r 4), .ref (r 5), .ref (r 6), .ref (r 7), .ref (r 8), .ref (r 9), .ref (r 10), .ref (r 11), .ref (r 12), .int (nI at9), .int (lf9), .int (pl9), .int (vl9), .int (nI fa), .int (nI rs9), .int (cs), .int (nI dn)], ai E (r 0) 892 S] := by
        intro n
        induction n with
        | zero => intro i z hz; exact absurd hz (Nat.not_lt_zero _)
        | succ n ih50 =>
          intro i z hz50 hi hz
          refine g_iload F 6 dX9_unlikeUnder_50 rfl ?_
          refine g_iconst (v := nI 4) F dX9_unlikeUnder_52 (by decide) ?_
          refine g_icmp_geN (tgt := 111) F dX9_unlikeUnder_53 (by decide) (by omega) (by omega) (fun c53 => ?_) (fun c53 => ?_)
          · skip
            refine g_iload F 5 dX9_unlikeUnder_111 rfl ?_
            exact hret _ _ _ _ dX9_unlikeUnder_113 ⟨(by 
                  have hl := ucs_lt (sN C) (tk (sN C) (p9 / 256) (p9 % 256)) (p9 / 256) (tk (sN C) (q9 / 256) (q9 % 256)) (q9 / 256) 4
                  unfold ucn; rw [if_neg hne, if_neg (by omega), if_neg (by omega), hz, show i = 4 by omega]; unfold uuI; rw [if_neg (by omega)]), rfl⟩
          · skip
            refine g_iload F 5 dX9_unlikeUnder_56 rfl ?_
            refine g_aload_n F 0 dX9_unlikeUnder_58 rfl rfl ?_
            refine g_iload_n F 3 dX9_unlikeUnder_59 rfl rfl ?_
            refine g_iload_n F 1 dX9_unlikeUnder_60 rfl rfl ?_
            refine g_sipush (v := nI 256) F dX9_unlikeUnder_61 (by decide) ?_
            refine g_idivN F dX9_unlikeUnder_64 (by omega) (by decide) (by decide) ?_
            refine g_iload F 6 dX9_unlikeUnder_65 rfl ?_
            refine g_callViR (n := 3) F [0, 1] (c_X9_contentOf l E q r rc tl at9 lf9 pl9 vl9 fa rs9 cs dn S C (tk (sN C) (p9 / 256) (p9 % 256)) (p9 / 256) i (by assumption) (by exact hpc) (by exact hpb) (by omega)) dX9_unlikeUnder_67 rfl (by decide) rfl rfl rfl (Nat.le_of_ble_eq_true rfl) ⟨Nat.le_of_ble_eq_true rfl, Nat.le_of_ble_eq_true rfl⟩ rfl rfl ⟨Nat.le_of_ble_eq_true rfl, Nat.le_of_ble_eq_true rfl⟩ 0 rfl rfl gX9_unlikeUnder_X9_contentOf (by decide +kernel) (fun r u hp => by obtain ⟨-, h⟩ := hp; exact h) ?_
            rintro r_67 u_67 ⟨rfl, -⟩
            have hpn : nu (sN C) (tk (sN C) (p9 / 256) (p9 % 256)) (p9 / 256) i < 65536 := hI.1 _
            refine g_sipush (v := nI 256) F dX9_unlikeUnder_70 (by decide) ?_
            refine g_idivN F dX9_unlikeUnder_73 (by omega) (by decide) (by decide) ?_
            refine g_aload_n F 0 dX9_unlikeUnder_74 rfl rfl ?_
            refine g_iload F 4 dX9_unlikeUnder_75 rfl ?_
            refine g_iload_n F 2 dX9_unlikeUnder_77 rfl rfl ?_
            refine g_sipush (v := nI 256) F dX9_unlikeUnder_78 (by decide) ?_
            refine g_idivN F dX9_unlikeUnder_81 (by omega) (by decide) (by decide) ?_
            refine g_iload F 6 dX9_unlikeUnder_82 rfl ?_
            refine g_callViR (n := 3) F [0, 1] (c_X9_contentOf l E q r rc tl at9 lf9 pl9 vl9 fa rs9 cs dn S C (tk (sN C) (q9 / 256) (q9 % 256)) (q9 / 256) i (by assumption) (by exact hqc) (by exact hqb) (by omega)) dX9_unlikeUnder_84 rfl (by decide) rfl rfl rfl (Nat.le_of_ble_eq_true rfl) ⟨Nat.le_of_ble_eq_true rfl, Nat.le_of_ble_eq_true rfl⟩ rfl rfl ⟨Nat.le_of_ble_eq_true rfl, Nat.le_of_ble_eq_true rfl⟩ 0 rfl rfl gX9_unlikeUnder_X9_contentOf (by decide +kernel) (fun r u hp => by obtain ⟨-, h⟩ := hp; exact h) ?_
            rintro r_84 u_84 ⟨rfl, -⟩
            have hqn : nu (sN C) (tk (sN C) (q9 / 256) (q9 % 256)) (q9 / 256) i < 65536 := hI.1 _
            refine g_sipush (v := nI 256) F dX9_unlikeUnder_87 (by decide) ?_
            refine g_idivN F dX9_unlikeUnder_90 (by omega) (by decide) (by decide) ?_
            refine g_icmp_neN (tgt := 98) F dX9_unlikeUnder_91 (by decide) (by omega) (by omega) (fun c91 => ?_) (fun c91 => ?_)
            · skip
              refine g_iconst (v := nI 1) F dX9_unlikeUnder_98 (by decide) ?_
              refine g_iload F 6 dX9_unlikeUnder_99 rfl ?_
              refine g_ishl F dX9_unlikeUnder_101 ?_
              refine g_top ((nI 1) <<< ((nI i) &&& 31)) (nI (2 ^ i)) (by rw [shl1 i (by omega)]) ?_
              refine g_ior F dX9_unlikeUnder_102 ?_
              refine g_top ((nI z) ||| (nI (2 ^ i))) (nI (z ||| 2 ^ i)) (by rw [nI_or]) ?_
              refine g_istore (lv2 := [(5, .int (nI (z ||| 2 ^ i))), (0, .ref q), (1, .int (nI p9)), (2, .int (nI q9)), (3, .int (nI (tk (sN C) (p9 / 256) (p9 % 256)))), (4, .int (nI (tk (sN C) (q9 / 256) (q9 % 256)))), (6, .int (nI i))]) F dX9_unlikeUnder_103 (by decide) rfl ?_
              refine g_iinc (k := 6) (v := nI (i + 1)) (lv2 := [(6, .int (nI (i + 1))), (5, .int (nI (z ||| 2 ^ i))), (0, .ref q), (1, .int (nI p9)), (2, .int (nI q9)), (3, .int (nI (tk (sN C) (p9 / 256) (p9 % 256)))), (4, .int (nI (tk (sN C) (q9 / 256) (q9 % 256))))]) F dX9_unlikeUnder_105 rfl (nI_1 _) (by decide) rfl ?_
              refine g_goto (tgt := 50) F dX9_unlikeUnder_108 (by decide) ?_
              refine g_lv [2, 3, 4, 5, 6, 1, 0] rfl ?_
              exact ih50 (i + 1) (z ||| 2 ^ i) (by omega) (by omega) (by unfold ucs; first | rw [if_pos c91, hz] | rw [if_neg c91, hz])
            · skip
              refine g_iconst (v := nI 0) F dX9_unlikeUnder_94 (by decide) ?_
              refine g_goto (tgt := 102) F dX9_unlikeUnder_95 (by decide) ?_
              refine g_ior F dX9_unlikeUnder_102 ?_
              refine g_top ((nI z) ||| (nI 0)) (nI z) (by rw [nI_or, Nat.or_zero]) ?_
              refine g_istore (lv2 := [(5, .int (nI z)), (0, .ref q), (1, .int (nI p9)), (2, .int (nI q9)), (3, .int (nI (tk (sN C) (p9 / 256) (p9 % 256)))), (4, .int (nI (tk (sN C) (q9 / 256) (q9 % 256)))), (6, .int (nI i))]) F dX9_unlikeUnder_103 (by decide) rfl ?_
              refine g_iinc (k := 6) (v := nI (i + 1)) (lv2 := [(6, .int (nI (i + 1))), (5, .int (nI z)), (0, .ref q), (1, .int (nI p9)), (2, .int (nI q9)), (3, .int (nI (tk (sN C) (p9 / 256) (p9 % 256)))), (4, .int (nI (tk (sN C) (q9 / 256) (q9 % 256))))]) F dX9_unlikeUnder_105 rfl (nI_1 _) (by decide) rfl ?_
              refine g_goto (tgt := 50) F dX9_unlikeUnder_108 (by decide) ?_
              refine g_lv [2, 3, 4, 5, 6, 1, 0] rfl ?_
              exact ih50 (i + 1) z (by omega) (by omega) (by unfold ucs; first | rw [if_pos c91, hz] | rw [if_neg c91, hz])
      refine g_lv [4, 5, 6, 3, 2, 1, 0] rfl ?_
      exact loop50 ((4 - 0) + 1) 0 0 (Nat.lt_succ_self _) (by omega) (by rfl)
    · skip
      refine g_iconst (v := (-1)) F dX9_unlikeUnder_42 (by decide) ?_
      exact hret _ _ _ _ dX9_unlikeUnder_43 ⟨(by unfold ucn; rw [if_neg hne]; first | (rw [if_pos c33]; rfl) | (rw [if_neg c33, if_pos c39]; rfl)), rfl⟩
set_option maxHeartbeats 4000000 in
set_option maxRecDepth 100000 in
theorem c_X9_unlike (l : Launch) (E : En) (q : Nat) (r : Nat → Nat) (rc : Nat) (tl : Nat) (at9 : Nat) (lf9 : Int32) (pl9 : Int32) (vl9 : Int32) (fa : Nat) (rs9 : Nat) (cs : Int32) (dn : Nat) (S : Nat → Nat) (C : CS) (x1 : Int32) (x2 : Int32) (hR : Rel S C) (hI : IC C) : CtI l yX9_unlike wsX9_unlike ({ frames := 4, cells := 0, slots := 0, locals := 93 } : Room) E [.ref q, .int (x1), .int (x2)] [ob 9 q [.ref (r 0), .ref (r 1), .ref (r 2), .int (nI rc), .ref (r 3), .int (nI tl), .ref (r 4), .ref (r 5), .ref (r 6), .ref (r 7), .ref (r 8), .ref (r 9), .ref (r 10), .ref (r 11), .ref (r 12), .int (nI at9), .int (lf9), .int (pl9), .int (vl9), .int (nI fa), .int (nI rs9), .int (cs), .int (nI dn)], ai E (r 0) 892 S] (fun rr uu => rr = (p_unlike C x1 x2) ∧ uu = [ob 9 q [.ref (r 0), .ref (r 1), .ref (r 2), .int (nI rc), .ref (r 3), .int (nI tl), .ref (r 4), .ref (r 5), .ref (r 6), .ref (r 7), .ref (r 8), .ref (r 9), .ref (r 10), .ref (r 11), .ref (r 12), .int (nI at9), .int (lf9), .int (pl9), .int (vl9), .int (nI fa), .int (nI rs9), .int (cs), .int (nI dn)], ai E (r 0) 892 S]) := by
  refine CtI.of cX9_unlike 12 RX9 .int rfl (by decide) rfl (Or.inl rfl) (Nat.le_of_ble_eq_true rfl) (fun h => by cases h) ?_
  intro Γ F hret
  show G Γ E 0 0 0 [(0, .ref q), (1, .int (x1)), (2, .int (x2))] [] [ob 9 q [.ref (r 0), .ref (r 1), .ref (r 2), .int (nI rc), .ref (r 3), .int (nI tl), .ref (r 4), .ref (r 5), .ref (r 6), .ref (r 7), .ref (r 8), .ref (r 9), .ref (r 10), .ref (r 11), .ref (r 12), .int (nI at9), .int (lf9), .int (pl9), .int (vl9), .int (nI fa), .int (nI rs9), .int (cs), .int (nI dn)], ai E (r 0) 892 S]
  refine g_aload_n F 0 dX9_unlike_0 rfl rfl ?_
  refine g_iload_n F 1 dX9_unlike_1 rfl rfl ?_
  refine g_callViR (n := 1) F [0, 1] (c_X9_isRoot l E q r rc tl at9 lf9 pl9 vl9 fa rs9 cs dn S C x1 (by assumption) (by assumption)) dX9_unlike_2 rfl (by decide) rfl rfl rfl (Nat.le_of_ble_eq_true rfl) ⟨Nat.le_of_ble_eq_true rfl, Nat.le_of_ble_eq_true rfl⟩ rfl rfl ⟨Nat.le_of_ble_eq_true rfl, Nat.le_of_ble_eq_true rfl⟩ 0 rfl rfl gX9_unlike_X9_isRoot (by decide +kernel) (fun r u hp => by obtain ⟨-, h⟩ := hp; exact h) ?_
  rintro r_2 u_2 ⟨rfl, -⟩
  refine g_if_eqB (tgt := 16) F dX9_unlike_5 (by decide) (fun c5 => ?_) (fun c5 => ?_)
  · skip
    refine g_ldc (v := (-1000001)) F dX9_unlike_16 (by decide +kernel) ?_
    exact hret _ _ _ _ dX9_unlike_18 ⟨(by unfold p_unlike; rw [cI_neg (fun h => by first | exact c5 h.1 | exact c13 h.2)]), rfl⟩
  · skip
    obtain ⟨r1, hr1, rfl⟩ := rng_of (by have := hI.2.2.2.1; omega) (c5)
    refine g_aload_n F 0 dX9_unlike_8 rfl rfl ?_
    refine g_iload_n F 2 dX9_unlike_9 rfl rfl ?_
    refine g_callViR (n := 1) F [0, 1] (c_X9_isRoot l E q r rc tl at9 lf9 pl9 vl9 fa rs9 cs dn S C x2 (by assumption) (by assumption)) dX9_unlike_10 rfl (by decide) rfl rfl rfl (Nat.le_of_ble_eq_true rfl) ⟨Nat.le_of_ble_eq_true rfl, Nat.le_of_ble_eq_true rfl⟩ rfl rfl ⟨Nat.le_of_ble_eq_true rfl, Nat.le_of_ble_eq_true rfl⟩ 0 rfl rfl gX9_unlike_X9_isRoot (by decide +kernel) (fun r u hp => by obtain ⟨-, h⟩ := hp; exact h) ?_
    rintro r_10 u_10 ⟨rfl, -⟩
    refine g_if_neB (tgt := 19) F dX9_unlike_13 (by decide) (fun c13 => ?_) (fun c13 => ?_)
    · skip
      obtain ⟨r2, hr2, rfl⟩ := rng_of (by have := hI.2.2.2.1; omega) (c13)
      have hz8 := hI.2.2.2.1
      have hr7 := hR.2.2.2.2.2.2 r1 hr1
      have hr8 := hR.2.2.2.2.2.2 r2 hr2
      have hrb := hI.rb hr1
      have hrs := hI.rs hr1
      have hrb2 := hI.rb hr2
      have hrs2 := hI.rs hr2
      refine g_aload_n F 0 dX9_unlike_19 rfl rfl ?_
      refine g_iload_n F 1 dX9_unlike_20 rfl rfl ?_
      refine g_iconst (v := nI 1) F dX9_unlike_21 (by decide) ?_
      refine g_callViR (n := 2) F [0, 1] (c_X9_rootPart l E q r rc tl at9 lf9 pl9 vl9 fa rs9 cs dn S C r1 1 (by omega) (by omega)) dX9_unlike_22 rfl (by decide) rfl rfl rfl (Nat.le_of_ble_eq_true rfl) ⟨Nat.le_of_ble_eq_true rfl, Nat.le_of_ble_eq_true rfl⟩ rfl rfl ⟨Nat.le_of_ble_eq_true rfl, Nat.le_of_ble_eq_true rfl⟩ 0 rfl rfl gX9_unlike_X9_rootPart (by decide +kernel) (fun r u hp => by obtain ⟨-, h⟩ := hp; exact h) ?_
      rintro r_22 u_22 ⟨rfl, -⟩
      refine g_top (nI (S (868 + 3 * r1 + 1))) (nI (sb C r1)) (by rw [hr7.2.1]) ?_
      refine g_istore_n (lv2 := [(3, .int (nI (sb C r1))), (0, .ref q), (1, .int (nI r1)), (2, .int (nI r2))]) F dX9_unlike_25 rfl (by decide) rfl ?_
      refine g_aload_n F 1 dX9_unlike_26 rfl rfl ?_
      refine g_iload_n F 3 dX9_unlike_27 rfl rfl ?_
      refine g_iconst (v := nI 1) F dX9_unlike_28 (by decide) ?_
      refine g_callViR (n := 2) F [0, 1] (c_X9_rootPart l E q r rc tl at9 lf9 pl9 vl9 fa rs9 cs dn S C r2 1 (by omega) (by omega)) dX9_unlike_29 rfl (by decide) rfl rfl rfl (Nat.le_of_ble_eq_true rfl) ⟨Nat.le_of_ble_eq_true rfl, Nat.le_of_ble_eq_true rfl⟩ rfl rfl ⟨Nat.le_of_ble_eq_true rfl, Nat.le_of_ble_eq_true rfl⟩ 0 rfl rfl gX9_unlike_X9_rootPart (by decide +kernel) (fun r u hp => by obtain ⟨-, h⟩ := hp; exact h) ?_
      rintro r_29 u_29 ⟨rfl, -⟩
      refine g_top (nI (S (868 + 3 * r2 + 1))) (nI (sb C r2)) (by rw [hr8.2.1]) ?_
      refine g_istore (lv2 := [(4, .int (nI (sb C r2))), (3, .int (nI (sb C r1))), (0, .ref q), (1, .int (nI r1)), (2, .int (nI r2))]) F dX9_unlike_32 (by decide) rfl ?_
      refine g_iload_n F 1 dX9_unlike_34 rfl rfl ?_
      refine g_iload F 0 dX9_unlike_35 rfl ?_
      refine g_icmp_neN (tgt := 42) F dX9_unlike_37 (by decide) (by omega) (by omega) (fun c37 => ?_) (fun c37 => ?_)
      · skip
        refine g_aload_n F 2 dX9_unlike_42 rfl rfl ?_
        refine g_iload_n F 1 dX9_unlike_43 rfl rfl ?_
        refine g_aload_n F 2 dX9_unlike_44 rfl rfl ?_
        refine g_iload_n F 3 dX9_unlike_45 rfl rfl ?_
        refine g_iconst (v := nI 2) F dX9_unlike_46 (by decide) ?_
        refine g_callViR (n := 2) F [0, 1] (c_X9_rootPart l E q r rc tl at9 lf9 pl9 vl9 fa rs9 cs dn S C r1 2 (by omega) (by omega)) dX9_unlike_47 rfl (by decide) rfl rfl rfl (Nat.le_of_ble_eq_true rfl) ⟨Nat.le_of_ble_eq_true rfl, Nat.le_of_ble_eq_true rfl⟩ rfl rfl ⟨Nat.le_of_ble_eq_true rfl, Nat.le_of_ble_eq_true rfl⟩ 0 rfl rfl gX9_unlike_X9_rootPart (by decide +kernel) (fun r u hp => by obtain ⟨-, h⟩ := hp; exact h) ?_
        rintro r_47 u_47 ⟨rfl, -⟩
        refine g_top (nI (S (868 + 3 * r1 + 2))) (nI (ss C r1)) (by rw [hr7.2.2]) ?_
        refine g_callViR (n := 2) F [0, 1] (c_X9_takenFrom l E q r rc tl at9 lf9 pl9 vl9 fa rs9 cs dn S C (sb C r1) (ss C r1) (by assumption) (by assumption) (by omega) (by omega)) dX9_unlike_50 rfl (by decide) rfl rfl rfl (Nat.le_of_ble_eq_true rfl) ⟨Nat.le_of_ble_eq_true rfl, Nat.le_of_ble_eq_true rfl⟩ rfl rfl ⟨Nat.le_of_ble_eq_true rfl, Nat.le_of_ble_eq_true rfl⟩ 0 rfl rfl gX9_unlike_X9_takenFrom (by decide +kernel) (fun r u hp => by obtain ⟨-, h⟩ := hp; exact h) ?_
        rintro r_50 u_50 ⟨rfl, -⟩
        refine g_istore (lv2 := [(5, .int (nI (tk (sN C) (sb C r1) (ss C r1)))), (4, .int (nI (sb C r2))), (3, .int (nI (sb C r1))), (0, .ref q), (1, .int (nI r1)), (2, .int (nI r2))]) F dX9_unlike_53 (by decide) rfl ?_
        refine g_aload_n F 3 dX9_unlike_55 rfl rfl ?_
        refine g_iload F 1 dX9_unlike_56 rfl ?_
        refine g_aload_n F 3 dX9_unlike_58 rfl rfl ?_
        refine g_iload_n F 5 dX9_unlike_59 rfl rfl ?_
        refine g_iconst (v := nI 2) F dX9_unlike_60 (by decide) ?_
        refine g_callViR (n := 2) F [0, 1] (c_X9_rootPart l E q r rc tl at9 lf9 pl9 vl9 fa rs9 cs dn S C r2 2 (by omega) (by omega)) dX9_unlike_61 rfl (by decide) rfl rfl rfl (Nat.le_of_ble_eq_true rfl) ⟨Nat.le_of_ble_eq_true rfl, Nat.le_of_ble_eq_true rfl⟩ rfl rfl ⟨Nat.le_of_ble_eq_true rfl, Nat.le_of_ble_eq_true rfl⟩ 0 rfl rfl gX9_unlike_X9_rootPart (by decide +kernel) (fun r u hp => by obtain ⟨-, h⟩ := hp; exact h) ?_
        rintro r_61 u_61 ⟨rfl, -⟩
        refine g_top (nI (S (868 + 3 * r2 + 2))) (nI (ss C r2)) (by rw [hr8.2.2]) ?_
        refine g_callViR (n := 2) F [0, 1] (c_X9_takenFrom l E q r rc tl at9 lf9 pl9 vl9 fa rs9 cs dn S C (sb C r2) (ss C r2) (by assumption) (by assumption) (by omega) (by omega)) dX9_unlike_64 rfl (by decide) rfl rfl rfl (Nat.le_of_ble_eq_true rfl) ⟨Nat.le_of_ble_eq_true rfl, Nat.le_of_ble_eq_true rfl⟩ rfl rfl ⟨Nat.le_of_ble_eq_true rfl, Nat.le_of_ble_eq_true rfl⟩ 0 rfl rfl gX9_unlike_X9_takenFrom (by decide +kernel) (fun r u hp => by obtain ⟨-, h⟩ := hp; exact h) ?_
        rintro r_64 u_64 ⟨rfl, -⟩
        refine g_istore (lv2 := [(6, .int (nI (tk (sN C) (sb C r2) (ss C r2)))), (5, .int (nI (tk (sN C) (sb C r1) (ss C r1)))), (4, .int (nI (sb C r2))), (3, .int (nI (sb C r1))), (0, .ref q), (1, .int (nI r1)), (2, .int (nI r2))]) F dX9_unlike_67 (by decide) rfl ?_
        have hp1 := tk_le (sN C) (sb C r1) (ss C r1)
        have hq1 := tk_le (sN C) (sb C r2) (ss C r2)
        refine g_iload F 1 dX9_unlike_69 rfl ?_
        refine g_iconst (v := nI 2) F dX9_unlike_71 (by decide) ?_
        refine g_icmp_eqN (tgt := 81) F dX9_unlike_72 (by decide) (by omega) (by omega) (fun c72 => ?_) (fun c72 => ?_)
        · skip
          refine g_ldc (v := (-1000002)) F dX9_unlike_81 (by decide +kernel) ?_
          exact hret _ _ _ _ dX9_unlike_83 ⟨(by unfold p_unlike; rw [cI_pos ⟨(rng_nI (by omega) (by omega)).mpr hr1, (rng_nI (by omega) (by omega)).mpr hr2⟩, dv_nI (by omega), dv_nI (by omega)]; unfold uly; rw [if_neg c37]; first | (rw [if_pos c72]; rfl) | (rw [if_neg c72, if_pos c78]; rfl)), rfl⟩
        · skip
          refine g_iload F 0 dX9_unlike_75 rfl ?_
          refine g_iconst (v := nI 2) F dX9_unlike_77 (by decide) ?_
          refine g_icmp_neN (tgt := 84) F dX9_unlike_78 (by decide) (by omega) (by omega) (fun c78 => ?_) (fun c78 => ?_)
          · skip
            have hpc : (tk (sN C) (sb C r1) (ss C r1)) < 2 := by omega
            have hqc : (tk (sN C) (sb C r2) (ss C r2)) < 2 := by omega
            refine g_iconst (v := nI 0) F dX9_unlike_84 (by decide) ?_
            refine g_istore (lv2 := [(7, .int (nI 0)), (6, .int (nI (tk (sN C) (sb C r2) (ss C r2)))), (5, .int (nI (tk (sN C) (sb C r1) (ss C r1)))), (4, .int (nI (sb C r2))), (3, .int (nI (sb C r1))), (0, .ref q), (1, .int (nI r1)), (2, .int (nI r2))]) F dX9_unlike_85 (by decide) rfl ?_
            refine g_iconst (v := nI 0) F dX9_unlike_87 (by decide) ?_
            refine g_istore (lv2 := [(8, .int (nI 0)), (7, .int (nI 0)), (6, .int (nI (tk (sN C) (sb C r2) (ss C r2)))), (5, .int (nI (tk (sN C) (sb C r1) (ss C r1)))), (4, .int (nI (sb C r2))), (3, .int (nI (sb C r1))), (0, .ref q), (1, .int (nI r1)), (2, .int (nI r2))]) F dX9_unlike_88 (by decide) rfl ?_
            have loop90 : ∀ (n : Nat) (i : Nat) (zz : Nat), 4 - i < n → (i ≤ 4) → (zz = uln (sN C) (tk (sN C) (sb C r1) (ss C r1)) (sb C r1) (tk (sN C) (sb C r2) (ss C r2)) (sb C r2) i) → (¬ zz = 65536) → G Γ E 0 0 90 [(0, .ref q), (1, .int (nI r1)), (2, .int (nI r2)), (3, .int (nI (sb C r1))), (4, .int (nI (sb C r2))), (5, .int (nI (tk (sN C) (sb C r1) (ss C r1)))), (6, .int (nI (tk (sN C) (sb C r2) (ss C r2)))), (7, .int (nI zz)), (8, .int (nI i))] [] [ob 9 q [.ref (r 0), .ref (r 1), .ref (r 2), .int (nI rc), .ref (r 3), .int (nI tl), .ref (r 4), .ref (r 5), .ref (r 6), .ref (r 7), .ref (r 8), .ref (r 9), .ref (r 10), .ref (r 11), .ref (r 12), .int (nI at9), .int (lf9), .int (pl9), .int (vl9), .int (nI fa), .int (nI rs9), .int (cs), .int (nI dn)], ai E (r 0) 892 S] := by
              intro n
              induction n with
              | zero => intro i zz hz; exact absurd hz (Nat.not_lt_zero _)
              | succ n ih90 =>
                intro i zz hz90 hi hz hz2
                refine g_iload F 8 dX9_unlike_90 rfl ?_
                refine g_iconst (v := nI 4) F dX9_unlike_92 (by decide) ?_
                refine g_icmp_geN (tgt := 174) F dX9_unlike_93 (by decide) (by omega) (by omega) (fun c93 => ?_) (fun c93 => ?_)
                · skip
                  refine g_iload F 7 dX9_unlike_174 rfl ?_
                  exact hret _ _ _ _ dX9_unlike_176 ⟨(by 
                        unfold p_unlike; rw [cI_pos ⟨(rng_nI (by omega) (by omega)).mpr hr1, (rng_nI (by omega) (by omega)).mpr hr2⟩, dv_nI (by omega), dv_nI (by omega)]; unfold uly; rw [if_neg c37, if_neg (by omega), if_neg (by omega)]; have hi4 : i = 4 := by omega
                        subst hi4
                        rw [← hz]; unfold ulI; rw [if_neg hz2]), rfl⟩
                · skip
                  refine g_aload_n F 0 dX9_unlike_96 rfl rfl ?_
                  refine g_iload F 5 dX9_unlike_97 rfl ?_
                  refine g_iload_n F 3 dX9_unlike_99 rfl rfl ?_
                  refine g_iload F 8 dX9_unlike_100 rfl ?_
                  refine g_callViR (n := 3) F [0, 1] (c_X9_contentOf l E q r rc tl at9 lf9 pl9 vl9 fa rs9 cs dn S C (tk (sN C) (sb C r1) (ss C r1)) (sb C r1) i (by assumption) (by exact hpc) (by exact hrb) (by omega)) dX9_unlike_102 rfl (by decide) rfl rfl rfl (Nat.le_of_ble_eq_true rfl) ⟨Nat.le_of_ble_eq_true rfl, Nat.le_of_ble_eq_true rfl⟩ rfl rfl ⟨Nat.le_of_ble_eq_true rfl, Nat.le_of_ble_eq_true rfl⟩ 0 rfl rfl gX9_unlike_X9_contentOf (by decide +kernel) (fun r u hp => by obtain ⟨-, h⟩ := hp; exact h) ?_
                  rintro r_102 u_102 ⟨rfl, -⟩
                  have hpn : nu (sN C) (tk (sN C) (sb C r1) (ss C r1)) (sb C r1) i < 65536 := hI.1 _
                  refine g_istore (lv2 := [(9, .int (nI (nu (sN C) (tk (sN C) (sb C r1) (ss C r1)) (sb C r1) i))), (0, .ref q), (1, .int (nI r1)), (2, .int (nI r2)), (3, .int (nI (sb C r1))), (4, .int (nI (sb C r2))), (5, .int (nI (tk (sN C) (sb C r1) (ss C r1)))), (6, .int (nI (tk (sN C) (sb C r2) (ss C r2)))), (7, .int (nI zz)), (8, .int (nI i))]) F dX9_unlike_105 (by decide) rfl ?_
                  refine g_aload_n F 1 dX9_unlike_107 rfl rfl ?_
                  refine g_iload F 7 dX9_unlike_108 rfl ?_
                  refine g_iload F 5 dX9_unlike_110 rfl ?_
                  refine g_iload F 9 dX9_unlike_112 rfl ?_
                  refine g_callViR (n := 3) F [0, 1] (c_X9_contentOf l E q r rc tl at9 lf9 pl9 vl9 fa rs9 cs dn S C (tk (sN C) (sb C r2) (ss C r2)) (sb C r2) i (by assumption) (by exact hqc) (by exact hrb2) (by omega)) dX9_unlike_114 rfl (by decide) rfl rfl rfl (Nat.le_of_ble_eq_true rfl) ⟨Nat.le_of_ble_eq_true rfl, Nat.le_of_ble_eq_true rfl⟩ rfl rfl ⟨Nat.le_of_ble_eq_true rfl, Nat.le_of_ble_eq_true rfl⟩ 0 rfl rfl gX9_unlike_X9_contentOf (by decide +kernel) (fun r u hp => by obtain ⟨-, h⟩ := hp; exact h) ?_
                  rintro r_114 u_114 ⟨rfl, -⟩
                  have hqn : nu (sN C) (tk (sN C) (sb C r2) (ss C r2)) (sb C r2) i < 65536 := hI.1 _
                  refine g_istore (lv2 := [(10, .int (nI (nu (sN C) (tk (sN C) (sb C r2) (ss C r2)) (sb C r2) i))), (9, .int (nI (nu (sN C) (tk (sN C) (sb C r1) (ss C r1)) (sb C r1) i))), (0, .ref q), (1, .int (nI r1)), (2, .int (nI r2)), (3, .int (nI (sb C r1))), (4, .int (nI (sb C r2))), (5, .int (nI (tk (sN C) (sb C r1) (ss C r1)))), (6, .int (nI (tk (sN C) (sb C r2) (ss C r2)))), (7, .int (nI zz)), (8, .int (nI i))]) F dX9_unlike_117 (by decide) rfl ?_
                  refine g_iload F 1 dX9_unlike_119 rfl ?_
                  refine g_sipush (v := nI 256) F dX9_unlike_121 (by decide) ?_
                  refine g_idivN F dX9_unlike_124 (by omega) (by decide) (by decide) ?_
                  refine g_iload F 0 dX9_unlike_125 rfl ?_
                  refine g_sipush (v := nI 256) F dX9_unlike_127 (by decide) ?_
                  refine g_idivN F dX9_unlike_130 (by omega) (by decide) (by decide) ?_
                  refine g_icmp_neN (tgt := 138) F dX9_unlike_131 (by decide) (by omega) (by omega) (fun c131 => ?_) (fun c131 => ?_)
                  · skip
                    refine g_aload_n F 2 dX9_unlike_138 rfl rfl ?_
                    refine g_iload F 1 dX9_unlike_139 rfl ?_
                    refine g_iload F 0 dX9_unlike_141 rfl ?_
                    refine g_callViR (n := 2) F [0, 1] (c_X9_unlikeUnder l E q r rc tl at9 lf9 pl9 vl9 fa rs9 cs dn S C (nu (sN C) (tk (sN C) (sb C r1) (ss C r1)) (sb C r1) i) (nu (sN C) (tk (sN C) (sb C r2) (ss C r2)) (sb C r2) i) (by assumption) (by assumption) (by exact hpn) (by exact hqn) (by exact c131)) dX9_unlike_143 rfl (by decide) rfl rfl rfl (Nat.le_of_ble_eq_true rfl) ⟨Nat.le_of_ble_eq_true rfl, Nat.le_of_ble_eq_true rfl⟩ rfl rfl ⟨Nat.le_of_ble_eq_true rfl, Nat.le_of_ble_eq_true rfl⟩ 0 rfl rfl gX9_unlike_X9_unlikeUnder (by decide +kernel) (fun r u hp => by obtain ⟨-, h⟩ := hp; exact h) ?_
                    rintro r_143 u_143 ⟨rfl, -⟩
                    refine g_istore (lv2 := [(11, .int (uuI (ucn (sN C) (nu (sN C) (tk (sN C) (sb C r1) (ss C r1)) (sb C r1) i) (nu (sN C) (tk (sN C) (sb C r2) (ss C r2)) (sb C r2) i)))), (10, .int (nI (nu (sN C) (tk (sN C) (sb C r2) (ss C r2)) (sb C r2) i))), (9, .int (nI (nu (sN C) (tk (sN C) (sb C r1) (ss C r1)) (sb C r1) i))), (0, .ref q), (1, .int (nI r1)), (2, .int (nI r2)), (3, .int (nI (sb C r1))), (4, .int (nI (sb C r2))), (5, .int (nI (tk (sN C) (sb C r1) (ss C r1)))), (6, .int (nI (tk (sN C) (sb C r2) (ss C r2)))), (7, .int (nI zz)), (8, .int (nI i))]) F dX9_unlike_146 (by decide) rfl ?_
                    refine g_iload F 0 dX9_unlike_148 rfl ?_
                    refine g_if_ge (tgt := 156) F dX9_unlike_150 (by decide) (fun c150 => ?_) (fun c150 => ?_)
                    · skip
                      have hle := ucn_le (sN C) (nu (sN C) (tk (sN C) (sb C r1) (ss C r1)) (sb C r1) i) (nu (sN C) (tk (sN C) (sb C r2) (ss C r2)) (sb C r2) i)
                      have hu9 := uuI_ok c150
                      refine g_lvC 0 rfl (.int (nI (ucn (sN C) (nu (sN C) (tk (sN C) (sb C r1) (ss C r1)) (sb C r1) i) (nu (sN C) (tk (sN C) (sb C r2) (ss C r2)) (sb C r2) i)))) (by unfold uuI; rw [if_neg hu9]) (lv2 := [(11, .int (nI (ucn (sN C) (nu (sN C) (tk (sN C) (sb C r1) (ss C r1)) (sb C r1) i) (nu (sN C) (tk (sN C) (sb C r2) (ss C r2)) (sb C r2) i)))), (10, .int (nI (nu (sN C) (tk (sN C) (sb C r2) (ss C r2)) (sb C r2) i))), (9, .int (nI (nu (sN C) (tk (sN C) (sb C r1) (ss C r1)) (sb C r1) i))), (0, .ref q), (1, .int (nI r1)), (2, .int (nI r2)), (3, .int (nI (sb C r1))), (4, .int (nI (sb C r2))), (5, .int (nI (tk (sN C) (sb C r1) (ss C r1)))), (6, .int (nI (tk (sN C) (sb C r2) (ss C r2)))), (7, .int (nI zz)), (8, .int (nI i))]) rfl ?_
                      refine g_iload F 10 dX9_unlike_156 rfl ?_
                      refine g_iload F 0 dX9_unlike_158 rfl ?_
                      refine g_iconst (v := nI 4) F dX9_unlike_160 (by decide) ?_
                      refine g_iload F 11 dX9_unlike_161 rfl ?_
                      refine g_imulN F dX9_unlike_163 ?_
                      refine g_ishl F dX9_unlike_164 ?_
                      refine g_top ((nI (ucn (sN C) (nu (sN C) (tk (sN C) (sb C r1) (ss C r1)) (sb C r1) i) (nu (sN C) (tk (sN C) (sb C r2) (ss C r2)) (sb C r2) i))) <<< ((nI (4 * i)) &&& 31)) (nI (ucn (sN C) (nu (sN C) (tk (sN C) (sb C r1) (ss C r1)) (sb C r1) i) (nu (sN C) (tk (sN C) (sb C r2) (ss C r2)) (sb C r2) i) * 2 ^ (4 * i))) (by exact shl4 _ (by omega) i (by omega)) ?_
                      refine g_ior F dX9_unlike_165 ?_
                      refine g_top ((nI zz) ||| (nI (ucn (sN C) (nu (sN C) (tk (sN C) (sb C r1) (ss C r1)) (sb C r1) i) (nu (sN C) (tk (sN C) (sb C r2) (ss C r2)) (sb C r2) i) * 2 ^ (4 * i)))) (nI (zz ||| ucn (sN C) (nu (sN C) (tk (sN C) (sb C r1) (ss C r1)) (sb C r1) i) (nu (sN C) (tk (sN C) (sb C r2) (ss C r2)) (sb C r2) i) * 2 ^ (4 * i))) (by rw [nI_or]) ?_
                      refine g_istore (lv2 := [(7, .int (nI (zz ||| ucn (sN C) (nu (sN C) (tk (sN C) (sb C r1) (ss C r1)) (sb C r1) i) (nu (sN C) (tk (sN C) (sb C r2) (ss C r2)) (sb C r2) i) * 2 ^ (4 * i)))), (11, .int (nI (ucn (sN C) (nu (sN C) (tk (sN C) (sb C r1) (ss C r1)) (sb C r1) i) (nu (sN C) (tk (sN C) (sb C r2) (ss C r2)) (sb C r2) i)))), (10, .int (nI (nu (sN C) (tk (sN C) (sb C r2) (ss C r2)) (sb C r2) i))), (9, .int (nI (nu (sN C) (tk (sN C) (sb C r1) (ss C r1)) (sb C r1) i))), (0, .ref q), (1, .int (nI r1)), (2, .int (nI r2)), (3, .int (nI (sb C r1))), (4, .int (nI (sb C r2))), (5, .int (nI (tk (sN C) (sb C r1) (ss C r1)))), (6, .int (nI (tk (sN C) (sb C r2) (ss C r2)))), (8, .int (nI i))]) F dX9_unlike_166 (by decide) rfl ?_
                      refine g_iinc (k := 11) (v := nI (i + 1)) (lv2 := [(8, .int (nI (i + 1))), (7, .int (nI (zz ||| ucn (sN C) (nu (sN C) (tk (sN C) (sb C r1) (ss C r1)) (sb C r1) i) (nu (sN C) (tk (sN C) (sb C r2) (ss C r2)) (sb C r2) i) * 2 ^ (4 * i)))), (11, .int (nI (ucn (sN C) (nu (sN C) (tk (sN C) (sb C r1) (ss C r1)) (sb C r1) i) (nu (sN C) (tk (sN C) (sb C r2) (ss C r2)) (sb C r2) i)))), (10, .int (nI (nu (sN C) (tk (sN C) (sb C r2) (ss C r2)) (sb C r2) i))), (9, .int (nI (nu (sN C) (tk (sN C) (sb C r1) (ss C r1)) (sb C r1) i))), (0, .ref q), (1, .int (nI r1)), (2, .int (nI r2)), (3, .int (nI (sb C r1))), (4, .int (nI (sb C r2))), (5, .int (nI (tk (sN C) (sb C r1) (ss C r1)))), (6, .int (nI (tk (sN C) (sb C r2) (ss C r2))))]) F dX9_unlike_168 rfl (nI_1 _) (by decide) rfl ?_
                      refine g_goto (tgt := 90) F dX9_unlike_171 (by decide) ?_
                      refine g_lv [5, 6, 7, 8, 9, 10, 11, 1, 0] rfl ?_
                      exact ih90 (i + 1) (zz ||| ucn (sN C) (nu (sN C) (tk (sN C) (sb C r1) (ss C r1)) (sb C r1) i) (nu (sN C) (tk (sN C) (sb C r2) (ss C r2)) (sb C r2) i) * 2 ^ (4 * i)) (by omega) (by omega) (by exact uln_nx hz hz2 hu9) (by exact uln_ne (by omega) hz hz2 hu9)
                    · skip
                      refine g_ldc (v := (-1000002)) F dX9_unlike_153 (by decide +kernel) ?_
                      exact hret _ _ _ _ dX9_unlike_155 ⟨(by have h16 := uuI_no (ucn_le _ _ _) c150; unfold p_unlike; rw [cI_pos ⟨(rng_nI (by omega) (by omega)).mpr hr1, (rng_nI (by omega) (by omega)).mpr hr2⟩, dv_nI (by omega), dv_nI (by omega)]; unfold uly; rw [if_neg c37, if_neg (by omega), if_neg (by omega), uln_one (uln_at h16) 4 (by omega)]; rfl), rfl⟩
                  · skip
                    refine g_iconst (v := nI 0) F dX9_unlike_134 (by decide) ?_
                    refine g_goto (tgt := 146) F dX9_unlike_135 (by decide) ?_
                    refine g_istore (lv2 := [(11, .int (nI 0)), (10, .int (nI (nu (sN C) (tk (sN C) (sb C r2) (ss C r2)) (sb C r2) i))), (9, .int (nI (nu (sN C) (tk (sN C) (sb C r1) (ss C r1)) (sb C r1) i))), (0, .ref q), (1, .int (nI r1)), (2, .int (nI r2)), (3, .int (nI (sb C r1))), (4, .int (nI (sb C r2))), (5, .int (nI (tk (sN C) (sb C r1) (ss C r1)))), (6, .int (nI (tk (sN C) (sb C r2) (ss C r2)))), (7, .int (nI zz)), (8, .int (nI i))]) F dX9_unlike_146 (by decide) rfl ?_
                    refine g_iload F 0 dX9_unlike_148 rfl ?_
                    refine g_if_geN (tgt := 156) F dX9_unlike_150 (by decide) (by omega) ?_
                    have hle := ucn_le (sN C) (nu (sN C) (tk (sN C) (sb C r1) (ss C r1)) (sb C r1) i) (nu (sN C) (tk (sN C) (sb C r2) (ss C r2)) (sb C r2) i)
                    have hu8 : ucn (sN C) (nu (sN C) (tk (sN C) (sb C r1) (ss C r1)) (sb C r1) i) (nu (sN C) (tk (sN C) (sb C r2) (ss C r2)) (sb C r2) i) = 0 := if_pos c131
                    have hu9 : ¬ ucn (sN C) (nu (sN C) (tk (sN C) (sb C r1) (ss C r1)) (sb C r1) i) (nu (sN C) (tk (sN C) (sb C r2) (ss C r2)) (sb C r2) i) = 16 := by omega
                    refine g_lvC 0 rfl (.int (nI (ucn (sN C) (nu (sN C) (tk (sN C) (sb C r1) (ss C r1)) (sb C r1) i) (nu (sN C) (tk (sN C) (sb C r2) (ss C r2)) (sb C r2) i)))) (by rw [show ucn (sN C) (nu (sN C) (tk (sN C) (sb C r1) (ss C r1)) (sb C r1) i) (nu (sN C) (tk (sN C) (sb C r2) (ss C r2)) (sb C r2) i) = 0 from hu8]) (lv2 := [(11, .int (nI (ucn (sN C) (nu (sN C) (tk (sN C) (sb C r1) (ss C r1)) (sb C r1) i) (nu (sN C) (tk (sN C) (sb C r2) (ss C r2)) (sb C r2) i)))), (10, .int (nI (nu (sN C) (tk (sN C) (sb C r2) (ss C r2)) (sb C r2) i))), (9, .int (nI (nu (sN C) (tk (sN C) (sb C r1) (ss C r1)) (sb C r1) i))), (0, .ref q), (1, .int (nI r1)), (2, .int (nI r2)), (3, .int (nI (sb C r1))), (4, .int (nI (sb C r2))), (5, .int (nI (tk (sN C) (sb C r1) (ss C r1)))), (6, .int (nI (tk (sN C) (sb C r2) (ss C r2)))), (7, .int (nI zz)), (8, .int (nI i))]) rfl ?_
                    refine g_iload F 10 dX9_unlike_156 rfl ?_
                    refine g_iload F 0 dX9_unlike_158 rfl ?_
                    refine g_iconst (v := nI 4) F dX9_unlike_160 (by decide) ?_
                    refine g_iload F 11 dX9_unlike_161 rfl ?_
                    refine g_imulN F dX9_unlike_163 ?_
                    refine g_ishl F dX9_unlike_164 ?_
                    refine g_top ((nI (ucn (sN C) (nu (sN C) (tk (sN C) (sb C r1) (ss C r1)) (sb C r1) i) (nu (sN C) (tk (sN C) (sb C r2) (ss C r2)) (sb C r2) i))) <<< ((nI (4 * i)) &&& 31)) (nI (ucn (sN C) (nu (sN C) (tk (sN C) (sb C r1) (ss C r1)) (sb C r1) i) (nu (sN C) (tk (sN C) (sb C r2) (ss C r2)) (sb C r2) i) * 2 ^ (4 * i))) (by exact shl4 _ (by omega) i (by omega)) ?_
                    refine g_ior F dX9_unlike_165 ?_
                    refine g_top ((nI zz) ||| (nI (ucn (sN C) (nu (sN C) (tk (sN C) (sb C r1) (ss C r1)) (sb C r1) i) (nu (sN C) (tk (sN C) (sb C r2) (ss C r2)) (sb C r2) i) * 2 ^ (4 * i)))) (nI (zz ||| ucn (sN C) (nu (sN C) (tk (sN C) (sb C r1) (ss C r1)) (sb C r1) i) (nu (sN C) (tk (sN C) (sb C r2) (ss C r2)) (sb C r2) i) * 2 ^ (4 * i))) (by rw [nI_or]) ?_
                    refine g_istore (lv2 := [(7, .int (nI (zz ||| ucn (sN C) (nu (sN C) (tk (sN C) (sb C r1) (ss C r1)) (sb C r1) i) (nu (sN C) (tk (sN C) (sb C r2) (ss C r2)) (sb C r2) i) * 2 ^ (4 * i)))), (11, .int (nI (ucn (sN C) (nu (sN C) (tk (sN C) (sb C r1) (ss C r1)) (sb C r1) i) (nu (sN C) (tk (sN C) (sb C r2) (ss C r2)) (sb C r2) i)))), (10, .int (nI (nu (sN C) (tk (sN C) (sb C r2) (ss C r2)) (sb C r2) i))), (9, .int (nI (nu (sN C) (tk (sN C) (sb C r1) (ss C r1)) (sb C r1) i))), (0, .ref q), (1, .int (nI r1)), (2, .int (nI r2)), (3, .int (nI (sb C r1))), (4, .int (nI (sb C r2))), (5, .int (nI (tk (sN C) (sb C r1) (ss C r1)))), (6, .int (nI (tk (sN C) (sb C r2) (ss C r2)))), (8, .int (nI i))]) F dX9_unlike_166 (by decide) rfl ?_
                    refine g_iinc (k := 11) (v := nI (i + 1)) (lv2 := [(8, .int (nI (i + 1))), (7, .int (nI (zz ||| ucn (sN C) (nu (sN C) (tk (sN C) (sb C r1) (ss C r1)) (sb C r1) i) (nu (sN C) (tk (sN C) (sb C r2) (ss C r2)) (sb C r2) i) * 2 ^ (4 * i)))), (11, .int (nI (ucn (sN C) (nu (sN C) (tk (sN C) (sb C r1) (ss C r1)) (sb C r1) i) (nu (sN C) (tk (sN C) (sb C r2) (ss C r2)) (sb C r2) i)))), (10, .int (nI (nu (sN C) (tk (sN C) (sb C r2) (ss C r2)) (sb C r2) i))), (9, .int (nI (nu (sN C) (tk (sN C) (sb C r1) (ss C r1)) (sb C r1) i))), (0, .ref q), (1, .int (nI r1)), (2, .int (nI r2)), (3, .int (nI (sb C r1))), (4, .int (nI (sb C r2))), (5, .int (nI (tk (sN C) (sb C r1) (ss C r1)))), (6, .int (nI (tk (sN C) (sb C r2) (ss C r2))))]) F dX9_unlike_168 rfl (nI_1 _) (by decide) rfl ?_
                    refine g_goto (tgt := 90) F dX9_unlike_171 (by decide) ?_
                    refine g_lv [5, 6, 7, 8, 9, 10, 11, 1, 0] rfl ?_
                    exact ih90 (i + 1) (zz ||| ucn (sN C) (nu (sN C) (tk (sN C) (sb C r1) (ss C r1)) (sb C r1) i) (nu (sN C) (tk (sN C) (sb C r2) (ss C r2)) (sb C r2) i) * 2 ^ (4 * i)) (by omega) (by omega) (by exact uln_nx hz hz2 hu9) (by exact uln_ne (by omega) hz hz2 hu9)
            refine g_lv [6, 7, 8, 5, 4, 3, 2, 1, 0] rfl ?_
            exact loop90 ((4 - 0) + 1) 0 0 (Nat.lt_succ_self _) (by omega) (by rfl) (by omega)
          · skip
            refine g_ldc (v := (-1000002)) F dX9_unlike_81 (by decide +kernel) ?_
            exact hret _ _ _ _ dX9_unlike_83 ⟨(by unfold p_unlike; rw [cI_pos ⟨(rng_nI (by omega) (by omega)).mpr hr1, (rng_nI (by omega) (by omega)).mpr hr2⟩, dv_nI (by omega), dv_nI (by omega)]; unfold uly; rw [if_neg c37]; first | (rw [if_pos c72]; rfl) | (rw [if_neg c72, if_pos c78]; rfl)), rfl⟩
      · skip
        refine g_iconst (v := nI 0) F dX9_unlike_40 (by decide) ?_
        exact hret _ _ _ _ dX9_unlike_41 ⟨(by unfold p_unlike; rw [cI_pos ⟨(rng_nI (by omega) (by omega)).mpr hr1, (rng_nI (by omega) (by omega)).mpr hr2⟩, dv_nI (by omega), dv_nI (by omega)]; unfold uly; rw [if_pos c37]; rfl), rfl⟩
    · skip
      refine g_ldc (v := (-1000001)) F dX9_unlike_16 (by decide +kernel) ?_
      exact hret _ _ _ _ dX9_unlike_18 ⟨(by unfold p_unlike; rw [cI_neg (fun h => by first | exact c5 h.1 | exact c13 h.2)]), rfl⟩
set_option maxHeartbeats 4000000 in
set_option maxRecDepth 100000 in
theorem c_X9_unlikeCopies (l : Launch) (E : En) (q : Nat) (r : Nat → Nat) (rc : Nat) (tl : Nat) (at9 : Nat) (lf9 : Int32) (pl9 : Int32) (vl9 : Int32) (fa : Nat) (rs9 : Nat) (cs : Int32) (dn : Nat) (S : Nat → Nat) (C : CS) (hR : Rel S C) (hI : IC C) : CtI l yX9_unlikeCopies wsX9_unlikeCopies ({ frames := 2, cells := 0, slots := 0, locals := 46 } : Room) E [.ref q] [ob 9 q [.ref (r 0), .ref (r 1), .ref (r 2), .int (nI rc), .ref (r 3), .int (nI tl), .ref (r 4), .ref (r 5), .ref (r 6), .ref (r 7), .ref (r 8), .ref (r 9), .ref (r 10), .ref (r 11), .ref (r 12), .int (nI at9), .int (lf9), .int (pl9), .int (vl9), .int (nI fa), .int (nI rs9), .int (cs), .int (nI dn)], ai E (r 0) 892 S] (fun rr uu => rr = (nI (cu (sN C) (sU C) 96)) ∧ uu = [ob 9 q [.ref (r 0), .ref (r 1), .ref (r 2), .int (nI rc), .ref (r 3), .int (nI tl), .ref (r 4), .ref (r 5), .ref (r 6), .ref (r 7), .ref (r 8), .ref (r 9), .ref (r 10), .ref (r 11), .ref (r 12), .int (nI at9), .int (lf9), .int (pl9), .int (vl9), .int (nI fa), .int (nI rs9), .int (cs), .int (nI dn)], ai E (r 0) 892 S]) := by
  refine CtI.of cX9_unlikeCopies 3 RX9 .int rfl (by decide) rfl (Or.inl rfl) (Nat.le_of_ble_eq_true rfl) (fun h => by cases h) ?_
  intro Γ F hret
  show G Γ E 0 0 0 [(0, .ref q)] [] [ob 9 q [.ref (r 0), .ref (r 1), .ref (r 2), .int (nI rc), .ref (r 3), .int (nI tl), .ref (r 4), .ref (r 5), .ref (r 6), .ref (r 7), .ref (r 8), .ref (r 9), .ref (r 10), .ref (r 11), .ref (r 12), .int (nI at9), .int (lf9), .int (pl9), .int (vl9), .int (nI fa), .int (nI rs9), .int (cs), .int (nI dn)], ai E (r 0) 892 S]
  refine g_iconst (v := nI 0) F dX9_unlikeCopies_0 (by decide) ?_
  refine g_istore_n (lv2 := [(1, .int (nI 0)), (0, .ref q)]) F dX9_unlikeCopies_1 rfl (by decide) rfl ?_
  refine g_iconst (v := nI 0) F dX9_unlikeCopies_2 (by decide) ?_
  refine g_istore_n (lv2 := [(2, .int (nI 0)), (1, .int (nI 0)), (0, .ref q)]) F dX9_unlikeCopies_3 rfl (by decide) rfl ?_
  have loop4 : ∀ (n : Nat) (i : Nat) (y : Nat), 96 - i < n → (i ≤ 96) → (y = cu (sN C) (sU C) i) → G Γ E 0 0 4 [(0, .ref q), (1, .int (nI y)), (2, .int (nI i))] [] [ob 9 q [.ref (r 0), .ref (r 1), .ref (r 2), .int (nI rc), .ref (r 3), .int (nI tl), .ref (r 4), .ref (r 5), .ref (r 6), .ref (r 7), .ref (r 8), .ref (r 9), .ref (r 10), .ref (r 11), .ref (r 12), .int (nI at9), .int (lf9), .int (pl9), .int (vl9), .int (nI fa), .int (nI rs9), .int (cs), .int (nI dn)], ai E (r 0) 892 S] := by
    intro n
    induction n with
    | zero => intro i y hz; exact absurd hz (Nat.not_lt_zero _)
    | succ n ih4 =>
      intro i y hz4 hi hy
      refine g_iload_n F 2 dX9_unlikeCopies_4 rfl rfl ?_
      refine g_bipush (v := nI 96) F dX9_unlikeCopies_5 (by decide) ?_
      refine g_icmp_geN (tgt := 46) F dX9_unlikeCopies_7 (by decide) (by omega) (by omega) (fun c7 => ?_) (fun c7 => ?_)
      · skip
        refine g_iload_n F 1 dX9_unlikeCopies_46 rfl rfl ?_
        exact hret _ _ _ _ dX9_unlikeCopies_47 ⟨(congrArg nI (by rw [hy, show i = 96 by omega])), rfl⟩
      · skip
        have hu8 := hI.2.1 i
        refine g_iload_n F 1 dX9_unlikeCopies_10 rfl rfl ?_
        refine g_aload_n F 0 dX9_unlikeCopies_11 rfl rfl ?_
        refine g_get F 0 0 dX9_unlikeCopies_12 rfl rfl (by decide) (by decide +kernel) (by decide +kernel) rfl ?_
        refine g_sipush (v := nI 768) F dX9_unlikeCopies_15 (by decide) ?_
        refine g_iload_n F 2 dX9_unlikeCopies_18 rfl rfl ?_
        refine g_iaddN F dX9_unlikeCopies_19 ?_
        refine g_iald F 1 dX9_unlikeCopies_20 rfl (by omega) (by decide) ?_
        refine g_top (nI (S (768 + i))) (nI (sU C i)) (by rw [hR.2.1 i (by omega)]) ?_
        refine g_iconst (v := nI 1) F dX9_unlikeCopies_21 (by decide) ?_
        refine g_icmp_neN (tgt := 37) F dX9_unlikeCopies_22 (by decide) (by omega) (by omega) (fun c22 => ?_) (fun c22 => ?_)
        · skip
          refine g_iconst (v := nI 0) F dX9_unlikeCopies_37 (by decide) ?_
          refine g_iaddN F dX9_unlikeCopies_38 ?_
          refine g_istore_n (lv2 := [(1, .int (nI (y + 0))), (0, .ref q), (2, .int (nI i))]) F dX9_unlikeCopies_39 rfl (by decide) rfl ?_
          refine g_iinc (k := 2) (v := nI (i + 1)) (lv2 := [(2, .int (nI (i + 1))), (1, .int (nI (y + 0))), (0, .ref q)]) F dX9_unlikeCopies_40 rfl (nI_1 _) (by decide) rfl ?_
          refine g_goto (tgt := 4) F dX9_unlikeCopies_43 (by decide) ?_
          refine g_lv [2, 1, 0] rfl ?_
          exact ih4 (i + 1) (y + 0) (by omega) (by omega) (by rw [cu_a (Or.inl (by omega)), hy, Nat.add_zero])
        · skip
          refine g_aload_n F 0 dX9_unlikeCopies_25 rfl rfl ?_
          refine g_iload_n F 2 dX9_unlikeCopies_26 rfl rfl ?_
          refine g_callViR (n := 1) F [0, 1] (c_X9_areUnlike l E q r rc tl at9 lf9 pl9 vl9 fa rs9 cs dn S C i (by assumption) (by assumption) (by omega)) dX9_unlikeCopies_27 rfl (by decide) rfl rfl rfl (Nat.le_of_ble_eq_true rfl) ⟨Nat.le_of_ble_eq_true rfl, Nat.le_of_ble_eq_true rfl⟩ rfl rfl ⟨Nat.le_of_ble_eq_true rfl, Nat.le_of_ble_eq_true rfl⟩ 0 rfl rfl gX9_unlikeCopies_X9_areUnlike (by decide +kernel) (fun r u hp => by obtain ⟨-, h⟩ := hp; exact h) ?_
          rintro r_27 u_27 ⟨rfl, -⟩
          refine g_if_eqB (tgt := 37) F dX9_unlikeCopies_30 (by decide) (fun c30 => ?_) (fun c30 => ?_)
          · skip
            refine g_iconst (v := nI 0) F dX9_unlikeCopies_37 (by decide) ?_
            refine g_iaddN F dX9_unlikeCopies_38 ?_
            refine g_istore_n (lv2 := [(1, .int (nI (y + 0))), (0, .ref q), (2, .int (nI i))]) F dX9_unlikeCopies_39 rfl (by decide) rfl ?_
            refine g_iinc (k := 2) (v := nI (i + 1)) (lv2 := [(2, .int (nI (i + 1))), (1, .int (nI (y + 0))), (0, .ref q)]) F dX9_unlikeCopies_40 rfl (nI_1 _) (by decide) rfl ?_
            refine g_goto (tgt := 4) F dX9_unlikeCopies_43 (by decide) ?_
            refine g_lv [2, 1, 0] rfl ?_
            exact ih4 (i + 1) (y + 0) (by omega) (by omega) (by rw [cu_a (Or.inr (Classical.not_not.mp c30)), hy, Nat.add_zero])
          · skip
            refine g_iconst (v := nI 1) F dX9_unlikeCopies_33 (by decide) ?_
            refine g_goto (tgt := 38) F dX9_unlikeCopies_34 (by decide) ?_
            refine g_iaddN F dX9_unlikeCopies_38 ?_
            refine g_istore_n (lv2 := [(1, .int (nI (y + 1))), (0, .ref q), (2, .int (nI i))]) F dX9_unlikeCopies_39 rfl (by decide) rfl ?_
            refine g_iinc (k := 2) (v := nI (i + 1)) (lv2 := [(2, .int (nI (i + 1))), (1, .int (nI (y + 1))), (0, .ref q)]) F dX9_unlikeCopies_40 rfl (nI_1 _) (by decide) rfl ?_
            refine g_goto (tgt := 4) F dX9_unlikeCopies_43 (by decide) ?_
            refine g_lv [2, 1, 0] rfl ?_
            exact ih4 (i + 1) (y + 1) (by omega) (by omega) (by rw [cu_b (by omega) c30, hy])
  refine g_lv [2, 1, 0] rfl ?_
  exact loop4 ((96 - 0) + 1) 0 0 (Nat.lt_succ_self _) (by omega) (by rw [cu_0])
set_option maxHeartbeats 4000000 in
set_option maxRecDepth 100000 in
theorem c_X9_count (l : Launch) (E : En) (q : Nat) (r : Nat → Nat) (rc : Nat) (tl : Nat) (at9 : Nat) (lf9 : Int32) (pl9 : Int32) (vl9 : Int32) (fa : Nat) (rs9 : Nat) (cs : Int32) (dn : Nat) (S : Nat → Nat) (C : CS) (x1 : Int32) (hR : Rel S C) (hI : IC C) : CtI l yX9_count wsX9_count ({ frames := 3, cells := 0, slots := 0, locals := 68 } : Room) E [.ref q, .int (x1)] [ob 9 q [.ref (r 0), .ref (r 1), .ref (r 2), .int (nI rc), .ref (r 3), .int (nI tl), .ref (r 4), .ref (r 5), .ref (r 6), .ref (r 7), .ref (r 8), .ref (r 9), .ref (r 10), .ref (r 11), .ref (r 12), .int (nI at9), .int (lf9), .int (pl9), .int (vl9), .int (nI fa), .int (nI rs9), .int (cs), .int (nI dn)], ai E (r 0) 892 S] (fun rr uu => rr = (p_count C rc tl x1) ∧ uu = [ob 9 q [.ref (r 0), .ref (r 1), .ref (r 2), .int (nI rc), .ref (r 3), .int (nI tl), .ref (r 4), .ref (r 5), .ref (r 6), .ref (r 7), .ref (r 8), .ref (r 9), .ref (r 10), .ref (r 11), .ref (r 12), .int (nI at9), .int (lf9), .int (pl9), .int (vl9), .int (nI fa), .int (nI rs9), .int (cs), .int (nI dn)], ai E (r 0) 892 S]) := by
  refine CtI.of cX9_count 2 RX9 .int rfl (by decide) rfl (Or.inl rfl) (Nat.le_of_ble_eq_true rfl) (fun h => by cases h) ?_
  intro Γ F hret
  show G Γ E 0 0 0 [(0, .ref q), (1, .int (x1))] [] [ob 9 q [.ref (r 0), .ref (r 1), .ref (r 2), .int (nI rc), .ref (r 3), .int (nI tl), .ref (r 4), .ref (r 5), .ref (r 6), .ref (r 7), .ref (r 8), .ref (r 9), .ref (r 10), .ref (r 11), .ref (r 12), .int (nI at9), .int (lf9), .int (pl9), .int (vl9), .int (nI fa), .int (nI rs9), .int (cs), .int (nI dn)], ai E (r 0) 892 S]
  refine g_iload_n F 1 dX9_count_0 rfl rfl ?_
  by_cases hsw : rng x1 8
  · obtain ⟨w, hw, rfl⟩ := rng_of (by decide) hsw
    rcases (show w = 0 ∨ w = 1 ∨ w = 2 ∨ w = 3 ∨ w = 4 ∨ w = 5 ∨ w = 6 ∨ w = 7 by omega) with rfl | rfl | rfl | rfl | rfl | rfl | rfl | rfl
    · refine g_tabIn (off := 47) (tgt := 48) F dX9_count_1 (by decide) (by decide) (by decide) (by decide) ?_
      refine g_aload_n F 0 dX9_count_48 rfl rfl ?_
      refine g_get F 0 0 dX9_count_49 rfl rfl (by decide) (by decide +kernel) (by decide +kernel) rfl ?_
      refine g_sipush (v := nI 864) F dX9_count_52 (by decide) ?_
      refine g_iald F 1 dX9_count_55 rfl (by omega) (by decide) ?_
      refine g_top (nI (S 864)) (nI (sZ C)) (by rw [hR.2.2.1]) ?_
      exact hret _ _ _ _ dX9_count_56 ⟨(by unfold p_count ctv; rw [cI_pos ((rng_nI (by decide) (by decide)).mpr (by decide)), dv_nI (by decide)]; rfl), rfl⟩
    · refine g_tabIn (off := 56) (tgt := 57) F dX9_count_1 (by decide) (by decide) (by decide) (by decide) ?_
      refine g_aload_n F 0 dX9_count_57 rfl rfl ?_
      refine g_callViR (n := 0) F [0, 1] (c_X9_freeMany l E q r rc tl at9 lf9 pl9 vl9 fa rs9 cs dn S C (by assumption) (by assumption)) dX9_count_58 rfl (by decide) rfl rfl rfl (Nat.le_of_ble_eq_true rfl) ⟨Nat.le_of_ble_eq_true rfl, Nat.le_of_ble_eq_true rfl⟩ rfl rfl ⟨Nat.le_of_ble_eq_true rfl, Nat.le_of_ble_eq_true rfl⟩ 0 rfl rfl gX9_count_X9_freeMany (by decide +kernel) (fun r u hp => by obtain ⟨-, h⟩ := hp; exact h) ?_
      rintro r_58 u_58 ⟨rfl, -⟩
      exact hret _ _ _ _ dX9_count_61 ⟨(by unfold p_count ctv; rw [cI_pos ((rng_nI (by decide) (by decide)).mpr (by decide)), dv_nI (by decide)]; rfl), rfl⟩
    · refine g_tabIn (off := 61) (tgt := 62) F dX9_count_1 (by decide) (by decide) (by decide) (by decide) ?_
      refine g_aload_n F 0 dX9_count_62 rfl rfl ?_
      refine g_get F 0 0 dX9_count_63 rfl rfl (by decide) (by decide +kernel) (by decide +kernel) rfl ?_
      refine g_sipush (v := nI 866) F dX9_count_66 (by decide) ?_
      refine g_iald F 1 dX9_count_69 rfl (by omega) (by decide) ?_
      refine g_top (nI (S 866)) (nI (sM C)) (by rw [hR.2.2.2.2.1]) ?_
      exact hret _ _ _ _ dX9_count_70 ⟨(by unfold p_count ctv; rw [cI_pos ((rng_nI (by decide) (by decide)).mpr (by decide)), dv_nI (by decide)]; rfl), rfl⟩
    · refine g_tabIn (off := 70) (tgt := 71) F dX9_count_1 (by decide) (by decide) (by decide) (by decide) ?_
      refine g_aload_n F 0 dX9_count_71 rfl rfl ?_
      refine g_get F 0 0 dX9_count_72 rfl rfl (by decide) (by decide +kernel) (by decide +kernel) rfl ?_
      refine g_sipush (v := nI 867) F dX9_count_75 (by decide) ?_
      refine g_iald F 1 dX9_count_78 rfl (by omega) (by decide) ?_
      refine g_top (nI (S 867)) (nI (sW C)) (by rw [hR.2.2.2.2.2.1]) ?_
      exact hret _ _ _ _ dX9_count_79 ⟨(by unfold p_count ctv; rw [cI_pos ((rng_nI (by decide) (by decide)).mpr (by decide)), dv_nI (by decide)]; rfl), rfl⟩
    · refine g_tabIn (off := 79) (tgt := 80) F dX9_count_1 (by decide) (by decide) (by decide) (by decide) ?_
      refine g_aload_n F 0 dX9_count_80 rfl rfl ?_
      refine g_callViR (n := 0) F [0, 1] (c_X9_unlikeCopies l E q r rc tl at9 lf9 pl9 vl9 fa rs9 cs dn S C (by assumption) (by assumption)) dX9_count_81 rfl (by decide) rfl rfl rfl (Nat.le_of_ble_eq_true rfl) ⟨Nat.le_of_ble_eq_true rfl, Nat.le_of_ble_eq_true rfl⟩ rfl rfl ⟨Nat.le_of_ble_eq_true rfl, Nat.le_of_ble_eq_true rfl⟩ 0 rfl rfl gX9_count_X9_unlikeCopies (by decide +kernel) (fun r u hp => by obtain ⟨-, h⟩ := hp; exact h) ?_
      rintro r_81 u_81 ⟨rfl, -⟩
      exact hret _ _ _ _ dX9_count_84 ⟨(by unfold p_count ctv; rw [cI_pos ((rng_nI (by decide) (by decide)).mpr (by decide)), dv_nI (by decide)]; rfl), rfl⟩
    · refine g_tabIn (off := 84) (tgt := 85) F dX9_count_1 (by decide) (by decide) (by decide) (by decide) ?_
      refine g_aload_n F 0 dX9_count_85 rfl rfl ?_
      refine g_callViR (n := 0) F [0, 1] (c_X9_firstFree l E q r rc tl at9 lf9 pl9 vl9 fa rs9 cs dn S C (by assumption) (by assumption)) dX9_count_86 rfl (by decide) rfl rfl rfl (Nat.le_of_ble_eq_true rfl) ⟨Nat.le_of_ble_eq_true rfl, Nat.le_of_ble_eq_true rfl⟩ rfl rfl ⟨Nat.le_of_ble_eq_true rfl, Nat.le_of_ble_eq_true rfl⟩ 0 rfl rfl gX9_count_X9_firstFree (by decide +kernel) (fun r u hp => by obtain ⟨-, h⟩ := hp; exact h) ?_
      rintro r_86 u_86 ⟨rfl, -⟩
      exact hret _ _ _ _ dX9_count_89 ⟨(by unfold p_count ctv; rw [cI_pos ((rng_nI (by decide) (by decide)).mpr (by decide)), dv_nI (by decide)]; rfl), rfl⟩
    · refine g_tabIn (off := 89) (tgt := 90) F dX9_count_1 (by decide) (by decide) (by decide) (by decide) ?_
      refine g_aload_n F 0 dX9_count_90 rfl rfl ?_
      refine g_get F 0 3 dX9_count_91 rfl rfl (by decide) (by decide +kernel) (by decide +kernel) rfl ?_
      exact hret _ _ _ _ dX9_count_94 ⟨(by unfold p_count ctv; rw [cI_pos ((rng_nI (by decide) (by decide)).mpr (by decide)), dv_nI (by decide)]; rfl), rfl⟩
    · refine g_tabIn (off := 94) (tgt := 95) F dX9_count_1 (by decide) (by decide) (by decide) (by decide) ?_
      refine g_aload_n F 0 dX9_count_95 rfl rfl ?_
      refine g_get F 0 5 dX9_count_96 rfl rfl (by decide) (by decide +kernel) (by decide +kernel) rfl ?_
      exact hret _ _ _ _ dX9_count_99 ⟨(by unfold p_count ctv; rw [cI_pos ((rng_nI (by decide) (by decide)).mpr (by decide)), dv_nI (by decide)]; rfl), rfl⟩
  · refine g_tabOut (tgt := 100) F dX9_count_1 (rng_out (by decide) hsw) (by decide) ?_
    refine g_ldc (v := (-1000001)) F dX9_count_100 (by decide +kernel) ?_
    exact hret _ _ _ _ dX9_count_102 ⟨(by unfold p_count; rw [cI_neg hsw]), rfl⟩
set_option maxHeartbeats 4000000 in
set_option maxRecDepth 100000 in
theorem c_X9_undo (l : Launch) (E : En) (q : Nat) (r : Nat → Nat) (rc : Nat) (tl : Nat) (at9 : Nat) (lf9 : Int32) (pl9 : Int32) (vl9 : Int32) (fa : Nat) (rs9 : Nat) (cs : Int32) (dn : Nat) (S : Nat → Nat) (C : CS) (HH : Nat → Nat) (H : Nat → CS) (hR : Rel S C) (hI : IC C) (hRH : RelH HH H rc) (hrc : rc ≤ 3) : CtI l yX9_undo wsX9_undo ({ frames := 1, cells := 0, slots := 0, locals := 24 } : Room) E [.ref q] [ob 9 q [.ref (r 0), .ref (r 1), .ref (r 2), .int (nI rc), .ref (r 3), .int (nI tl), .ref (r 4), .ref (r 5), .ref (r 6), .ref (r 7), .ref (r 8), .ref (r 9), .ref (r 10), .ref (r 11), .ref (r 12), .int (nI at9), .int (lf9), .int (pl9), .int (vl9), .int (nI fa), .int (nI rs9), .int (cs), .int (nI dn)], ai E (r 0) 892 S, ai E (r 2) 2676 HH] (fun rr uu => ∃ (S2 : Nat → Nat), (Rel S2 (if rc = 0 then C else H (rc - 1))) ∧ rr = (if rc = 0 then (-1000002) else nI (rc - 1)) ∧ uu = [ob 9 q [.ref (r 0), .ref (r 1), .ref (r 2), .int (nI (rc - 1)), .ref (r 3), .int (nI tl), .ref (r 4), .ref (r 5), .ref (r 6), .ref (r 7), .ref (r 8), .ref (r 9), .ref (r 10), .ref (r 11), .ref (r 12), .int (nI at9), .int (lf9), .int (pl9), .int (vl9), .int (nI fa), .int (nI rs9), .int (cs), .int (nI dn)], ai E (r 0) 892 S2, ai E (r 2) 2676 HH]) := by
  refine CtI.of cX9_undo 1 RX9 .int rfl (by decide) rfl (Or.inl rfl) (Nat.le_of_ble_eq_true rfl) (fun h => by cases h) ?_
  intro Γ F hret
  show G Γ E 0 0 0 [(0, .ref q)] [] [ob 9 q [.ref (r 0), .ref (r 1), .ref (r 2), .int (nI rc), .ref (r 3), .int (nI tl), .ref (r 4), .ref (r 5), .ref (r 6), .ref (r 7), .ref (r 8), .ref (r 9), .ref (r 10), .ref (r 11), .ref (r 12), .int (nI at9), .int (lf9), .int (pl9), .int (vl9), .int (nI fa), .int (nI rs9), .int (cs), .int (nI dn)], ai E (r 0) 892 S, ai E (r 2) 2676 HH]
  refine g_aload_n F 0 dX9_undo_0 rfl rfl ?_
  refine g_get F 0 3 dX9_undo_1 rfl rfl (by decide) (by decide +kernel) (by decide +kernel) rfl ?_
  refine g_if_neN (tgt := 10) F dX9_undo_4 (by decide) (by omega) (fun c4 => ?_) (fun c4 => ?_)
  · skip
    refine g_aload_n F 0 dX9_undo_10 rfl rfl ?_
    refine g_dup F dX9_undo_11 rfl ?_
    refine g_get F 0 3 dX9_undo_12 rfl rfl (by decide) (by decide +kernel) (by decide +kernel) rfl ?_
    refine g_iconst (v := nI 1) F dX9_undo_15 (by decide) ?_
    refine g_isubN F dX9_undo_16 (by omega) ?_
    refine g_put F 0 3 dX9_undo_17 rfl rfl (by decide) (by decide +kernel) (by decide +kernel) tyX9_ok nmX9 rfl (by decide +kernel) rfl rfl (Nat.le_of_ble_eq_true rfl) rfl (ty := .int) (w2 := [ob 9 q [.ref (r 0), .ref (r 1), .ref (r 2), .int (nI (rc - 1)), .ref (r 3), .int (nI tl), .ref (r 4), .ref (r 5), .ref (r 6), .ref (r 7), .ref (r 8), .ref (r 9), .ref (r 10), .ref (r 11), .ref (r 12), .int (nI at9), .int (lf9), .int (pl9), .int (vl9), .int (nI fa), .int (nI rs9), .int (cs), .int (nI dn)], ai E (r 0) 892 S, ai E (r 2) 2676 HH]) rfl ?_
    refine g_aload_n F 0 dX9_undo_20 rfl rfl ?_
    refine g_get F 0 2 dX9_undo_21 rfl rfl (by decide) (by decide +kernel) (by decide +kernel) rfl ?_
    refine g_aload_n F 0 dX9_undo_24 rfl rfl ?_
    refine g_get F 0 3 dX9_undo_25 rfl rfl (by decide) (by decide +kernel) (by decide +kernel) rfl ?_
    refine g_sipush (v := nI 892) F dX9_undo_28 (by decide) ?_
    refine g_imulN F dX9_undo_31 ?_
    refine g_aload_n F 0 dX9_undo_32 rfl rfl ?_
    refine g_get F 0 0 dX9_undo_33 rfl rfl (by decide) (by decide +kernel) (by decide +kernel) rfl ?_
    refine g_iconst (v := nI 0) F dX9_undo_36 (by decide) ?_
    refine g_callSvW (n := 4) F [2, 1] (c_X9_copy l E (r 2) 2676 HH ((rc - 1) * 892) (r 0) 892 S 0 (by omega) (by omega) (by omega) (by omega)) dX9_undo_37 rfl (by decide) rfl rfl rfl (Nat.le_of_ble_eq_true rfl) ⟨Nat.le_of_ble_eq_true rfl, Nat.le_of_ble_eq_true rfl⟩ rfl rfl ⟨Nat.le_of_ble_eq_true rfl, Nat.le_of_ble_eq_true rfl⟩ ggX9_undo_X9_copy (by decide +kernel) (by decide +kernel) (by decide +kernel) (by decide +kernel) (fun u hp => by obtain ⟨_, -, rfl⟩ := hp; rfl) ?_
    rintro u_37 ⟨T2_37, hT_37, rfl⟩
    refine g_ws (w2 := [ob 9 q [.ref (r 0), .ref (r 1), .ref (r 2), .int (nI (rc - 1)), .ref (r 3), .int (nI tl), .ref (r 4), .ref (r 5), .ref (r 6), .ref (r 7), .ref (r 8), .ref (r 9), .ref (r 10), .ref (r 11), .ref (r 12), .int (nI at9), .int (lf9), .int (pl9), .int (vl9), .int (nI fa), .int (nI rs9), .int (cs), .int (nI dn)], ai E (r 0) 892 T2_37, ai E (r 2) 2676 HH]) rfl ?_
    refine g_aload_n F 0 dX9_undo_40 rfl rfl ?_
    refine g_get F 0 3 dX9_undo_41 rfl rfl (by decide) (by decide +kernel) (by decide +kernel) rfl ?_
    exact hret _ _ _ _ dX9_undo_44 ⟨T2_37, (by rw [if_neg c4]; exact (hRH (rc - 1) (by omega)).1.arr (hRH (rc - 1) (by omega)).2.2.2.2.1 (fun j hj => by have h9 := hT_37.1 j hj; rw [Nat.zero_add] at h9; rw [h9, Nat.mul_comm])), (by rw [if_neg c4]), (by rfl)⟩
  · skip
    refine g_ldc (v := (-1000002)) F dX9_undo_7 (by decide +kernel) ?_
    exact hret _ _ _ _ dX9_undo_9 ⟨S, (by rw [if_pos c4]; exact hR), (by rw [if_pos c4]), (by rw [c4])⟩
set_option maxHeartbeats 4000000 in
set_option maxRecDepth 100000 in
theorem c_X9_within_r (l : Launch) (E : En) (x : Int32) (lo9 : Nat) (hi9 : Nat)  : CtI l yX9_within wsX9_within ({ frames := 0, cells := 0, slots := 0, locals := 0 } : Room) E [.int (x), .int (nI lo9), .int (nI hi9)] [] (fun rr uu => rr = (bi (¬ x < nI lo9 ∧ ¬ nI hi9 < x)) ∧ uu = []) := by
  refine CtI.of cX9_within 3 RX9 .boolean rfl (by decide) rfl (Or.inr rfl) (Nat.le_of_ble_eq_true rfl) (fun _ r u hp => by obtain ⟨rfl, -⟩ := hp; exact bi_narrow _) ?_
  intro Γ F hret
  show G Γ E 0 0 0 [(0, .int (x)), (1, .int (nI lo9)), (2, .int (nI hi9))] [] []
  refine g_iload_n F 0 dX9_within_0 rfl rfl ?_
  refine g_iload_n F 1 dX9_within_1 rfl rfl ?_
  refine g_icmp_lt (tgt := 14) F dX9_within_2 (by decide) (fun c2 => ?_) (fun c2 => ?_)
  · skip
    refine g_iconst (v := nI 0) F dX9_within_14 (by decide) ?_
    exact hret _ _ _ _ dX9_within_15 ⟨(bi_neg (by first | exact fun h => h.1 (by assumption) | exact fun h => h.2 (by assumption))).symm, rfl⟩
  · skip
    refine g_iload_n F 0 dX9_within_5 rfl rfl ?_
    refine g_iload_n F 2 dX9_within_6 rfl rfl ?_
    refine g_icmp_gt (tgt := 14) F dX9_within_7 (by decide) (fun c7 => ?_) (fun c7 => ?_)
    · skip
      refine g_iconst (v := nI 0) F dX9_within_14 (by decide) ?_
      exact hret _ _ _ _ dX9_within_15 ⟨(bi_neg (by first | exact fun h => h.1 (by assumption) | exact fun h => h.2 (by assumption))).symm, rfl⟩
    · skip
      refine g_iconst (v := nI 1) F dX9_within_10 (by decide) ?_
      refine g_goto (tgt := 15) F dX9_within_11 (by decide) ?_
      exact hret _ _ _ _ dX9_within_15 ⟨(bi_pos (by exact ⟨c2, c7⟩)).symm, rfl⟩
set_option maxHeartbeats 4000000 in
set_option maxRecDepth 100000 in
theorem c_X9_type (l : Launch) (E : En) (q : Nat) (r : Nat → Nat) (rc : Nat) (tl : Nat) (at9 : Nat) (lf9 : Int32) (pl9 : Int32) (vl9 : Int32) (fa : Nat) (rs9 : Nat) (cs : Int32) (dn : Nat) (t : Nat → Nat) (x1 : Int32) (hL : tl ≤ 60) : CtI l yX9_type wsX9_type ({ frames := 1, cells := 0, slots := 0, locals := 22 } : Room) E [.ref q, .int (x1)] [ob 9 q [.ref (r 0), .ref (r 1), .ref (r 2), .int (nI rc), .ref (r 3), .int (nI tl), .ref (r 4), .ref (r 5), .ref (r 6), .ref (r 7), .ref (r 8), .ref (r 9), .ref (r 10), .ref (r 11), .ref (r 12), .int (nI at9), .int (lf9), .int (pl9), .int (vl9), .int (nI fa), .int (nI rs9), .int (cs), .int (nI dn)], ai E (r 3) 60 t] (fun rr uu => rr = (p_type tl x1) ∧ uu = [ob 9 q [.ref (r 0), .ref (r 1), .ref (r 2), .int (nI rc), .ref (r 3), .int (nI (cI (typ x1 ∧ tl < 60) (tl + 1) tl)), .ref (r 4), .ref (r 5), .ref (r 6), .ref (r 7), .ref (r 8), .ref (r 9), .ref (r 10), .ref (r 11), .ref (r 12), .int (nI at9), .int (lf9), .int (pl9), .int (vl9), .int (nI fa), .int (nI rs9), .int (cs), .int (nI dn)], ai E (r 3) 60 (cI (typ x1 ∧ tl < 60) (up t tl (dv x1)) t)]) := by
  refine CtI.of cX9_type 2 RX9 .int rfl (by decide) rfl (Or.inl rfl) (Nat.le_of_ble_eq_true rfl) (fun h => by cases h) ?_
  intro Γ F hret
  show G Γ E 0 0 0 [(0, .ref q), (1, .int (x1))] [] [ob 9 q [.ref (r 0), .ref (r 1), .ref (r 2), .int (nI rc), .ref (r 3), .int (nI tl), .ref (r 4), .ref (r 5), .ref (r 6), .ref (r 7), .ref (r 8), .ref (r 9), .ref (r 10), .ref (r 11), .ref (r 12), .int (nI at9), .int (lf9), .int (pl9), .int (vl9), .int (nI fa), .int (nI rs9), .int (cs), .int (nI dn)], ai E (r 3) 60 t]
  refine g_iload_n F 1 dX9_type_0 rfl rfl ?_
  refine g_bipush (v := nI 32) F dX9_type_1 (by decide) ?_
  refine g_bipush (v := nI 126) F dX9_type_3 (by decide) ?_
  refine g_callSiR (n := 3) F [] (c_X9_within_r l E x1 32 126 ) dX9_type_5 rfl (by decide) rfl rfl rfl (Nat.le_of_ble_eq_true rfl) ⟨Nat.le_of_ble_eq_true rfl, Nat.le_of_ble_eq_true rfl⟩ rfl rfl ⟨Nat.le_of_ble_eq_true rfl, Nat.le_of_ble_eq_true rfl⟩ ggX9_type_X9_within (by decide +kernel) (by decide +kernel) (by decide +kernel) (by decide +kernel) (fun r u hp => by obtain ⟨-, h⟩ := hp; exact h) ?_
  rintro r_5 u_5 ⟨rfl, -⟩
  refine g_if_neB (tgt := 14) F dX9_type_8 (by decide) (fun c8 => ?_) (fun c8 => ?_)
  · skip
    have hT : typ x1 := ⟨c8.1, Int32.not_lt.mp c8.2⟩
    obtain ⟨k1, hk1, rfl⟩ := typ_of hT
    refine g_aload_n F 0 dX9_type_14 rfl rfl ?_
    refine g_get F 0 5 dX9_type_15 rfl rfl (by decide) (by decide +kernel) (by decide +kernel) rfl ?_
    refine g_bipush (v := nI 60) F dX9_type_18 (by decide) ?_
    refine g_icmp_neN (tgt := 26) F dX9_type_20 (by decide) (by omega) (by omega) (fun c20 => ?_) (fun c20 => ?_)
    · skip
      refine g_aload_n F 0 dX9_type_26 rfl rfl ?_
      refine g_get F 0 4 dX9_type_27 rfl rfl (by decide) (by decide +kernel) (by decide +kernel) rfl ?_
      refine g_aload_n F 0 dX9_type_30 rfl rfl ?_
      refine g_get F 0 5 dX9_type_31 rfl rfl (by decide) (by decide +kernel) (by decide +kernel) rfl ?_
      refine g_iload_n F 1 dX9_type_34 rfl rfl ?_
      refine g_iast F 1 dX9_type_35 rfl (by omega) (by decide) (w2 := [ob 9 q [.ref (r 0), .ref (r 1), .ref (r 2), .int (nI rc), .ref (r 3), .int (nI tl), .ref (r 4), .ref (r 5), .ref (r 6), .ref (r 7), .ref (r 8), .ref (r 9), .ref (r 10), .ref (r 11), .ref (r 12), .int (nI at9), .int (lf9), .int (pl9), .int (vl9), .int (nI fa), .int (nI rs9), .int (cs), .int (nI dn)], ai E (r 3) 60 (up t tl k1)]) rfl ?_
      refine g_aload_n F 0 dX9_type_36 rfl rfl ?_
      refine g_dup F dX9_type_37 rfl ?_
      refine g_get F 0 5 dX9_type_38 rfl rfl (by decide) (by decide +kernel) (by decide +kernel) rfl ?_
      refine g_iconst (v := nI 1) F dX9_type_41 (by decide) ?_
      refine g_iaddN F dX9_type_42 ?_
      refine g_put F 0 5 dX9_type_43 rfl rfl (by decide) (by decide +kernel) (by decide +kernel) tyX9_ok nmX9 rfl (by decide +kernel) rfl rfl (Nat.le_of_ble_eq_true rfl) rfl (ty := .int) (w2 := [ob 9 q [.ref (r 0), .ref (r 1), .ref (r 2), .int (nI rc), .ref (r 3), .int (nI (tl + 1)), .ref (r 4), .ref (r 5), .ref (r 6), .ref (r 7), .ref (r 8), .ref (r 9), .ref (r 10), .ref (r 11), .ref (r 12), .int (nI at9), .int (lf9), .int (pl9), .int (vl9), .int (nI fa), .int (nI rs9), .int (cs), .int (nI dn)], ai E (r 3) 60 (up t tl k1)]) rfl ?_
      refine g_aload_n F 0 dX9_type_46 rfl rfl ?_
      refine g_get F 0 5 dX9_type_47 rfl rfl (by decide) (by decide +kernel) (by decide +kernel) rfl ?_
      exact hret _ _ _ _ dX9_type_50 ⟨(by unfold p_type; rw [cI_pos hT, if_pos (by omega)]), (by rw [cI_pos ⟨hT, by omega⟩, cI_pos ⟨hT, by omega⟩, dv_nI (by omega)])⟩
    · skip
      refine g_ldc (v := (-1000003)) F dX9_type_23 (by decide +kernel) ?_
      exact hret _ _ _ _ dX9_type_25 ⟨(by unfold p_type; rw [cI_pos hT, if_neg (by omega)]), (by first | (rw [cI_neg (fun h => by have := h.2; omega), cI_neg (fun h => by have := h.2; omega)]; done) | (rw [cI_neg (fun h => by have := h.2; omega), cI_neg (fun h => by have := h.2; omega)]; rfl))⟩
  · skip
    refine g_ldc (v := (-1000001)) F dX9_type_11 (by decide +kernel) ?_
    exact hret _ _ _ _ dX9_type_13 ⟨(by unfold p_type; rw [cI_neg (fun h => c8 ⟨h.1, Int32.not_lt.mpr h.2⟩)]), (by first | (rw [cI_neg (fun h => c8 ⟨h.1.1, Int32.not_lt.mpr h.1.2⟩), cI_neg (fun h => c8 ⟨h.1.1, Int32.not_lt.mpr h.1.2⟩)]; done) | (rw [cI_neg (fun h => c8 ⟨h.1.1, Int32.not_lt.mpr h.1.2⟩), cI_neg (fun h => c8 ⟨h.1.1, Int32.not_lt.mpr h.1.2⟩)]; rfl))⟩
set_option maxHeartbeats 4000000 in
set_option maxRecDepth 100000 in
theorem c_X9_clearText (l : Launch) (E : En) (q : Nat) (r : Nat → Nat) (rc : Nat) (tl : Nat) (at9 : Nat) (lf9 : Int32) (pl9 : Int32) (vl9 : Int32) (fa : Nat) (rs9 : Nat) (cs : Int32) (dn : Nat)  : CtI l yX9_clearText wsX9_clearText ({ frames := 0, cells := 0, slots := 0, locals := 0 } : Room) E [.ref q] [ob 9 q [.ref (r 0), .ref (r 1), .ref (r 2), .int (nI rc), .ref (r 3), .int (nI tl), .ref (r 4), .ref (r 5), .ref (r 6), .ref (r 7), .ref (r 8), .ref (r 9), .ref (r 10), .ref (r 11), .ref (r 12), .int (nI at9), .int (lf9), .int (pl9), .int (vl9), .int (nI fa), .int (nI rs9), .int (cs), .int (nI dn)]] (fun rr uu => rr = (nI tl) ∧ uu = [ob 9 q [.ref (r 0), .ref (r 1), .ref (r 2), .int (nI rc), .ref (r 3), .int (nI 0), .ref (r 4), .ref (r 5), .ref (r 6), .ref (r 7), .ref (r 8), .ref (r 9), .ref (r 10), .ref (r 11), .ref (r 12), .int (nI at9), .int (lf9), .int (pl9), .int (vl9), .int (nI fa), .int (nI rs9), .int (cs), .int (nI dn)]]) := by
  refine CtI.of cX9_clearText 2 RX9 .int rfl (by decide) rfl (Or.inl rfl) (Nat.le_of_ble_eq_true rfl) (fun h => by cases h) ?_
  intro Γ F hret
  show G Γ E 0 0 0 [(0, .ref q)] [] [ob 9 q [.ref (r 0), .ref (r 1), .ref (r 2), .int (nI rc), .ref (r 3), .int (nI tl), .ref (r 4), .ref (r 5), .ref (r 6), .ref (r 7), .ref (r 8), .ref (r 9), .ref (r 10), .ref (r 11), .ref (r 12), .int (nI at9), .int (lf9), .int (pl9), .int (vl9), .int (nI fa), .int (nI rs9), .int (cs), .int (nI dn)]]
  refine g_aload_n F 0 dX9_clearText_0 rfl rfl ?_
  refine g_get F 0 5 dX9_clearText_1 rfl rfl (by decide) (by decide +kernel) (by decide +kernel) rfl ?_
  refine g_istore_n (lv2 := [(1, .int (nI tl)), (0, .ref q)]) F dX9_clearText_4 rfl (by decide) rfl ?_
  refine g_aload_n F 1 dX9_clearText_5 rfl rfl ?_
  refine g_iconst (v := nI 0) F dX9_clearText_6 (by decide) ?_
  refine g_put F 0 5 dX9_clearText_7 rfl rfl (by decide) (by decide +kernel) (by decide +kernel) tyX9_ok nmX9 rfl (by decide +kernel) rfl rfl (Nat.le_of_ble_eq_true rfl) rfl (ty := .int) (w2 := [ob 9 q [.ref (r 0), .ref (r 1), .ref (r 2), .int (nI rc), .ref (r 3), .int (nI 0), .ref (r 4), .ref (r 5), .ref (r 6), .ref (r 7), .ref (r 8), .ref (r 9), .ref (r 10), .ref (r 11), .ref (r 12), .int (nI at9), .int (lf9), .int (pl9), .int (vl9), .int (nI fa), .int (nI rs9), .int (cs), .int (nI dn)]]) rfl ?_
  refine g_iload_n F 0 dX9_clearText_10 rfl rfl ?_
  exact hret _ _ _ _ dX9_clearText_11 ⟨rfl, rfl⟩
