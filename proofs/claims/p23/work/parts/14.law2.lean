/-! the law's own methods: sets of blocks, mending -/
theorem cf_of {N : Nat → Nat} {b s : Nat} (h : ¬ tk N b s = 1) : cf N b s = 0 := by
  have := tk_le N b s
  unfold cf; split <;> omega
theorem cf_1 {N : Nat → Nat} {b s : Nat} (h : tk N b s = 1) : cf N b s = 1 := by
  unfold cf; rw [if_neg (by omega), h]
theorem bu_ad {U : Nat → Nat} {k : Nat} (hk : k < 96) : ∀ j, j < 2 → vp_updL (bu U) (k / 64) (bu U (k / 64) ||| (1 <<< ((nI (k % 64)).toInt64 &&& 63))) j = bu (ad U k) j := fun j _ => by
  rw [show ad U k = up U k 1 from if_pos hk]
  exact congrFun (bu_set hk) j
theorem bu_or (N : Nat → Nat) (b s : Nat) (U : Nat → Nat) : ∀ j, j < 2 → vp_updL (vp_updL (bu U) 0 (bu U 0 ||| bu (ab N b s (fun _ => 0)) 0)) 1 (vp_updL (bu U) 0 (bu U 0 ||| bu (ab N b s (fun _ => 0)) 0) 1 ||| bu (ab N b s (fun _ => 0)) 1) j = bu (ab N b s U) j := fun j hj => by
  rcases (show j = 0 ∨ j = 1 by omega) with rfl | rfl
  · exact ab_or N b s U 0
  · exact ab_or N b s U 1
theorem bu_00 (X : Nat → Int64) : ∀ j, j < 2 → vp_updL (vp_updL X 0 0) 1 0 j = bu (fun _ => 0) j := fun j hj => by
  rcases (show j = 0 ∨ j = 1 by omega) with rfl | rfl
  · exact bs_zero 0
  · exact bs_zero 1
theorem bu_an (U V : Nat → Nat) (X : Nat → Int64) : ∀ j, j < 2 → vp_updL (vp_updL X 0 (bu U 0 &&& (bu V 0 ^^^ (-1)))) 1 (bu U 1 &&& (bu V 1 ^^^ (-1))) j = bu (fun j => if V j = 0 then U j else 0) j := fun j hj => by
  rcases (show j = 0 ∨ j = 1 by omega) with rfl | rfl
  · exact bs_andn U V 0
  · exact bs_andn U V 1
theorem bu_cp (U V : Nat → Nat) : ∀ j, j < 2 → vp_updL (vp_updL (bu U) 0 (bu V 0)) 1 (bu V 1) j = bu V j := fun j hj => by
  rcases (show j = 0 ∨ j = 1 by omega) with rfl | rfl <;> rfl
theorem uln_0 {N : Nat → Nat} {c b c2 b2 i z : Nat} (hz : z = uln N c b c2 b2 i) (hz2 : ¬ z = 65536) (h : nu N c b i / 256 = nu N c2 b2 i / 256) : z = uln N c b c2 b2 (i + 1) ∧ ¬ z = 65536 := by
  have e : ucn N (nu N c b i) (nu N c2 b2 i) = 0 := if_pos h
  have := uln_nx (N := N) (c := c) (b := b) (c2 := c2) (b2 := b2) (k := i) hz hz2 (by rw [e]; decide)
  rw [e, Nat.zero_mul, Nat.or_zero] at this
  exact ⟨this, hz2⟩
theorem ucs_a {N : Nat → Nat} {c b c2 b2 k : Nat} (h : nu N c b k / 256 = nu N c2 b2 k / 256) : ucs N c b c2 b2 (k + 1) = ucs N c b c2 b2 k := if_pos h
theorem ucs_b {N : Nat → Nat} {c b c2 b2 k : Nat} (h : ¬ nu N c b k / 256 = nu N c2 b2 k / 256) : ucs N c b c2 b2 (k + 1) = ucs N c b c2 b2 k ||| 2 ^ k := if_neg h
theorem ucn_of {N : Nat → Nat} {p q : Nat} (h : ¬ p / 256 = q / 256) (h1 : ¬ tk N (p / 256) (p % 256) = 2) (h2 : ¬ tk N (q / 256) (q % 256) = 2) : ucn N p q = ucs N (tk N (p / 256) (p % 256)) (p / 256) (tk N (q / 256) (q % 256)) (q / 256) 4 ∧ ¬ ucn N p q = 16 := by
  have hl := ucs_lt N (tk N (p / 256) (p % 256)) (p / 256) (tk N (q / 256) (q % 256)) (q / 256) 4
  have e : ucn N p q = ucs N (tk N (p / 256) (p % 256)) (p / 256) (tk N (q / 256) (q % 256)) (q / 256) 4 := by
    unfold ucn; rw [if_neg h, if_neg h1, if_neg h2]
  exact ⟨e, by omega⟩
theorem ucn_no {N : Nat → Nat} {p q : Nat} (h : ¬ p / 256 = q / 256) (h1 : tk N (p / 256) (p % 256) = 2 ∨ tk N (q / 256) (q % 256) = 2) : ucn N p q = 16 := by
  unfold ucn
  rw [if_neg h]
  by_cases z : tk N (p / 256) (p % 256) = 2
  · rw [if_pos z]
  · rw [if_neg z, if_pos (h1.resolve_left z)]
theorem uln_in {N : Nat → Nat} {c b c2 b2 i z y : Nat} (hi : i < 4) (hz : z = uln N c b c2 b2 i) (hz2 : ¬ z = 65536) (h : ¬ nu N c b i / 256 = nu N c2 b2 i / 256) (h1 : ¬ tk N (nu N c b i / 256) (nu N c b i % 256) = 2) (h2 : ¬ tk N (nu N c2 b2 i / 256) (nu N c2 b2 i % 256) = 2) (hy : y = z ||| ucs N (tk N (nu N c b i / 256) (nu N c b i % 256)) (nu N c b i / 256) (tk N (nu N c2 b2 i / 256) (nu N c2 b2 i % 256)) (nu N c2 b2 i / 256) 4 * 2 ^ (4 * i)) : y = uln N c b c2 b2 (i + 1) ∧ ¬ y = 65536 := by
  have e := ucn_of h h1 h2
  rw [← e.1] at hy
  have a1 := uln_nx hz hz2 e.2
  have a2 := uln_ne hi hz hz2 e.2
  rw [← hy] at a1 a2
  exact ⟨a1, a2⟩
set_option maxHeartbeats 4000000 in
set_option maxRecDepth 100000 in
theorem c_L_owned (l : Launch) (E : En) (li : Nat) (c : Nat) (d : Nat) (N : Nat → Nat) (lf : Nat → Nat) (q : Nat) (X : Nat → Int64) (b0 : Nat) (s0 : Nat) (r : Nat) (hr : r < 8) (hN : BN N) (hZ : ZB N) (hb : lf (3 * r + 1) = b0) (hs : lf (3 * r + 2) = s0) (hb2 : b0 < 65536) (hs2 : s0 < 65536) (hb3 : b0 < 64) : CtV l yL_owned wsL_owned ({ frames := 3, cells := 0, slots := 0, locals := 66 } : Room) E [.int (nI r), .ref li, .ref c, .ref d, .ref q] [ai E li 24 lf, aj E c 64 (cc N 0), aj E d 64 (cc N 1), aj E q 2 X] (fun uu => uu = [ai E li 24 lf, aj E c 64 (cc N 0), aj E d 64 (cc N 1), aj E q 2 (bu (ab N b0 s0 (fun _ => 0)))]) := by
  refine CtV.of cL_owned 14 RL rfl (by decide) rfl (Nat.le_of_ble_eq_true rfl) ?_
  intro Γ F hin0 hret
  show G Γ E 0 0 0 [(0, .int (nI r)), (1, .ref li), (2, .ref c), (3, .ref d), (4, .ref q)] [] [ai E li 24 lf, aj E c 64 (cc N 0), aj E d 64 (cc N 1), aj E q 2 X]
  refine g_aload F 4 dL_owned_0 rfl ?_
  refine g_iconst (v := nI 0) F dL_owned_2 (by decide) ?_
  refine g_lconst (v := 0) F dL_owned_3 (by decide) ?_
  refine g_jast F 3 dL_owned_4 rfl (by omega) (by decide) (w2 := [ai E li 24 lf, aj E c 64 (cc N 0), aj E d 64 (cc N 1), aj E q 2 (vp_updL X 0 0)]) rfl ?_
  refine g_aload F 4 dL_owned_5 rfl ?_
  refine g_iconst (v := nI 1) F dL_owned_7 (by decide) ?_
  refine g_lconst (v := 0) F dL_owned_8 (by decide) ?_
  refine g_jast F 3 dL_owned_9 rfl (by omega) (by decide) (w2 := [ai E li 24 lf, aj E c 64 (cc N 0), aj E d 64 (cc N 1), aj E q 2 (vp_updL (vp_updL X 0 0) 1 0)]) rfl ?_
  refine g_ajC 3 rfl (bu (fun _ => 0)) (by exact bu_00 _) (w2 := [ai E li 24 lf, aj E c 64 (cc N 0), aj E d 64 (cc N 1), aj E q 2 (bu (fun _ => 0))]) rfl ?_
  refine g_aload_n F 1 dL_owned_10 rfl rfl ?_
  refine g_iconst (v := nI 3) F dL_owned_11 (by decide) ?_
  refine g_iload_n F 0 dL_owned_12 rfl rfl ?_
  refine g_imulN F dL_owned_13 ?_
  refine g_iconst (v := nI 1) F dL_owned_14 (by decide) ?_
  refine g_iaddN F dL_owned_15 ?_
  refine g_iald F 0 dL_owned_16 rfl (by omega) (by decide) ?_
  refine g_top (nI (lf ((3 * r) + 1))) (nI b0) (by rw [← hb]) ?_
  refine g_istore (lv2 := [(5, .int (nI b0)), (0, .int (nI r)), (1, .ref li), (2, .ref c), (3, .ref d), (4, .ref q)]) F dL_owned_17 (by decide) rfl ?_
  refine g_aload F 5 dL_owned_19 rfl ?_
  refine g_iload F 0 dL_owned_21 rfl ?_
  refine g_bipush (v := nI 64) F dL_owned_23 (by decide) ?_
  refine g_idivN F dL_owned_25 (by omega) (by decide) (by decide) ?_
  refine g_dup2 F dL_owned_26 rfl rfl ?_
  refine g_jald F 3 dL_owned_27 rfl (by omega) (by decide) ?_
  refine g_lconst (v := 1) F dL_owned_28 (by decide) ?_
  refine g_iload F 0 dL_owned_29 rfl ?_
  refine g_bipush (v := nI 64) F dL_owned_31 (by decide) ?_
  refine g_iremN F dL_owned_33 (by omega) (by decide) (by decide) ?_
  refine g_lshl (v := 1 <<< ((nI (b0 % 64)).toInt64 &&& 63)) F dL_owned_34 (by rfl) ?_
  refine g_lor F dL_owned_35 ?_
  refine g_jast F 3 dL_owned_36 rfl (by omega) (by decide) (w2 := [ai E li 24 lf, aj E c 64 (cc N 0), aj E d 64 (cc N 1), aj E q 2 (vp_updL (bu (fun _ => 0)) (b0 / 64) (((bu (fun _ => 0)) (b0 / 64)) ||| (1 <<< ((nI (b0 % 64)).toInt64 &&& 63))))]) rfl ?_
  refine g_ajC 3 rfl (bu (ad (fun _ => 0) b0)) (by exact bu_ad (by omega)) (w2 := [ai E li 24 lf, aj E c 64 (cc N 0), aj E d 64 (cc N 1), aj E q 2 (bu (ad (fun _ => 0) b0))]) rfl ?_
  refine g_iload F 0 dL_owned_37 rfl ?_
  refine g_iload F 0 dL_owned_39 rfl ?_
  refine g_aload_n F 2 dL_owned_41 rfl rfl ?_
  refine g_iconst (v := nI 3) F dL_owned_42 (by decide) ?_
  refine g_iload_n F 1 dL_owned_43 rfl rfl ?_
  refine g_imulN F dL_owned_44 ?_
  refine g_iconst (v := nI 2) F dL_owned_45 (by decide) ?_
  refine g_iaddN F dL_owned_46 ?_
  refine g_iald F 0 dL_owned_47 rfl (by omega) (by decide) ?_
  refine g_top (nI (lf ((3 * r) + 2))) (nI s0) (by rw [← hs]) ?_
  refine g_aload_n F 3 dL_owned_48 rfl rfl ?_
  refine g_aload_n F 4 dL_owned_49 rfl rfl ?_
  refine g_callSiR (n := 4) F [1, 2] (c_L_from l E c d N b0 s0 (by omega) (by omega) (by assumption) (by assumption)) dL_owned_50 rfl (by decide) rfl rfl rfl (Nat.le_of_ble_eq_true rfl) ⟨Nat.le_of_ble_eq_true rfl, Nat.le_of_ble_eq_true rfl⟩ rfl rfl ⟨Nat.le_of_ble_eq_true rfl, Nat.le_of_ble_eq_true rfl⟩ ggL_owned_L_from (by decide +kernel) (by decide +kernel) (by decide +kernel) (by decide +kernel) (fun r u hp => by obtain ⟨-, h⟩ := hp; exact h) ?_
  rintro r_50 u_50 ⟨rfl, -⟩
  refine g_iconst (v := nI 1) F dL_owned_53 (by decide) ?_
  have kj65 : G Γ E (0) (0) 65 [(5, .int (nI b0)), (0, .int (nI r)), (1, .ref li), (2, .ref c), (3, .ref d), (4, .ref q)] [.long (pkN (ccf N (cf N b0 s0) b0))] [ai E li 24 lf, aj E c 64 (cc N 0), aj E d 64 (cc N 1), aj E q 2 (bu (ad (fun _ => 0) b0))] := by
    refine g_lstore (lv2 := [(6, .long (pkN (ccf N (cf N b0 s0) b0))), (5, .int (nI b0)), (0, .int (nI r)), (1, .ref li), (2, .ref c), (3, .ref d), (4, .ref q)]) F dL_owned_65 (by decide) rfl ?_
    refine g_iconst (v := nI 0) F dL_owned_67 (by decide) ?_
    refine g_istore (lv2 := [(8, .int (nI 0)), (6, .long (pkN (ccf N (cf N b0 s0) b0))), (5, .int (nI b0)), (0, .int (nI r)), (1, .ref li), (2, .ref c), (3, .ref d), (4, .ref q)]) F dL_owned_68 (by decide) rfl ?_
    have loop70 : ∀ (n : Nat) (p : Nat), 4 - p < n → (p ≤ 4) → G Γ E (0) (0) 70 [(0, .int (nI r)), (1, .ref li), (2, .ref c), (3, .ref d), (4, .ref q), (5, .int (nI b0)), (6, .long (pkN (ccf N (cf N b0 s0) b0))), (8, .int (nI p))] [] [ai E li 24 lf, aj E c 64 (cc N 0), aj E d 64 (cc N 1), aj E q 2 (bu (ab4 N (cf N b0 s0) b0 (ad (fun _ => 0) b0) p))] := by
      intro n
      induction n with
      | zero => intro p hz; exact absurd hz (Nat.not_lt_zero _)
      | succ n ih70 =>
        intro p hz70 hp
        refine g_iload F 7 dL_owned_70 rfl ?_
        refine g_iconst (v := nI 4) F dL_owned_72 (by decide) ?_
        refine g_icmp_geN (tgt := 221) F dL_owned_73 (by decide) (by omega) (by omega) (fun c73 => ?_) (fun c73 => ?_)
        · skip
          exact hret _ _ _ dL_owned_221 (by rw [show p = 4 by omega]; rfl)
        · skip
          refine g_lload F 6 dL_owned_76 rfl ?_
          refine g_iload F 7 dL_owned_78 rfl ?_
          refine g_callSiR (n := 2) F [] (c_L_number l E (ccf N (cf N b0 s0) b0) p (by exact ccf_lt hN _ _) (by omega)) dL_owned_80 rfl (by decide) rfl rfl rfl (Nat.le_of_ble_eq_true rfl) ⟨Nat.le_of_ble_eq_true rfl, Nat.le_of_ble_eq_true rfl⟩ rfl rfl ⟨Nat.le_of_ble_eq_true rfl, Nat.le_of_ble_eq_true rfl⟩ ggL_owned_L_number (by decide +kernel) (by decide +kernel) (by decide +kernel) (by decide +kernel) (fun r u hp => by obtain ⟨-, h⟩ := hp; exact h) ?_
          rintro r_80 u_80 ⟨rfl, -⟩
          refine g_top (nI ((ccf N (cf N b0 s0) b0) p)) (nI (nu N (cf N b0 s0) b0 p)) (by rfl) ?_
          have hn1 : (nu N (cf N b0 s0) b0 p) < 65536 := hN _
          refine g_istore (lv2 := [(9, .int (nI (nu N (cf N b0 s0) b0 p))), (0, .int (nI r)), (1, .ref li), (2, .ref c), (3, .ref d), (4, .ref q), (5, .int (nI b0)), (6, .long (pkN (ccf N (cf N b0 s0) b0))), (8, .int (nI p))]) F dL_owned_83 (by decide) rfl ?_
          refine g_iload F 0 dL_owned_85 rfl ?_
          refine g_sipush (v := nI 256) F dL_owned_87 (by decide) ?_
          refine g_idivN F dL_owned_90 (by omega) (by decide) (by decide) ?_
          refine g_bipush (v := nI 95) F dL_owned_91 (by decide) ?_
          refine g_icmp_leN (tgt := 99) F dL_owned_93 (by decide) (by omega) (by omega) (fun c93 => ?_) (fun c93 => ?_)
          · skip
            refine g_aload F 5 dL_owned_99 rfl ?_
            refine g_iload F 0 dL_owned_101 rfl ?_
            refine g_sipush (v := nI 256) F dL_owned_103 (by decide) ?_
            refine g_idivN F dL_owned_106 (by omega) (by decide) (by decide) ?_
            refine g_bipush (v := nI 64) F dL_owned_107 (by decide) ?_
            refine g_idivN F dL_owned_109 (by omega) (by decide) (by decide) ?_
            refine g_dup2 F dL_owned_110 rfl rfl ?_
            refine g_jald F 3 dL_owned_111 rfl (by omega) (by decide) ?_
            refine g_lconst (v := 1) F dL_owned_112 (by decide) ?_
            refine g_iload F 0 dL_owned_113 rfl ?_
            refine g_sipush (v := nI 256) F dL_owned_115 (by decide) ?_
            refine g_idivN F dL_owned_118 (by omega) (by decide) (by decide) ?_
            refine g_bipush (v := nI 64) F dL_owned_119 (by decide) ?_
            refine g_iremN F dL_owned_121 (by omega) (by decide) (by decide) ?_
            refine g_lshl (v := 1 <<< ((nI (((nu N (cf N b0 s0) b0 p) / 256) % 64)).toInt64 &&& 63)) F dL_owned_122 (by rfl) ?_
            refine g_lor F dL_owned_123 ?_
            refine g_jast F 3 dL_owned_124 rfl (by omega) (by decide) (w2 := [ai E li 24 lf, aj E c 64 (cc N 0), aj E d 64 (cc N 1), aj E q 2 (vp_updL (bu (ab4 N (cf N b0 s0) b0 (ad (fun _ => 0) b0) p)) (((nu N (cf N b0 s0) b0 p) / 256) / 64) (((bu (ab4 N (cf N b0 s0) b0 (ad (fun _ => 0) b0) p)) (((nu N (cf N b0 s0) b0 p) / 256) / 64)) ||| (1 <<< ((nI (((nu N (cf N b0 s0) b0 p) / 256) % 64)).toInt64 &&& 63))))]) rfl ?_
            refine g_ajC 3 rfl (bu (ad (ab4 N (cf N b0 s0) b0 (ad (fun _ => 0) b0) p) ((nu N (cf N b0 s0) b0 p) / 256))) (by exact bu_ad (by omega)) (w2 := [ai E li 24 lf, aj E c 64 (cc N 0), aj E d 64 (cc N 1), aj E q 2 (bu (ad (ab4 N (cf N b0 s0) b0 (ad (fun _ => 0) b0) p) ((nu N (cf N b0 s0) b0 p) / 256)))]) rfl ?_
            refine g_iload F 0 dL_owned_125 rfl ?_
            refine g_sipush (v := nI 256) F dL_owned_127 (by decide) ?_
            refine g_idivN F dL_owned_130 (by omega) (by decide) (by decide) ?_
            refine g_iload F 0 dL_owned_131 rfl ?_
            refine g_sipush (v := nI 256) F dL_owned_133 (by decide) ?_
            refine g_idivN F dL_owned_136 (by omega) (by decide) (by decide) ?_
            refine g_iload F 0 dL_owned_137 rfl ?_
            refine g_sipush (v := nI 256) F dL_owned_139 (by decide) ?_
            refine g_iremN F dL_owned_142 (by omega) (by decide) (by decide) ?_
            refine g_aload_n F 3 dL_owned_143 rfl rfl ?_
            refine g_aload_n F 4 dL_owned_144 rfl rfl ?_
            refine g_callSiR (n := 4) F [1, 2] (c_L_from l E c d N ((nu N (cf N b0 s0) b0 p) / 256) ((nu N (cf N b0 s0) b0 p) % 256) (by omega) (by omega) (by assumption) (by assumption)) dL_owned_145 rfl (by decide) rfl rfl rfl (Nat.le_of_ble_eq_true rfl) ⟨Nat.le_of_ble_eq_true rfl, Nat.le_of_ble_eq_true rfl⟩ rfl rfl ⟨Nat.le_of_ble_eq_true rfl, Nat.le_of_ble_eq_true rfl⟩ ggL_owned_L_from (by decide +kernel) (by decide +kernel) (by decide +kernel) (by decide +kernel) (fun r u hp => by obtain ⟨-, h⟩ := hp; exact h) ?_
            rintro r_145 u_145 ⟨rfl, -⟩
            refine g_iconst (v := nI 1) F dL_owned_148 (by decide) ?_
            have kj160 : G Γ E (0) (0) 160 [(9, .int (nI (nu N (cf N b0 s0) b0 p))), (0, .int (nI r)), (1, .ref li), (2, .ref c), (3, .ref d), (4, .ref q), (5, .int (nI b0)), (6, .long (pkN (ccf N (cf N b0 s0) b0))), (8, .int (nI p))] [.long (pkN (ccf N (cf N ((nu N (cf N b0 s0) b0 p) / 256) ((nu N (cf N b0 s0) b0 p) % 256)) ((nu N (cf N b0 s0) b0 p) / 256)))] [ai E li 24 lf, aj E c 64 (cc N 0), aj E d 64 (cc N 1), aj E q 2 (bu (ad (ab4 N (cf N b0 s0) b0 (ad (fun _ => 0) b0) p) ((nu N (cf N b0 s0) b0 p) / 256)))] := by
              refine g_lstore (lv2 := [(10, .long (pkN (ccf N (cf N ((nu N (cf N b0 s0) b0 p) / 256) ((nu N (cf N b0 s0) b0 p) % 256)) ((nu N (cf N b0 s0) b0 p) / 256)))), (9, .int (nI (nu N (cf N b0 s0) b0 p))), (0, .int (nI r)), (1, .ref li), (2, .ref c), (3, .ref d), (4, .ref q), (5, .int (nI b0)), (6, .long (pkN (ccf N (cf N b0 s0) b0))), (8, .int (nI p))]) F dL_owned_160 (by decide) rfl ?_
              refine g_iconst (v := nI 0) F dL_owned_162 (by decide) ?_
              refine g_istore (lv2 := [(12, .int (nI 0)), (10, .long (pkN (ccf N (cf N ((nu N (cf N b0 s0) b0 p) / 256) ((nu N (cf N b0 s0) b0 p) % 256)) ((nu N (cf N b0 s0) b0 p) / 256)))), (9, .int (nI (nu N (cf N b0 s0) b0 p))), (0, .int (nI r)), (1, .ref li), (2, .ref c), (3, .ref d), (4, .ref q), (5, .int (nI b0)), (6, .long (pkN (ccf N (cf N b0 s0) b0))), (8, .int (nI p))]) F dL_owned_163 (by decide) rfl ?_
              have loop165 : ∀ (n : Nat) (k : Nat), 4 - k < n → (k ≤ 4) → G Γ E (0) (0) 165 [(0, .int (nI r)), (1, .ref li), (2, .ref c), (3, .ref d), (4, .ref q), (5, .int (nI b0)), (6, .long (pkN (ccf N (cf N b0 s0) b0))), (8, .int (nI p)), (9, .int (nI (nu N (cf N b0 s0) b0 p))), (10, .long (pkN (ccf N (cf N ((nu N (cf N b0 s0) b0 p) / 256) ((nu N (cf N b0 s0) b0 p) % 256)) ((nu N (cf N b0 s0) b0 p) / 256)))), (12, .int (nI k))] [] [ai E li 24 lf, aj E c 64 (cc N 0), aj E d 64 (cc N 1), aj E q 2 (bu (ad4 N (cf N ((nu N (cf N b0 s0) b0 p) / 256) ((nu N (cf N b0 s0) b0 p) % 256)) ((nu N (cf N b0 s0) b0 p) / 256) (ad (ab4 N (cf N b0 s0) b0 (ad (fun _ => 0) b0) p) ((nu N (cf N b0 s0) b0 p) / 256)) k))] := by
                intro n
                induction n with
                | zero => intro k hz; exact absurd hz (Nat.not_lt_zero _)
                | succ n ih165 =>
                  intro k hz165 hk
                  refine g_iload F 10 dL_owned_165 rfl ?_
                  refine g_iconst (v := nI 4) F dL_owned_167 (by decide) ?_
                  refine g_icmp_geN (tgt := 215) F dL_owned_168 (by decide) (by omega) (by omega) (fun c168 => ?_) (fun c168 => ?_)
                  · skip
                    refine g_iinc (k := 7) (v := nI (p + 1)) (lv2 := [(8, .int (nI (p + 1))), (0, .int (nI r)), (1, .ref li), (2, .ref c), (3, .ref d), (4, .ref q), (5, .int (nI b0)), (6, .long (pkN (ccf N (cf N b0 s0) b0))), (9, .int (nI (nu N (cf N b0 s0) b0 p))), (10, .long (pkN (ccf N (cf N ((nu N (cf N b0 s0) b0 p) / 256) ((nu N (cf N b0 s0) b0 p) % 256)) ((nu N (cf N b0 s0) b0 p) / 256)))), (12, .int (nI k))]) F dL_owned_215 rfl (nI_1 _) (by decide) rfl ?_
                    refine g_goto (tgt := 70) F dL_owned_218 (by decide) ?_
                    refine g_ajC 3 rfl (bu (ab4 N (cf N b0 s0) b0 (ad (fun _ => 0) b0) (p + 1))) (by intro j hj; rw [show ab4 N (cf N b0 s0) b0 (ad (fun _ => 0) b0) (p + 1) = ap N (nu N (cf N b0 s0) b0 p) (ab4 N (cf N b0 s0) b0 (ad (fun _ => 0) b0) p) from rfl, show ap N (nu N (cf N b0 s0) b0 p) (ab4 N (cf N b0 s0) b0 (ad (fun _ => 0) b0) p) = ad4 N (cf N ((nu N (cf N b0 s0) b0 p) / 256) ((nu N (cf N b0 s0) b0 p) % 256)) ((nu N (cf N b0 s0) b0 p) / 256) (ad (ab4 N (cf N b0 s0) b0 (ad (fun _ => 0) b0) p) ((nu N (cf N b0 s0) b0 p) / 256)) 4 from if_pos (by omega), show k = 4 by omega]) (w2 := [ai E li 24 lf, aj E c 64 (cc N 0), aj E d 64 (cc N 1), aj E q 2 (bu (ab4 N (cf N b0 s0) b0 (ad (fun _ => 0) b0) (p + 1)))]) rfl ?_
                    refine g_lv [1, 2, 3, 4, 5, 6, 7, 0] rfl ?_
                    exact ih70 (p + 1) (by omega) (by omega)
                  · skip
                    refine g_lload F 9 dL_owned_171 rfl ?_
                    refine g_iload F 10 dL_owned_173 rfl ?_
                    refine g_callSiR (n := 2) F [] (c_L_number l E (ccf N (cf N ((nu N (cf N b0 s0) b0 p) / 256) ((nu N (cf N b0 s0) b0 p) % 256)) ((nu N (cf N b0 s0) b0 p) / 256)) k (by exact ccf_lt hN _ _) (by omega)) dL_owned_175 rfl (by decide) rfl rfl rfl (Nat.le_of_ble_eq_true rfl) ⟨Nat.le_of_ble_eq_true rfl, Nat.le_of_ble_eq_true rfl⟩ rfl rfl ⟨Nat.le_of_ble_eq_true rfl, Nat.le_of_ble_eq_true rfl⟩ ggL_owned_L_number (by decide +kernel) (by decide +kernel) (by decide +kernel) (by decide +kernel) (fun r u hp => by obtain ⟨-, h⟩ := hp; exact h) ?_
                    rintro r_175 u_175 ⟨rfl, -⟩
                    refine g_top (nI ((ccf N (cf N ((nu N (cf N b0 s0) b0 p) / 256) ((nu N (cf N b0 s0) b0 p) % 256)) ((nu N (cf N b0 s0) b0 p) / 256)) k)) (nI (nu N (cf N ((nu N (cf N b0 s0) b0 p) / 256) ((nu N (cf N b0 s0) b0 p) % 256)) ((nu N (cf N b0 s0) b0 p) / 256) k)) (by rfl) ?_
                    have hn2 : nu N (cf N ((nu N (cf N b0 s0) b0 p) / 256) ((nu N (cf N b0 s0) b0 p) % 256)) ((nu N (cf N b0 s0) b0 p) / 256) k < 65536 := hN _
                    refine g_sipush (v := nI 256) F dL_owned_178 (by decide) ?_
                    refine g_idivN F dL_owned_181 (by omega) (by decide) (by decide) ?_
                    refine g_istore (lv2 := [(13, .int (nI ((nu N (cf N ((nu N (cf N b0 s0) b0 p) / 256) ((nu N (cf N b0 s0) b0 p) % 256)) ((nu N (cf N b0 s0) b0 p) / 256) k) / 256))), (0, .int (nI r)), (1, .ref li), (2, .ref c), (3, .ref d), (4, .ref q), (5, .int (nI b0)), (6, .long (pkN (ccf N (cf N b0 s0) b0))), (8, .int (nI p)), (9, .int (nI (nu N (cf N b0 s0) b0 p))), (10, .long (pkN (ccf N (cf N ((nu N (cf N b0 s0) b0 p) / 256) ((nu N (cf N b0 s0) b0 p) % 256)) ((nu N (cf N b0 s0) b0 p) / 256)))), (12, .int (nI k))]) F dL_owned_182 (by decide) rfl ?_
                    refine g_iload F 0 dL_owned_184 rfl ?_
                    refine g_bipush (v := nI 96) F dL_owned_186 (by decide) ?_
                    refine g_icmp_geN (tgt := 209) F dL_owned_188 (by decide) (by omega) (by omega) (fun c188 => ?_) (fun c188 => ?_)
                    · skip
                      refine g_iinc (k := 11) (v := nI (k + 1)) (lv2 := [(12, .int (nI (k + 1))), (13, .int (nI ((nu N (cf N ((nu N (cf N b0 s0) b0 p) / 256) ((nu N (cf N b0 s0) b0 p) % 256)) ((nu N (cf N b0 s0) b0 p) / 256) k) / 256))), (0, .int (nI r)), (1, .ref li), (2, .ref c), (3, .ref d), (4, .ref q), (5, .int (nI b0)), (6, .long (pkN (ccf N (cf N b0 s0) b0))), (8, .int (nI p)), (9, .int (nI (nu N (cf N b0 s0) b0 p))), (10, .long (pkN (ccf N (cf N ((nu N (cf N b0 s0) b0 p) / 256) ((nu N (cf N b0 s0) b0 p) % 256)) ((nu N (cf N b0 s0) b0 p) / 256))))]) F dL_owned_209 rfl (nI_1 _) (by decide) rfl ?_
                      refine g_goto (tgt := 165) F dL_owned_212 (by decide) ?_
                      refine g_ajC 3 rfl (bu (ad4 N (cf N ((nu N (cf N b0 s0) b0 p) / 256) ((nu N (cf N b0 s0) b0 p) % 256)) ((nu N (cf N b0 s0) b0 p) / 256) (ad (ab4 N (cf N b0 s0) b0 (ad (fun _ => 0) b0) p) ((nu N (cf N b0 s0) b0 p) / 256)) (k + 1))) (by intro j hj; exact congrFun (congrArg bu (show _ = ad _ _ from (if_neg (by omega)).symm)) j) (w2 := [ai E li 24 lf, aj E c 64 (cc N 0), aj E d 64 (cc N 1), aj E q 2 (bu (ad4 N (cf N ((nu N (cf N b0 s0) b0 p) / 256) ((nu N (cf N b0 s0) b0 p) % 256)) ((nu N (cf N b0 s0) b0 p) / 256) (ad (ab4 N (cf N b0 s0) b0 (ad (fun _ => 0) b0) p) ((nu N (cf N b0 s0) b0 p) / 256)) (k + 1)))]) rfl ?_
                      refine g_lv [2, 3, 4, 5, 6, 7, 8, 9, 10, 11, 0] rfl ?_
                      exact ih165 (k + 1) (by omega) (by omega)
                    · skip
                      refine g_aload F 5 dL_owned_191 rfl ?_
                      refine g_iload F 0 dL_owned_193 rfl ?_
                      refine g_bipush (v := nI 64) F dL_owned_195 (by decide) ?_
                      refine g_idivN F dL_owned_197 (by omega) (by decide) (by decide) ?_
                      refine g_dup2 F dL_owned_198 rfl rfl ?_
                      refine g_jald F 3 dL_owned_199 rfl (by omega) (by decide) ?_
                      refine g_lconst (v := 1) F dL_owned_200 (by decide) ?_
                      refine g_iload F 0 dL_owned_201 rfl ?_
                      refine g_bipush (v := nI 64) F dL_owned_203 (by decide) ?_
                      refine g_iremN F dL_owned_205 (by omega) (by decide) (by decide) ?_
                      refine g_lshl (v := 1 <<< ((nI (((nu N (cf N ((nu N (cf N b0 s0) b0 p) / 256) ((nu N (cf N b0 s0) b0 p) % 256)) ((nu N (cf N b0 s0) b0 p) / 256) k) / 256) % 64)).toInt64 &&& 63)) F dL_owned_206 (by rfl) ?_
                      refine g_lor F dL_owned_207 ?_
                      refine g_jast F 3 dL_owned_208 rfl (by omega) (by decide) (w2 := [ai E li 24 lf, aj E c 64 (cc N 0), aj E d 64 (cc N 1), aj E q 2 (vp_updL (bu (ad4 N (cf N ((nu N (cf N b0 s0) b0 p) / 256) ((nu N (cf N b0 s0) b0 p) % 256)) ((nu N (cf N b0 s0) b0 p) / 256) (ad (ab4 N (cf N b0 s0) b0 (ad (fun _ => 0) b0) p) ((nu N (cf N b0 s0) b0 p) / 256)) k)) (((nu N (cf N ((nu N (cf N b0 s0) b0 p) / 256) ((nu N (cf N b0 s0) b0 p) % 256)) ((nu N (cf N b0 s0) b0 p) / 256) k) / 256) / 64) (((bu (ad4 N (cf N ((nu N (cf N b0 s0) b0 p) / 256) ((nu N (cf N b0 s0) b0 p) % 256)) ((nu N (cf N b0 s0) b0 p) / 256) (ad (ab4 N (cf N b0 s0) b0 (ad (fun _ => 0) b0) p) ((nu N (cf N b0 s0) b0 p) / 256)) k)) (((nu N (cf N ((nu N (cf N b0 s0) b0 p) / 256) ((nu N (cf N b0 s0) b0 p) % 256)) ((nu N (cf N b0 s0) b0 p) / 256) k) / 256) / 64)) ||| (1 <<< ((nI (((nu N (cf N ((nu N (cf N b0 s0) b0 p) / 256) ((nu N (cf N b0 s0) b0 p) % 256)) ((nu N (cf N b0 s0) b0 p) / 256) k) / 256) % 64)).toInt64 &&& 63))))]) rfl ?_
                      refine g_iinc (k := 11) (v := nI (k + 1)) (lv2 := [(12, .int (nI (k + 1))), (13, .int (nI ((nu N (cf N ((nu N (cf N b0 s0) b0 p) / 256) ((nu N (cf N b0 s0) b0 p) % 256)) ((nu N (cf N b0 s0) b0 p) / 256) k) / 256))), (0, .int (nI r)), (1, .ref li), (2, .ref c), (3, .ref d), (4, .ref q), (5, .int (nI b0)), (6, .long (pkN (ccf N (cf N b0 s0) b0))), (8, .int (nI p)), (9, .int (nI (nu N (cf N b0 s0) b0 p))), (10, .long (pkN (ccf N (cf N ((nu N (cf N b0 s0) b0 p) / 256) ((nu N (cf N b0 s0) b0 p) % 256)) ((nu N (cf N b0 s0) b0 p) / 256))))]) F dL_owned_209 rfl (nI_1 _) (by decide) rfl ?_
                      refine g_goto (tgt := 165) F dL_owned_212 (by decide) ?_
                      refine g_ajC 3 rfl (bu (ad4 N (cf N ((nu N (cf N b0 s0) b0 p) / 256) ((nu N (cf N b0 s0) b0 p) % 256)) ((nu N (cf N b0 s0) b0 p) / 256) (ad (ab4 N (cf N b0 s0) b0 (ad (fun _ => 0) b0) p) ((nu N (cf N b0 s0) b0 p) / 256)) (k + 1))) (by exact bu_ad (by omega)) (w2 := [ai E li 24 lf, aj E c 64 (cc N 0), aj E d 64 (cc N 1), aj E q 2 (bu (ad4 N (cf N ((nu N (cf N b0 s0) b0 p) / 256) ((nu N (cf N b0 s0) b0 p) % 256)) ((nu N (cf N b0 s0) b0 p) / 256) (ad (ab4 N (cf N b0 s0) b0 (ad (fun _ => 0) b0) p) ((nu N (cf N b0 s0) b0 p) / 256)) (k + 1)))]) rfl ?_
                      refine g_lv [2, 3, 4, 5, 6, 7, 8, 9, 10, 11, 0] rfl ?_
                      exact ih165 (k + 1) (by omega) (by omega)
              refine g_ajC 3 rfl (bu (ad4 N (cf N ((nu N (cf N b0 s0) b0 p) / 256) ((nu N (cf N b0 s0) b0 p) % 256)) ((nu N (cf N b0 s0) b0 p) / 256) (ad (ab4 N (cf N b0 s0) b0 (ad (fun _ => 0) b0) p) ((nu N (cf N b0 s0) b0 p) / 256)) 0)) (by intro j hj; rfl) (w2 := [ai E li 24 lf, aj E c 64 (cc N 0), aj E d 64 (cc N 1), aj E q 2 (bu (ad4 N (cf N ((nu N (cf N b0 s0) b0 p) / 256) ((nu N (cf N b0 s0) b0 p) % 256)) ((nu N (cf N b0 s0) b0 p) / 256) (ad (ab4 N (cf N b0 s0) b0 (ad (fun _ => 0) b0) p) ((nu N (cf N b0 s0) b0 p) / 256)) 0))]) rfl ?_
              refine g_lv [3, 4, 5, 6, 7, 8, 9, 10, 2, 1, 0] rfl ?_
              exact loop165 ((4 - 0) + 1) 0 (Nat.lt_succ_self _) (by omega)
            have ht1 := tk_le N ((nu N (cf N b0 s0) b0 p) / 256) ((nu N (cf N b0 s0) b0 p) % 256)
            refine g_icmp_neN (tgt := 156) F dL_owned_149 (by decide) (by omega) (by omega) (fun c149 => ?_) (fun c149 => ?_)
            · skip
              refine g_aload_n F 3 dL_owned_156 rfl rfl ?_
              refine g_callSjR (n := 2) F [1] (c_L_content l E c N 0 ((nu N (cf N b0 s0) b0 p) / 256) (by decide) (by omega) (by assumption)) dL_owned_157 rfl (by decide) rfl rfl rfl (Nat.le_of_ble_eq_true rfl) ⟨Nat.le_of_ble_eq_true rfl, Nat.le_of_ble_eq_true rfl⟩ rfl rfl ⟨Nat.le_of_ble_eq_true rfl, Nat.le_of_ble_eq_true rfl⟩ ggL_owned_L_content (by decide +kernel) (by decide +kernel) (by decide +kernel) (by decide +kernel) (fun r u hp => by obtain ⟨-, h⟩ := hp; exact h) ?_
              rintro r_157 u_157 ⟨rfl, -⟩
              refine g_topJ (pkN (ccf N 0 ((nu N (cf N b0 s0) b0 p) / 256))) (pkN (ccf N (cf N ((nu N (cf N b0 s0) b0 p) / 256) ((nu N (cf N b0 s0) b0 p) % 256)) ((nu N (cf N b0 s0) b0 p) / 256))) (by rw [cf_of c149]) ?_
              exact kj160
            · skip
              refine g_aload_n F 4 dL_owned_152 rfl rfl ?_
              refine g_goto (tgt := 157) F dL_owned_153 (by decide) ?_
              refine g_callSjR (n := 2) F [2] (c_L_content l E d N 1 ((nu N (cf N b0 s0) b0 p) / 256) (by decide) (by omega) (by assumption)) dL_owned_157 rfl (by decide) rfl rfl rfl (Nat.le_of_ble_eq_true rfl) ⟨Nat.le_of_ble_eq_true rfl, Nat.le_of_ble_eq_true rfl⟩ rfl rfl ⟨Nat.le_of_ble_eq_true rfl, Nat.le_of_ble_eq_true rfl⟩ ggL_owned_L_content (by decide +kernel) (by decide +kernel) (by decide +kernel) (by decide +kernel) (fun r u hp => by obtain ⟨-, h⟩ := hp; exact h) ?_
              rintro r_157 u_157 ⟨rfl, -⟩
              refine g_topJ (pkN (ccf N 1 ((nu N (cf N b0 s0) b0 p) / 256))) (pkN (ccf N (cf N ((nu N (cf N b0 s0) b0 p) / 256) ((nu N (cf N b0 s0) b0 p) % 256)) ((nu N (cf N b0 s0) b0 p) / 256))) (by rw [cf_1 c149]) ?_
              exact kj160
          · skip
            refine g_goto (tgt := 215) F dL_owned_96 (by decide) ?_
            refine g_iinc (k := 8) (v := nI (p + 1)) (lv2 := [(8, .int (nI (p + 1))), (9, .int (nI (nu N (cf N b0 s0) b0 p))), (0, .int (nI r)), (1, .ref li), (2, .ref c), (3, .ref d), (4, .ref q), (5, .int (nI b0)), (6, .long (pkN (ccf N (cf N b0 s0) b0)))]) F dL_owned_215 rfl (nI_1 _) (by decide) rfl ?_
            refine g_goto (tgt := 70) F dL_owned_218 (by decide) ?_
            refine g_ajC 3 rfl (bu (ab4 N (cf N b0 s0) b0 (ad (fun _ => 0) b0) (p + 1))) (by intro j hj; rw [show ab4 N (cf N b0 s0) b0 (ad (fun _ => 0) b0) (p + 1) = ap N (nu N (cf N b0 s0) b0 p) (ab4 N (cf N b0 s0) b0 (ad (fun _ => 0) b0) p) from rfl, show ap N (nu N (cf N b0 s0) b0 p) (ab4 N (cf N b0 s0) b0 (ad (fun _ => 0) b0) p) = ab4 N (cf N b0 s0) b0 (ad (fun _ => 0) b0) p from if_neg (by omega)]) (w2 := [ai E li 24 lf, aj E c 64 (cc N 0), aj E d 64 (cc N 1), aj E q 2 (bu (ab4 N (cf N b0 s0) b0 (ad (fun _ => 0) b0) (p + 1)))]) rfl ?_
            refine g_lv [2, 3, 4, 5, 6, 7, 8, 0] rfl ?_
            exact ih70 (p + 1) (by omega) (by omega)
    refine g_ajC 3 rfl (bu (ab4 N (cf N b0 s0) b0 (ad (fun _ => 0) b0) 0)) (by intro j hj; rfl) (w2 := [ai E li 24 lf, aj E c 64 (cc N 0), aj E d 64 (cc N 1), aj E q 2 (bu (ab4 N (cf N b0 s0) b0 (ad (fun _ => 0) b0) 0))]) rfl ?_
    refine g_lv [3, 4, 5, 6, 7, 2, 1, 0] rfl ?_
    exact loop70 ((4 - 0) + 1) 0 (Nat.lt_succ_self _) (by omega)
  have ht0 := tk_le N b0 s0
  refine g_icmp_neN (tgt := 61) F dL_owned_54 (by decide) (by omega) (by omega) (fun c54 => ?_) (fun c54 => ?_)
  · skip
    refine g_aload_n F 3 dL_owned_61 rfl rfl ?_
    refine g_callSjR (n := 2) F [1] (c_L_content l E c N 0 b0 (by decide) (by omega) (by assumption)) dL_owned_62 rfl (by decide) rfl rfl rfl (Nat.le_of_ble_eq_true rfl) ⟨Nat.le_of_ble_eq_true rfl, Nat.le_of_ble_eq_true rfl⟩ rfl rfl ⟨Nat.le_of_ble_eq_true rfl, Nat.le_of_ble_eq_true rfl⟩ ggL_owned_L_content (by decide +kernel) (by decide +kernel) (by decide +kernel) (by decide +kernel) (fun r u hp => by obtain ⟨-, h⟩ := hp; exact h) ?_
    rintro r_62 u_62 ⟨rfl, -⟩
    refine g_topJ (pkN (ccf N 0 b0)) (pkN (ccf N (cf N b0 s0) b0)) (by rw [cf_of c54]) ?_
    exact kj65
  · skip
    refine g_aload_n F 4 dL_owned_57 rfl rfl ?_
    refine g_goto (tgt := 62) F dL_owned_58 (by decide) ?_
    refine g_callSjR (n := 2) F [2] (c_L_content l E d N 1 b0 (by decide) (by omega) (by assumption)) dL_owned_62 rfl (by decide) rfl rfl rfl (Nat.le_of_ble_eq_true rfl) ⟨Nat.le_of_ble_eq_true rfl, Nat.le_of_ble_eq_true rfl⟩ rfl rfl ⟨Nat.le_of_ble_eq_true rfl, Nat.le_of_ble_eq_true rfl⟩ ggL_owned_L_content (by decide +kernel) (by decide +kernel) (by decide +kernel) (by decide +kernel) (fun r u hp => by obtain ⟨-, h⟩ := hp; exact h) ?_
    rintro r_62 u_62 ⟨rfl, -⟩
    refine g_topJ (pkN (ccf N 1 b0)) (pkN (ccf N (cf N b0 s0) b0)) (by rw [cf_1 c54]) ?_
    exact kj65
set_option maxHeartbeats 4000000 in
set_option maxRecDepth 100000 in
theorem c_L_letGo (l : Launch) (E : En) (li : Nat) (c : Nat) (d : Nat) (N : Nat → Nat) (lf : Nat → Nat) (qq : Nat) (us : Nat) (q : Nat) (al_ : Nat) (Q : Nat → Nat) (U : Nat → Nat) (X : Nat → Int64) (Y : Nat → Int64) (rb : Nat → Nat) (rs : Nat → Nat) (z : Nat) (hQ : Q 0 = z) (hz : z ≤ 8) (hN : BN N) (hZ : ZB N) (hli : ∀ i : Nat, i < z → lf (3 * i + 1) = rb i ∧ lf (3 * i + 2) = rs i ∧ rb i < 64 ∧ rs i < 65536) : CtI l yL_letGo wsL_letGo ({ frames := 4, cells := 0, slots := 0, locals := 99 } : Room) E [.ref qq, .ref li, .ref us, .ref c, .ref d, .ref q, .ref al_] [ai E qq 4 Q, ai E li 24 lf, aj E c 64 (cc N 0), aj E d 64 (cc N 1), aj E us 2 (bu U), aj E q 2 X, aj E al_ 2 Y] (fun rr uu => ∃ (X2 : Nat → Int64), ∃ (Y2 : Nat → Int64), rr = (nI (cw U (su N rb rs z) 96)) ∧ uu = [ai E qq 4 Q, ai E li 24 lf, aj E c 64 (cc N 0), aj E d 64 (cc N 1), aj E us 2 (bu (su N rb rs z)), aj E q 2 X2, aj E al_ 2 Y2]) := by
  refine CtI.of cL_letGo 8 RL .int rfl (by decide) rfl (Or.inl rfl) (Nat.le_of_ble_eq_true rfl) (fun h => by cases h) ?_
  intro Γ F hret
  show G Γ E 0 0 0 [(0, .ref qq), (1, .ref li), (2, .ref us), (3, .ref c), (4, .ref d), (5, .ref q), (6, .ref al_)] [] [ai E qq 4 Q, ai E li 24 lf, aj E c 64 (cc N 0), aj E d 64 (cc N 1), aj E us 2 (bu U), aj E q 2 X, aj E al_ 2 Y]
  refine g_aload F 6 dL_letGo_0 rfl ?_
  refine g_iconst (v := nI 0) F dL_letGo_2 (by decide) ?_
  refine g_lconst (v := 0) F dL_letGo_3 (by decide) ?_
  refine g_jast F 6 dL_letGo_4 rfl (by omega) (by decide) (w2 := [ai E qq 4 Q, ai E li 24 lf, aj E c 64 (cc N 0), aj E d 64 (cc N 1), aj E us 2 (bu U), aj E q 2 X, aj E al_ 2 (vp_updL Y 0 0)]) rfl ?_
  refine g_aload F 6 dL_letGo_5 rfl ?_
  refine g_iconst (v := nI 1) F dL_letGo_7 (by decide) ?_
  refine g_lconst (v := 0) F dL_letGo_8 (by decide) ?_
  refine g_jast F 6 dL_letGo_9 rfl (by omega) (by decide) (w2 := [ai E qq 4 Q, ai E li 24 lf, aj E c 64 (cc N 0), aj E d 64 (cc N 1), aj E us 2 (bu U), aj E q 2 X, aj E al_ 2 (vp_updL (vp_updL Y 0 0) 1 0)]) rfl ?_
  refine g_ajC 6 rfl (bu (fun _ => 0)) (by exact bu_00 _) (w2 := [ai E qq 4 Q, ai E li 24 lf, aj E c 64 (cc N 0), aj E d 64 (cc N 1), aj E us 2 (bu U), aj E q 2 X, aj E al_ 2 (bu (fun _ => 0))]) rfl ?_
  refine g_iconst (v := nI 0) F dL_letGo_10 (by decide) ?_
  refine g_istore (lv2 := [(7, .int (nI 0)), (0, .ref qq), (1, .ref li), (2, .ref us), (3, .ref c), (4, .ref d), (5, .ref q), (6, .ref al_)]) F dL_letGo_11 (by decide) rfl ?_
  have loop13 : ∀ (n : Nat) (i : Nat) (X3 : Nat → Int64), z - i < n → (i ≤ z) → G Γ E (0) (0) 13 [(0, .ref qq), (1, .ref li), (2, .ref us), (3, .ref c), (4, .ref d), (5, .ref q), (6, .ref al_), (7, .int (nI i))] [] [ai E qq 4 Q, ai E li 24 lf, aj E c 64 (cc N 0), aj E d 64 (cc N 1), aj E us 2 (bu U), aj E q 2 X3, aj E al_ 2 (bu (su N rb rs i))] := by
    intro n
    induction n with
    | zero => intro i X3 hz; exact absurd hz (Nat.not_lt_zero _)
    | succ n ih13 =>
      intro i X3 hz13 hi
      refine g_iload F 7 dL_letGo_13 rfl ?_
      refine g_aload_n F 0 dL_letGo_15 rfl rfl ?_
      refine g_iconst (v := nI 0) F dL_letGo_16 (by decide) ?_
      refine g_iald F 0 dL_letGo_17 rfl (by omega) (by decide) ?_
      refine g_top (nI (Q 0)) (nI z) (by rw [hQ]) ?_
      refine g_icmp_geN (tgt := 60) F dL_letGo_18 (by decide) (by omega) (by omega) (fun c18 => ?_) (fun c18 => ?_)
      · skip
        refine g_ajC 6 rfl (bu (su N rb rs z)) (by intro j hj; rw [show i = z by omega]) (w2 := [ai E qq 4 Q, ai E li 24 lf, aj E c 64 (cc N 0), aj E d 64 (cc N 1), aj E us 2 (bu U), aj E q 2 X3, aj E al_ 2 (bu (su N rb rs z))]) rfl ?_
        refine g_aload F 5 dL_letGo_60 rfl ?_
        refine g_iconst (v := nI 0) F dL_letGo_62 (by decide) ?_
        refine g_aload_n F 2 dL_letGo_63 rfl rfl ?_
        refine g_iconst (v := nI 0) F dL_letGo_64 (by decide) ?_
        refine g_jald F 4 dL_letGo_65 rfl (by omega) (by decide) ?_
        refine g_aload F 6 dL_letGo_66 rfl ?_
        refine g_iconst (v := nI 0) F dL_letGo_68 (by decide) ?_
        refine g_jald F 6 dL_letGo_69 rfl (by omega) (by decide) ?_
        refine g_ldc2 (v := (-1)) F dL_letGo_70 (by decide +kernel) ?_
        refine g_lxor F dL_letGo_73 ?_
        refine g_land F dL_letGo_74 ?_
        refine g_jast F 5 dL_letGo_75 rfl (by omega) (by decide) (w2 := [ai E qq 4 Q, ai E li 24 lf, aj E c 64 (cc N 0), aj E d 64 (cc N 1), aj E us 2 (bu U), aj E q 2 (vp_updL X3 0 (((bu U) 0) &&& (((bu (su N rb rs z)) 0) ^^^ (-1)))), aj E al_ 2 (bu (su N rb rs z))]) rfl ?_
        refine g_aload F 5 dL_letGo_76 rfl ?_
        refine g_iconst (v := nI 1) F dL_letGo_78 (by decide) ?_
        refine g_aload_n F 2 dL_letGo_79 rfl rfl ?_
        refine g_iconst (v := nI 1) F dL_letGo_80 (by decide) ?_
        refine g_jald F 4 dL_letGo_81 rfl (by omega) (by decide) ?_
        refine g_aload F 6 dL_letGo_82 rfl ?_
        refine g_iconst (v := nI 1) F dL_letGo_84 (by decide) ?_
        refine g_jald F 6 dL_letGo_85 rfl (by omega) (by decide) ?_
        refine g_ldc2 (v := (-1)) F dL_letGo_86 (by decide +kernel) ?_
        refine g_lxor F dL_letGo_89 ?_
        refine g_land F dL_letGo_90 ?_
        refine g_jast F 5 dL_letGo_91 rfl (by omega) (by decide) (w2 := [ai E qq 4 Q, ai E li 24 lf, aj E c 64 (cc N 0), aj E d 64 (cc N 1), aj E us 2 (bu U), aj E q 2 (vp_updL (vp_updL X3 0 (((bu U) 0) &&& (((bu (su N rb rs z)) 0) ^^^ (-1)))) 1 (((bu U) 1) &&& (((bu (su N rb rs z)) 1) ^^^ (-1)))), aj E al_ 2 (bu (su N rb rs z))]) rfl ?_
        refine g_ajC 5 rfl (bu (fun j => if su N rb rs z j = 0 then U j else 0)) (by exact bu_an U (su N rb rs z) _) (w2 := [ai E qq 4 Q, ai E li 24 lf, aj E c 64 (cc N 0), aj E d 64 (cc N 1), aj E us 2 (bu U), aj E q 2 (bu (fun j => if su N rb rs z j = 0 then U j else 0)), aj E al_ 2 (bu (su N rb rs z))]) rfl ?_
        refine g_aload_n F 2 dL_letGo_92 rfl rfl ?_
        refine g_iconst (v := nI 0) F dL_letGo_93 (by decide) ?_
        refine g_aload F 6 dL_letGo_94 rfl ?_
        refine g_iconst (v := nI 0) F dL_letGo_96 (by decide) ?_
        refine g_jald F 6 dL_letGo_97 rfl (by omega) (by decide) ?_
        refine g_jast F 4 dL_letGo_98 rfl (by omega) (by decide) (w2 := [ai E qq 4 Q, ai E li 24 lf, aj E c 64 (cc N 0), aj E d 64 (cc N 1), aj E us 2 (vp_updL (bu U) 0 ((bu (su N rb rs z)) 0)), aj E q 2 (bu (fun j => if su N rb rs z j = 0 then U j else 0)), aj E al_ 2 (bu (su N rb rs z))]) rfl ?_
        refine g_aload_n F 2 dL_letGo_99 rfl rfl ?_
        refine g_iconst (v := nI 1) F dL_letGo_100 (by decide) ?_
        refine g_aload F 6 dL_letGo_101 rfl ?_
        refine g_iconst (v := nI 1) F dL_letGo_103 (by decide) ?_
        refine g_jald F 6 dL_letGo_104 rfl (by omega) (by decide) ?_
        refine g_jast F 4 dL_letGo_105 rfl (by omega) (by decide) (w2 := [ai E qq 4 Q, ai E li 24 lf, aj E c 64 (cc N 0), aj E d 64 (cc N 1), aj E us 2 (vp_updL (vp_updL (bu U) 0 ((bu (su N rb rs z)) 0)) 1 ((bu (su N rb rs z)) 1)), aj E q 2 (bu (fun j => if su N rb rs z j = 0 then U j else 0)), aj E al_ 2 (bu (su N rb rs z))]) rfl ?_
        refine g_ajC 4 rfl (bu (su N rb rs z)) (by exact bu_cp U (su N rb rs z)) (w2 := [ai E qq 4 Q, ai E li 24 lf, aj E c 64 (cc N 0), aj E d 64 (cc N 1), aj E us 2 (bu (su N rb rs z)), aj E q 2 (bu (fun j => if su N rb rs z j = 0 then U j else 0)), aj E al_ 2 (bu (su N rb rs z))]) rfl ?_
        refine g_aload F 5 dL_letGo_106 rfl ?_
        refine g_callSiR (n := 1) F [5] (c_L_bits l E q (fun j => if su N rb rs z j = 0 then U j else 0) ) dL_letGo_108 rfl (by decide) rfl rfl rfl (Nat.le_of_ble_eq_true rfl) ⟨Nat.le_of_ble_eq_true rfl, Nat.le_of_ble_eq_true rfl⟩ rfl rfl ⟨Nat.le_of_ble_eq_true rfl, Nat.le_of_ble_eq_true rfl⟩ ggL_letGo_L_bits (by decide +kernel) (by decide +kernel) (by decide +kernel) (by decide +kernel) (fun r u hp => by obtain ⟨-, h⟩ := hp; exact h) ?_
        rintro r_108 u_108 ⟨rfl, -⟩
        refine g_top (nI (cn (fun j => if su N rb rs z j = 0 then U j else 0) 96)) (nI (cw U (su N rb rs z) 96)) (by rw [cw_cn]) ?_
        exact hret _ _ _ _ dL_letGo_111 ⟨(bu (fun j => if su N rb rs z j = 0 then U j else 0)), (bu (su N rb rs z)), rfl, (by rfl)⟩
      · skip
        refine g_iload F 7 dL_letGo_21 rfl ?_
        refine g_aload_n F 1 dL_letGo_23 rfl rfl ?_
        refine g_aload_n F 3 dL_letGo_24 rfl rfl ?_
        refine g_aload F 4 dL_letGo_25 rfl ?_
        refine g_aload F 5 dL_letGo_27 rfl ?_
        have hl9 := hli i c18
        refine g_callSvW (n := 5) F [1, 2, 3, 5] (c_L_owned l E li c d N lf q X3 (rb i) (rs i) i (by omega) (by assumption) (by assumption) (by exact hl9.1) (by exact hl9.2.1) (by omega) (by omega) (by omega)) dL_letGo_29 rfl (by decide) rfl rfl rfl (Nat.le_of_ble_eq_true rfl) ⟨Nat.le_of_ble_eq_true rfl, Nat.le_of_ble_eq_true rfl⟩ rfl rfl ⟨Nat.le_of_ble_eq_true rfl, Nat.le_of_ble_eq_true rfl⟩ ggL_letGo_L_owned (by decide +kernel) (by decide +kernel) (by decide +kernel) (by decide +kernel) (fun u hp => by obtain rfl := hp; rfl) ?_
        rintro u_29 rfl
        refine g_ws (w2 := [ai E qq 4 Q, ai E li 24 lf, aj E c 64 (cc N 0), aj E d 64 (cc N 1), aj E us 2 (bu U), aj E q 2 (bu (ab N (rb i) (rs i) (fun _ => 0))), aj E al_ 2 (bu (su N rb rs i))]) rfl ?_
        refine g_aload F 6 dL_letGo_32 rfl ?_
        refine g_iconst (v := nI 0) F dL_letGo_34 (by decide) ?_
        refine g_dup2 F dL_letGo_35 rfl rfl ?_
        refine g_jald F 6 dL_letGo_36 rfl (by omega) (by decide) ?_
        refine g_aload F 5 dL_letGo_37 rfl ?_
        refine g_iconst (v := nI 0) F dL_letGo_39 (by decide) ?_
        refine g_jald F 5 dL_letGo_40 rfl (by omega) (by decide) ?_
        refine g_lor F dL_letGo_41 ?_
        refine g_jast F 6 dL_letGo_42 rfl (by omega) (by decide) (w2 := [ai E qq 4 Q, ai E li 24 lf, aj E c 64 (cc N 0), aj E d 64 (cc N 1), aj E us 2 (bu U), aj E q 2 (bu (ab N (rb i) (rs i) (fun _ => 0))), aj E al_ 2 (vp_updL (bu (su N rb rs i)) 0 (((bu (su N rb rs i)) 0) ||| ((bu (ab N (rb i) (rs i) (fun _ => 0))) 0)))]) rfl ?_
        refine g_aload F 6 dL_letGo_43 rfl ?_
        refine g_iconst (v := nI 1) F dL_letGo_45 (by decide) ?_
        refine g_dup2 F dL_letGo_46 rfl rfl ?_
        refine g_jald F 6 dL_letGo_47 rfl (by omega) (by decide) ?_
        refine g_aload F 5 dL_letGo_48 rfl ?_
        refine g_iconst (v := nI 1) F dL_letGo_50 (by decide) ?_
        refine g_jald F 5 dL_letGo_51 rfl (by omega) (by decide) ?_
        refine g_lor F dL_letGo_52 ?_
        refine g_jast F 6 dL_letGo_53 rfl (by omega) (by decide) (w2 := [ai E qq 4 Q, ai E li 24 lf, aj E c 64 (cc N 0), aj E d 64 (cc N 1), aj E us 2 (bu U), aj E q 2 (bu (ab N (rb i) (rs i) (fun _ => 0))), aj E al_ 2 (vp_updL (vp_updL (bu (su N rb rs i)) 0 (((bu (su N rb rs i)) 0) ||| ((bu (ab N (rb i) (rs i) (fun _ => 0))) 0))) 1 (((vp_updL (bu (su N rb rs i)) 0 (((bu (su N rb rs i)) 0) ||| ((bu (ab N (rb i) (rs i) (fun _ => 0))) 0))) 1) ||| ((bu (ab N (rb i) (rs i) (fun _ => 0))) 1)))]) rfl ?_
        refine g_iinc (k := 7) (v := nI (i + 1)) (lv2 := [(7, .int (nI (i + 1))), (0, .ref qq), (1, .ref li), (2, .ref us), (3, .ref c), (4, .ref d), (5, .ref q), (6, .ref al_)]) F dL_letGo_54 rfl (nI_1 _) (by decide) rfl ?_
        refine g_goto (tgt := 13) F dL_letGo_57 (by decide) ?_
        refine g_ajC 6 rfl (bu (su N rb rs (i + 1))) (by exact bu_or N (rb i) (rs i) (su N rb rs i)) (w2 := [ai E qq 4 Q, ai E li 24 lf, aj E c 64 (cc N 0), aj E d 64 (cc N 1), aj E us 2 (bu U), aj E q 2 (bu (ab N (rb i) (rs i) (fun _ => 0))), aj E al_ 2 (bu (su N rb rs (i + 1)))]) rfl ?_
        refine g_lv [1, 2, 3, 4, 5, 6, 7, 0] rfl ?_
        exact ih13 (i + 1) (bu (ab N (rb i) (rs i) (fun _ => 0))) (by omega) (by omega)
  refine g_ajC 6 rfl (bu (su N rb rs 0)) (by intro j hj; rfl) (w2 := [ai E qq 4 Q, ai E li 24 lf, aj E c 64 (cc N 0), aj E d 64 (cc N 1), aj E us 2 (bu U), aj E q 2 X, aj E al_ 2 (bu (su N rb rs 0))]) rfl ?_
  refine g_lv [1, 2, 3, 4, 5, 6, 7, 0] rfl ?_
  exact loop13 ((z - 0) + 1) 0 X (Nat.lt_succ_self _) (by exact Nat.zero_le _)
set_option maxHeartbeats 4000000 in
set_option maxRecDepth 100000 in
theorem c_L_unlike (l : Launch) (E : En) (li : Nat) (c : Nat) (d : Nat) (N : Nat → Nat) (lf : Nat → Nat) (b0 : Nat) (s0 : Nat) (b1 : Nat) (s1 : Nat) (p : Nat) (q : Nat) (hp : p < 8) (hq : q < 8) (hN : BN N) (hZ : ZB N) (hb : lf (3 * p + 1) = b0) (hs : lf (3 * p + 2) = s0) (hb1 : lf (3 * q + 1) = b1) (hs1 : lf (3 * q + 2) = s1) (h1 : b0 < 65536) (h2 : s0 < 65536) (h3 : b1 < 65536) (h4 : s1 < 65536) : CtI l yL_unlike wsL_unlike ({ frames := 3, cells := 0, slots := 0, locals := 66 } : Room) E [.int (nI p), .int (nI q), .ref li, .ref c, .ref d] [ai E li 24 lf, aj E c 64 (cc N 0), aj E d 64 (cc N 1)] (fun rr uu => rr = (ulI (uly N b0 s0 b1 s1)) ∧ uu = [ai E li 24 lf, aj E c 64 (cc N 0), aj E d 64 (cc N 1)]) := by
  refine CtI.of cL_unlike 16 RL .int rfl (by decide) rfl (Or.inl rfl) (Nat.le_of_ble_eq_true rfl) (fun h => by cases h) ?_
  intro Γ F hret
  show G Γ E 0 0 0 [(0, .int (nI p)), (1, .int (nI q)), (2, .ref li), (3, .ref c), (4, .ref d)] [] [ai E li 24 lf, aj E c 64 (cc N 0), aj E d 64 (cc N 1)]
  refine g_aload_n F 2 dL_unlike_0 rfl rfl ?_
  refine g_iconst (v := nI 3) F dL_unlike_1 (by decide) ?_
  refine g_iload_n F 0 dL_unlike_2 rfl rfl ?_
  refine g_imulN F dL_unlike_3 ?_
  refine g_iconst (v := nI 1) F dL_unlike_4 (by decide) ?_
  refine g_iaddN F dL_unlike_5 ?_
  refine g_iald F 0 dL_unlike_6 rfl (by omega) (by decide) ?_
  refine g_top (nI (lf ((3 * p) + 1))) (nI b0) (by rw [← hb]) ?_
  refine g_istore (lv2 := [(5, .int (nI b0)), (0, .int (nI p)), (1, .int (nI q)), (2, .ref li), (3, .ref c), (4, .ref d)]) F dL_unlike_7 (by decide) rfl ?_
  refine g_aload_n F 3 dL_unlike_9 rfl rfl ?_
  refine g_iconst (v := nI 3) F dL_unlike_10 (by decide) ?_
  refine g_iload_n F 2 dL_unlike_11 rfl rfl ?_
  refine g_imulN F dL_unlike_12 ?_
  refine g_iconst (v := nI 1) F dL_unlike_13 (by decide) ?_
  refine g_iaddN F dL_unlike_14 ?_
  refine g_iald F 0 dL_unlike_15 rfl (by omega) (by decide) ?_
  refine g_top (nI (lf ((3 * q) + 1))) (nI b1) (by rw [← hb1]) ?_
  refine g_istore (lv2 := [(6, .int (nI b1)), (5, .int (nI b0)), (0, .int (nI p)), (1, .int (nI q)), (2, .ref li), (3, .ref c), (4, .ref d)]) F dL_unlike_16 (by decide) rfl ?_
  refine g_iload F 1 dL_unlike_18 rfl ?_
  refine g_iload F 0 dL_unlike_20 rfl ?_
  refine g_icmp_neN (tgt := 27) F dL_unlike_22 (by decide) (by omega) (by omega) (fun c22 => ?_) (fun c22 => ?_)
  · skip
    refine g_iload F 1 dL_unlike_27 rfl ?_
    refine g_aload_n F 4 dL_unlike_29 rfl rfl ?_
    refine g_iconst (v := nI 3) F dL_unlike_30 (by decide) ?_
    refine g_iload_n F 2 dL_unlike_31 rfl rfl ?_
    refine g_imulN F dL_unlike_32 ?_
    refine g_iconst (v := nI 2) F dL_unlike_33 (by decide) ?_
    refine g_iaddN F dL_unlike_34 ?_
    refine g_iald F 0 dL_unlike_35 rfl (by omega) (by decide) ?_
    refine g_top (nI (lf ((3 * p) + 2))) (nI s0) (by rw [← hs]) ?_
    refine g_aload_n F 5 dL_unlike_36 rfl rfl ?_
    refine g_aload F 6 dL_unlike_37 rfl ?_
    refine g_callSiR (n := 4) F [1, 2] (c_L_from l E c d N b0 s0 (by omega) (by omega) (by assumption) (by assumption)) dL_unlike_39 rfl (by decide) rfl rfl rfl (Nat.le_of_ble_eq_true rfl) ⟨Nat.le_of_ble_eq_true rfl, Nat.le_of_ble_eq_true rfl⟩ rfl rfl ⟨Nat.le_of_ble_eq_true rfl, Nat.le_of_ble_eq_true rfl⟩ ggL_unlike_L_from (by decide +kernel) (by decide +kernel) (by decide +kernel) (by decide +kernel) (fun r u hp => by obtain ⟨-, h⟩ := hp; exact h) ?_
    rintro r_39 u_39 ⟨rfl, -⟩
    refine g_istore (lv2 := [(7, .int (nI (tk N b0 s0))), (6, .int (nI b1)), (5, .int (nI b0)), (0, .int (nI p)), (1, .int (nI q)), (2, .ref li), (3, .ref c), (4, .ref d)]) F dL_unlike_42 (by decide) rfl ?_
    refine g_iload F 1 dL_unlike_44 rfl ?_
    refine g_aload_n F 5 dL_unlike_46 rfl rfl ?_
    refine g_iconst (v := nI 3) F dL_unlike_47 (by decide) ?_
    refine g_iload_n F 4 dL_unlike_48 rfl rfl ?_
    refine g_imulN F dL_unlike_49 ?_
    refine g_iconst (v := nI 2) F dL_unlike_50 (by decide) ?_
    refine g_iaddN F dL_unlike_51 ?_
    refine g_iald F 0 dL_unlike_52 rfl (by omega) (by decide) ?_
    refine g_top (nI (lf ((3 * q) + 2))) (nI s1) (by rw [← hs1]) ?_
    refine g_aload_n F 6 dL_unlike_53 rfl rfl ?_
    refine g_aload F 7 dL_unlike_54 rfl ?_
    refine g_callSiR (n := 4) F [1, 2] (c_L_from l E c d N b1 s1 (by omega) (by omega) (by assumption) (by assumption)) dL_unlike_56 rfl (by decide) rfl rfl rfl (Nat.le_of_ble_eq_true rfl) ⟨Nat.le_of_ble_eq_true rfl, Nat.le_of_ble_eq_true rfl⟩ rfl rfl ⟨Nat.le_of_ble_eq_true rfl, Nat.le_of_ble_eq_true rfl⟩ ggL_unlike_L_from (by decide +kernel) (by decide +kernel) (by decide +kernel) (by decide +kernel) (fun r u hp => by obtain ⟨-, h⟩ := hp; exact h) ?_
    rintro r_56 u_56 ⟨rfl, -⟩
    refine g_istore (lv2 := [(8, .int (nI (tk N b1 s1))), (7, .int (nI (tk N b0 s0))), (6, .int (nI b1)), (5, .int (nI b0)), (0, .int (nI p)), (1, .int (nI q)), (2, .ref li), (3, .ref c), (4, .ref d)]) F dL_unlike_59 (by decide) rfl ?_
    have ht1 := tk_le N b0 s0
    have ht2 := tk_le N b1 s1
    refine g_iload F 1 dL_unlike_61 rfl ?_
    refine g_iconst (v := nI 2) F dL_unlike_63 (by decide) ?_
    refine g_icmp_eqN (tgt := 73) F dL_unlike_64 (by decide) (by omega) (by omega) (fun c64 => ?_) (fun c64 => ?_)
    · skip
      refine g_ldc (v := (-1000002)) F dL_unlike_73 (by decide +kernel) ?_
      exact hret _ _ _ _ dL_unlike_75 ⟨(by unfold uly; rw [if_neg c22]; first | rw [if_pos (by omega)]; rfl | (rw [if_neg (by omega), if_pos (by omega)]; rfl)), rfl⟩
    · skip
      refine g_iload F 0 dL_unlike_67 rfl ?_
      refine g_iconst (v := nI 2) F dL_unlike_69 (by decide) ?_
      refine g_icmp_neN (tgt := 76) F dL_unlike_70 (by decide) (by omega) (by omega) (fun c70 => ?_) (fun c70 => ?_)
      · skip
        refine g_iconst (v := nI 0) F dL_unlike_76 (by decide) ?_
        refine g_istore (lv2 := [(9, .int (nI 0)), (8, .int (nI (tk N b1 s1))), (7, .int (nI (tk N b0 s0))), (6, .int (nI b1)), (5, .int (nI b0)), (0, .int (nI p)), (1, .int (nI q)), (2, .ref li), (3, .ref c), (4, .ref d)]) F dL_unlike_77 (by decide) rfl ?_
        refine g_iconst (v := nI 0) F dL_unlike_79 (by decide) ?_
        refine g_istore (lv2 := [(10, .int (nI 0)), (9, .int (nI 0)), (8, .int (nI (tk N b1 s1))), (7, .int (nI (tk N b0 s0))), (6, .int (nI b1)), (5, .int (nI b0)), (0, .int (nI p)), (1, .int (nI q)), (2, .ref li), (3, .ref c), (4, .ref d)]) F dL_unlike_80 (by decide) rfl ?_
        have loop82 : ∀ (n : Nat) (i : Nat) (zz : Nat), 4 - i < n → (i ≤ 4) → (zz = uln N (tk N b0 s0) b0 (tk N b1 s1) b1 i) → (¬ zz = 65536) → G Γ E (0) (0) 82 [(0, .int (nI p)), (1, .int (nI q)), (2, .ref li), (3, .ref c), (4, .ref d), (5, .int (nI b0)), (6, .int (nI b1)), (7, .int (nI (tk N b0 s0))), (8, .int (nI (tk N b1 s1))), (9, .int (nI zz)), (10, .int (nI i))] [] [ai E li 24 lf, aj E c 64 (cc N 0), aj E d 64 (cc N 1)] := by
          intro n
          induction n with
          | zero => intro i zz hz; exact absurd hz (Nat.not_lt_zero _)
          | succ n ih82 =>
            intro i zz hz82 hi hz hz2
            refine g_iload F 10 dL_unlike_82 rfl ?_
            refine g_iconst (v := nI 4) F dL_unlike_84 (by decide) ?_
            refine g_icmp_geN (tgt := 303) F dL_unlike_85 (by decide) (by omega) (by omega) (fun c85 => ?_) (fun c85 => ?_)
            · skip
              refine g_iload F 9 dL_unlike_303 rfl ?_
              exact hret _ _ _ _ dL_unlike_305 ⟨(by 
                    unfold uly; rw [if_neg c22, if_neg (by omega), if_neg (by omega)]
                    have hi4 : i = 4 := by omega
                    subst hi4
                    rw [← hz]; unfold ulI; rw [if_neg hz2]), rfl⟩
            · skip
              have hx1 : b0 < 96 := tk_in (N := N) (s := s0) (by omega)
              have hx2 : b1 < 96 := tk_in (N := N) (s := s1) (by omega)
              refine g_iload F 5 dL_unlike_88 rfl ?_
              refine g_iload F 7 dL_unlike_90 rfl ?_
              have kj104 : G Γ E (0) (0) 104 [(0, .int (nI p)), (1, .int (nI q)), (2, .ref li), (3, .ref c), (4, .ref d), (5, .int (nI b0)), (6, .int (nI b1)), (7, .int (nI (tk N b0 s0))), (8, .int (nI (tk N b1 s1))), (9, .int (nI zz)), (10, .int (nI i))] [.long (pkN (ccf N (tk N b0 s0) b0))] [ai E li 24 lf, aj E c 64 (cc N 0), aj E d 64 (cc N 1)] := by
                refine g_iload F 10 dL_unlike_104 rfl ?_
                refine g_callSiR (n := 2) F [] (c_L_number l E (ccf N (tk N b0 s0) b0) i (by exact ccf_lt hN _ _) (by omega)) dL_unlike_106 rfl (by decide) rfl rfl rfl (Nat.le_of_ble_eq_true rfl) ⟨Nat.le_of_ble_eq_true rfl, Nat.le_of_ble_eq_true rfl⟩ rfl rfl ⟨Nat.le_of_ble_eq_true rfl, Nat.le_of_ble_eq_true rfl⟩ ggL_unlike_L_number (by decide +kernel) (by decide +kernel) (by decide +kernel) (by decide +kernel) (fun r u hp => by obtain ⟨-, h⟩ := hp; exact h) ?_
                rintro r_106 u_106 ⟨rfl, -⟩
                refine g_top (nI ((ccf N (tk N b0 s0) b0) i)) (nI (nu N (tk N b0 s0) b0 i)) (by rfl) ?_
                refine g_istore (lv2 := [(11, .int (nI (nu N (tk N b0 s0) b0 i))), (0, .int (nI p)), (1, .int (nI q)), (2, .ref li), (3, .ref c), (4, .ref d), (5, .int (nI b0)), (6, .int (nI b1)), (7, .int (nI (tk N b0 s0))), (8, .int (nI (tk N b1 s1))), (9, .int (nI zz)), (10, .int (nI i))]) F dL_unlike_109 (by decide) rfl ?_
                refine g_iload F 7 dL_unlike_111 rfl ?_
                refine g_iload F 9 dL_unlike_113 rfl ?_
                have kj127 : G Γ E (0) (0) 127 [(11, .int (nI (nu N (tk N b0 s0) b0 i))), (0, .int (nI p)), (1, .int (nI q)), (2, .ref li), (3, .ref c), (4, .ref d), (5, .int (nI b0)), (6, .int (nI b1)), (7, .int (nI (tk N b0 s0))), (8, .int (nI (tk N b1 s1))), (9, .int (nI zz)), (10, .int (nI i))] [.long (pkN (ccf N (tk N b1 s1) b1))] [ai E li 24 lf, aj E c 64 (cc N 0), aj E d 64 (cc N 1)] := by
                  refine g_iload F 11 dL_unlike_127 rfl ?_
                  refine g_callSiR (n := 2) F [] (c_L_number l E (ccf N (tk N b1 s1) b1) i (by exact ccf_lt hN _ _) (by omega)) dL_unlike_129 rfl (by decide) rfl rfl rfl (Nat.le_of_ble_eq_true rfl) ⟨Nat.le_of_ble_eq_true rfl, Nat.le_of_ble_eq_true rfl⟩ rfl rfl ⟨Nat.le_of_ble_eq_true rfl, Nat.le_of_ble_eq_true rfl⟩ ggL_unlike_L_number (by decide +kernel) (by decide +kernel) (by decide +kernel) (by decide +kernel) (fun r u hp => by obtain ⟨-, h⟩ := hp; exact h) ?_
                  rintro r_129 u_129 ⟨rfl, -⟩
                  refine g_top (nI ((ccf N (tk N b1 s1) b1) i)) (nI (nu N (tk N b1 s1) b1 i)) (by rfl) ?_
                  refine g_istore (lv2 := [(12, .int (nI (nu N (tk N b1 s1) b1 i))), (11, .int (nI (nu N (tk N b0 s0) b0 i))), (0, .int (nI p)), (1, .int (nI q)), (2, .ref li), (3, .ref c), (4, .ref d), (5, .int (nI b0)), (6, .int (nI b1)), (7, .int (nI (tk N b0 s0))), (8, .int (nI (tk N b1 s1))), (9, .int (nI zz)), (10, .int (nI i))]) F dL_unlike_132 (by decide) rfl ?_
                  have hn1 : (nu N (tk N b0 s0) b0 i) < 65536 := hN _
                  have hn2 : (nu N (tk N b1 s1) b1 i) < 65536 := hN _
                  refine g_iload F 1 dL_unlike_134 rfl ?_
                  refine g_sipush (v := nI 256) F dL_unlike_136 (by decide) ?_
                  refine g_idivN F dL_unlike_139 (by omega) (by decide) (by decide) ?_
                  refine g_iload F 0 dL_unlike_140 rfl ?_
                  refine g_sipush (v := nI 256) F dL_unlike_142 (by decide) ?_
                  refine g_idivN F dL_unlike_145 (by omega) (by decide) (by decide) ?_
                  refine g_icmp_neN (tgt := 152) F dL_unlike_146 (by decide) (by omega) (by omega) (fun c146 => ?_) (fun c146 => ?_)
                  · skip
                    refine g_iload F 1 dL_unlike_152 rfl ?_
                    refine g_sipush (v := nI 256) F dL_unlike_154 (by decide) ?_
                    refine g_idivN F dL_unlike_157 (by omega) (by decide) (by decide) ?_
                    refine g_iload F 1 dL_unlike_158 rfl ?_
                    refine g_sipush (v := nI 256) F dL_unlike_160 (by decide) ?_
                    refine g_iremN F dL_unlike_163 (by omega) (by decide) (by decide) ?_
                    refine g_aload_n F 5 dL_unlike_164 rfl rfl ?_
                    refine g_aload F 6 dL_unlike_165 rfl ?_
                    refine g_callSiR (n := 4) F [1, 2] (c_L_from l E c d N ((nu N (tk N b0 s0) b0 i) / 256) ((nu N (tk N b0 s0) b0 i) % 256) (by omega) (by omega) (by assumption) (by assumption)) dL_unlike_167 rfl (by decide) rfl rfl rfl (Nat.le_of_ble_eq_true rfl) ⟨Nat.le_of_ble_eq_true rfl, Nat.le_of_ble_eq_true rfl⟩ rfl rfl ⟨Nat.le_of_ble_eq_true rfl, Nat.le_of_ble_eq_true rfl⟩ ggL_unlike_L_from (by decide +kernel) (by decide +kernel) (by decide +kernel) (by decide +kernel) (fun r u hp => by obtain ⟨-, h⟩ := hp; exact h) ?_
                    rintro r_167 u_167 ⟨rfl, -⟩
                    refine g_istore (lv2 := [(13, .int (nI (tk N ((nu N (tk N b0 s0) b0 i) / 256) ((nu N (tk N b0 s0) b0 i) % 256)))), (12, .int (nI (nu N (tk N b1 s1) b1 i))), (11, .int (nI (nu N (tk N b0 s0) b0 i))), (0, .int (nI p)), (1, .int (nI q)), (2, .ref li), (3, .ref c), (4, .ref d), (5, .int (nI b0)), (6, .int (nI b1)), (7, .int (nI (tk N b0 s0))), (8, .int (nI (tk N b1 s1))), (9, .int (nI zz)), (10, .int (nI i))]) F dL_unlike_170 (by decide) rfl ?_
                    refine g_iload F 1 dL_unlike_172 rfl ?_
                    refine g_sipush (v := nI 256) F dL_unlike_174 (by decide) ?_
                    refine g_idivN F dL_unlike_177 (by omega) (by decide) (by decide) ?_
                    refine g_iload F 1 dL_unlike_178 rfl ?_
                    refine g_sipush (v := nI 256) F dL_unlike_180 (by decide) ?_
                    refine g_iremN F dL_unlike_183 (by omega) (by decide) (by decide) ?_
                    refine g_aload_n F 6 dL_unlike_184 rfl rfl ?_
                    refine g_aload F 7 dL_unlike_185 rfl ?_
                    refine g_callSiR (n := 4) F [1, 2] (c_L_from l E c d N ((nu N (tk N b1 s1) b1 i) / 256) ((nu N (tk N b1 s1) b1 i) % 256) (by omega) (by omega) (by assumption) (by assumption)) dL_unlike_187 rfl (by decide) rfl rfl rfl (Nat.le_of_ble_eq_true rfl) ⟨Nat.le_of_ble_eq_true rfl, Nat.le_of_ble_eq_true rfl⟩ rfl rfl ⟨Nat.le_of_ble_eq_true rfl, Nat.le_of_ble_eq_true rfl⟩ ggL_unlike_L_from (by decide +kernel) (by decide +kernel) (by decide +kernel) (by decide +kernel) (fun r u hp => by obtain ⟨-, h⟩ := hp; exact h) ?_
                    rintro r_187 u_187 ⟨rfl, -⟩
                    refine g_istore (lv2 := [(14, .int (nI (tk N ((nu N (tk N b1 s1) b1 i) / 256) ((nu N (tk N b1 s1) b1 i) % 256)))), (13, .int (nI (tk N ((nu N (tk N b0 s0) b0 i) / 256) ((nu N (tk N b0 s0) b0 i) % 256)))), (12, .int (nI (nu N (tk N b1 s1) b1 i))), (11, .int (nI (nu N (tk N b0 s0) b0 i))), (0, .int (nI p)), (1, .int (nI q)), (2, .ref li), (3, .ref c), (4, .ref d), (5, .int (nI b0)), (6, .int (nI b1)), (7, .int (nI (tk N b0 s0))), (8, .int (nI (tk N b1 s1))), (9, .int (nI zz)), (10, .int (nI i))]) F dL_unlike_190 (by decide) rfl ?_
                    have hk1 := tk_le N ((nu N (tk N b0 s0) b0 i) / 256) ((nu N (tk N b0 s0) b0 i) % 256)
                    have hk2 := tk_le N ((nu N (tk N b1 s1) b1 i) / 256) ((nu N (tk N b1 s1) b1 i) % 256)
                    refine g_iload F 1 dL_unlike_192 rfl ?_
                    refine g_iconst (v := nI 2) F dL_unlike_194 (by decide) ?_
                    refine g_icmp_eqN (tgt := 204) F dL_unlike_195 (by decide) (by omega) (by omega) (fun c195 => ?_) (fun c195 => ?_)
                    · skip
                      refine g_ldc (v := (-1000002)) F dL_unlike_204 (by decide +kernel) ?_
                      exact hret _ _ _ _ dL_unlike_206 ⟨(by 
                            have h16 := ucn_no (N := N) (p := (nu N (tk N b0 s0) b0 i)) (q := (nu N (tk N b1 s1) b1 i)) c146 (by omega)
                            unfold uly; rw [if_neg c22, if_neg (by omega), if_neg (by omega), uln_one (uln_at h16) 4 (by omega)]; rfl), rfl⟩
                    · skip
                      refine g_iload F 0 dL_unlike_198 rfl ?_
                      refine g_iconst (v := nI 2) F dL_unlike_200 (by decide) ?_
                      refine g_icmp_neN (tgt := 207) F dL_unlike_201 (by decide) (by omega) (by omega) (fun c201 => ?_) (fun c201 => ?_)
                      · skip
                        refine g_iconst (v := nI 0) F dL_unlike_207 (by decide) ?_
                        refine g_istore (lv2 := [(15, .int (nI 0)), (14, .int (nI (tk N ((nu N (tk N b1 s1) b1 i) / 256) ((nu N (tk N b1 s1) b1 i) % 256)))), (13, .int (nI (tk N ((nu N (tk N b0 s0) b0 i) / 256) ((nu N (tk N b0 s0) b0 i) % 256)))), (12, .int (nI (nu N (tk N b1 s1) b1 i))), (11, .int (nI (nu N (tk N b0 s0) b0 i))), (0, .int (nI p)), (1, .int (nI q)), (2, .ref li), (3, .ref c), (4, .ref d), (5, .int (nI b0)), (6, .int (nI b1)), (7, .int (nI (tk N b0 s0))), (8, .int (nI (tk N b1 s1))), (9, .int (nI zz)), (10, .int (nI i))]) F dL_unlike_208 (by decide) rfl ?_
                        have loop210 : ∀ (n : Nat) (k : Nat) (y : Nat), 4 - k < n → (k ≤ 4) → (y = zz ||| ucs N (tk N ((nu N (tk N b0 s0) b0 i) / 256) ((nu N (tk N b0 s0) b0 i) % 256)) ((nu N (tk N b0 s0) b0 i) / 256) (tk N ((nu N (tk N b1 s1) b1 i) / 256) ((nu N (tk N b1 s1) b1 i) % 256)) ((nu N (tk N b1 s1) b1 i) / 256) k * 2 ^ (4 * i)) → G Γ E (0) (0) 210 [(0, .int (nI p)), (1, .int (nI q)), (2, .ref li), (3, .ref c), (4, .ref d), (5, .int (nI b0)), (6, .int (nI b1)), (7, .int (nI (tk N b0 s0))), (8, .int (nI (tk N b1 s1))), (9, .int (nI y)), (10, .int (nI i)), (11, .int (nI (nu N (tk N b0 s0) b0 i))), (12, .int (nI (nu N (tk N b1 s1) b1 i))), (13, .int (nI (tk N ((nu N (tk N b0 s0) b0 i) / 256) ((nu N (tk N b0 s0) b0 i) % 256)))), (14, .int (nI (tk N ((nu N (tk N b1 s1) b1 i) / 256) ((nu N (tk N b1 s1) b1 i) % 256)))), (15, .int (nI k))] [] [ai E li 24 lf, aj E c 64 (cc N 0), aj E d 64 (cc N 1)] := by
                          intro n
                          induction n with
                          | zero => intro k y hz; exact absurd hz (Nat.not_lt_zero _)
                          | succ n ih210 =>
                            intro k y hz210 hk hy
                            refine g_iload F 15 dL_unlike_210 rfl ?_
                            refine g_iconst (v := nI 4) F dL_unlike_212 (by decide) ?_
                            refine g_icmp_geN (tgt := 297) F dL_unlike_213 (by decide) (by omega) (by omega) (fun c213 => ?_) (fun c213 => ?_)
                            · skip
                              refine g_iinc (k := 10) (v := nI (i + 1)) (lv2 := [(10, .int (nI (i + 1))), (0, .int (nI p)), (1, .int (nI q)), (2, .ref li), (3, .ref c), (4, .ref d), (5, .int (nI b0)), (6, .int (nI b1)), (7, .int (nI (tk N b0 s0))), (8, .int (nI (tk N b1 s1))), (9, .int (nI y)), (11, .int (nI (nu N (tk N b0 s0) b0 i))), (12, .int (nI (nu N (tk N b1 s1) b1 i))), (13, .int (nI (tk N ((nu N (tk N b0 s0) b0 i) / 256) ((nu N (tk N b0 s0) b0 i) % 256)))), (14, .int (nI (tk N ((nu N (tk N b1 s1) b1 i) / 256) ((nu N (tk N b1 s1) b1 i) % 256)))), (15, .int (nI k))]) F dL_unlike_297 rfl (nI_1 _) (by decide) rfl ?_
                              refine g_goto (tgt := 82) F dL_unlike_300 (by decide) ?_
                              refine g_lv [1, 2, 3, 4, 5, 6, 7, 8, 9, 10, 0] rfl ?_
                              exact ih82 (i + 1) y (by omega) (by omega) (by exact (uln_in (by omega) hz hz2 c146 (by omega) (by omega) (by rw [hy, show k = 4 by omega])).1) (by exact (uln_in (by omega) hz hz2 c146 (by omega) (by omega) (by rw [hy, show k = 4 by omega])).2)
                            · skip
                              have hy1 : (nu N (tk N b0 s0) b0 i) / 256 < 96 := tk_in (N := N) (s := (nu N (tk N b0 s0) b0 i) % 256) (by omega)
                              have hy2 : (nu N (tk N b1 s1) b1 i) / 256 < 96 := tk_in (N := N) (s := (nu N (tk N b1 s1) b1 i) % 256) (by omega)
                              have hv1 : nu N (tk N ((nu N (tk N b0 s0) b0 i) / 256) ((nu N (tk N b0 s0) b0 i) % 256)) ((nu N (tk N b0 s0) b0 i) / 256) k < 65536 := hN _
                              have hv2 : nu N (tk N ((nu N (tk N b1 s1) b1 i) / 256) ((nu N (tk N b1 s1) b1 i) % 256)) ((nu N (tk N b1 s1) b1 i) / 256) k < 65536 := hN _
                              refine g_iload F 11 dL_unlike_216 rfl ?_
                              refine g_sipush (v := nI 256) F dL_unlike_218 (by decide) ?_
                              refine g_idivN F dL_unlike_221 (by omega) (by decide) (by decide) ?_
                              refine g_iload F 13 dL_unlike_222 rfl ?_
                              have kj236 : G Γ E (0) (0) 236 [(0, .int (nI p)), (1, .int (nI q)), (2, .ref li), (3, .ref c), (4, .ref d), (5, .int (nI b0)), (6, .int (nI b1)), (7, .int (nI (tk N b0 s0))), (8, .int (nI (tk N b1 s1))), (9, .int (nI y)), (10, .int (nI i)), (11, .int (nI (nu N (tk N b0 s0) b0 i))), (12, .int (nI (nu N (tk N b1 s1) b1 i))), (13, .int (nI (tk N ((nu N (tk N b0 s0) b0 i) / 256) ((nu N (tk N b0 s0) b0 i) % 256)))), (14, .int (nI (tk N ((nu N (tk N b1 s1) b1 i) / 256) ((nu N (tk N b1 s1) b1 i) % 256)))), (15, .int (nI k))] [.long (pkN (ccf N (tk N ((nu N (tk N b0 s0) b0 i) / 256) ((nu N (tk N b0 s0) b0 i) % 256)) ((nu N (tk N b0 s0) b0 i) / 256)))] [ai E li 24 lf, aj E c 64 (cc N 0), aj E d 64 (cc N 1)] := by
                                refine g_iload F 15 dL_unlike_236 rfl ?_
                                refine g_callSiR (n := 2) F [] (c_L_number l E (ccf N (tk N ((nu N (tk N b0 s0) b0 i) / 256) ((nu N (tk N b0 s0) b0 i) % 256)) ((nu N (tk N b0 s0) b0 i) / 256)) k (by exact ccf_lt hN _ _) (by omega)) dL_unlike_238 rfl (by decide) rfl rfl rfl (Nat.le_of_ble_eq_true rfl) ⟨Nat.le_of_ble_eq_true rfl, Nat.le_of_ble_eq_true rfl⟩ rfl rfl ⟨Nat.le_of_ble_eq_true rfl, Nat.le_of_ble_eq_true rfl⟩ ggL_unlike_L_number (by decide +kernel) (by decide +kernel) (by decide +kernel) (by decide +kernel) (fun r u hp => by obtain ⟨-, h⟩ := hp; exact h) ?_
                                rintro r_238 u_238 ⟨rfl, -⟩
                                refine g_top (nI ((ccf N (tk N ((nu N (tk N b0 s0) b0 i) / 256) ((nu N (tk N b0 s0) b0 i) % 256)) ((nu N (tk N b0 s0) b0 i) / 256)) k)) (nI (nu N (tk N ((nu N (tk N b0 s0) b0 i) / 256) ((nu N (tk N b0 s0) b0 i) % 256)) ((nu N (tk N b0 s0) b0 i) / 256) k)) (by rfl) ?_
                                refine g_sipush (v := nI 256) F dL_unlike_241 (by decide) ?_
                                refine g_idivN F dL_unlike_244 (by omega) (by decide) (by decide) ?_
                                refine g_iload F 12 dL_unlike_245 rfl ?_
                                refine g_sipush (v := nI 256) F dL_unlike_247 (by decide) ?_
                                refine g_idivN F dL_unlike_250 (by omega) (by decide) (by decide) ?_
                                refine g_iload F 14 dL_unlike_251 rfl ?_
                                have kj265 : G Γ E (0) (0) 265 [(0, .int (nI p)), (1, .int (nI q)), (2, .ref li), (3, .ref c), (4, .ref d), (5, .int (nI b0)), (6, .int (nI b1)), (7, .int (nI (tk N b0 s0))), (8, .int (nI (tk N b1 s1))), (9, .int (nI y)), (10, .int (nI i)), (11, .int (nI (nu N (tk N b0 s0) b0 i))), (12, .int (nI (nu N (tk N b1 s1) b1 i))), (13, .int (nI (tk N ((nu N (tk N b0 s0) b0 i) / 256) ((nu N (tk N b0 s0) b0 i) % 256)))), (14, .int (nI (tk N ((nu N (tk N b1 s1) b1 i) / 256) ((nu N (tk N b1 s1) b1 i) % 256)))), (15, .int (nI k))] [.long (pkN (ccf N (tk N ((nu N (tk N b1 s1) b1 i) / 256) ((nu N (tk N b1 s1) b1 i) % 256)) ((nu N (tk N b1 s1) b1 i) / 256))), .int (nI ((nu N (tk N ((nu N (tk N b0 s0) b0 i) / 256) ((nu N (tk N b0 s0) b0 i) % 256)) ((nu N (tk N b0 s0) b0 i) / 256) k) / 256))] [ai E li 24 lf, aj E c 64 (cc N 0), aj E d 64 (cc N 1)] := by
                                  refine g_iload F 15 dL_unlike_265 rfl ?_
                                  refine g_callSiR (n := 2) F [] (c_L_number l E (ccf N (tk N ((nu N (tk N b1 s1) b1 i) / 256) ((nu N (tk N b1 s1) b1 i) % 256)) ((nu N (tk N b1 s1) b1 i) / 256)) k (by exact ccf_lt hN _ _) (by omega)) dL_unlike_267 rfl (by decide) rfl rfl rfl (Nat.le_of_ble_eq_true rfl) ⟨Nat.le_of_ble_eq_true rfl, Nat.le_of_ble_eq_true rfl⟩ rfl rfl ⟨Nat.le_of_ble_eq_true rfl, Nat.le_of_ble_eq_true rfl⟩ ggL_unlike_L_number (by decide +kernel) (by decide +kernel) (by decide +kernel) (by decide +kernel) (fun r u hp => by obtain ⟨-, h⟩ := hp; exact h) ?_
                                  rintro r_267 u_267 ⟨rfl, -⟩
                                  refine g_top (nI ((ccf N (tk N ((nu N (tk N b1 s1) b1 i) / 256) ((nu N (tk N b1 s1) b1 i) % 256)) ((nu N (tk N b1 s1) b1 i) / 256)) k)) (nI (nu N (tk N ((nu N (tk N b1 s1) b1 i) / 256) ((nu N (tk N b1 s1) b1 i) % 256)) ((nu N (tk N b1 s1) b1 i) / 256) k)) (by rfl) ?_
                                  refine g_sipush (v := nI 256) F dL_unlike_270 (by decide) ?_
                                  refine g_idivN F dL_unlike_273 (by omega) (by decide) (by decide) ?_
                                  refine g_icmp_eqN (tgt := 291) F dL_unlike_274 (by decide) (by omega) (by omega) (fun c274 => ?_) (fun c274 => ?_)
                                  · skip
                                    refine g_iinc (k := 15) (v := nI (k + 1)) (lv2 := [(15, .int (nI (k + 1))), (0, .int (nI p)), (1, .int (nI q)), (2, .ref li), (3, .ref c), (4, .ref d), (5, .int (nI b0)), (6, .int (nI b1)), (7, .int (nI (tk N b0 s0))), (8, .int (nI (tk N b1 s1))), (9, .int (nI y)), (10, .int (nI i)), (11, .int (nI (nu N (tk N b0 s0) b0 i))), (12, .int (nI (nu N (tk N b1 s1) b1 i))), (13, .int (nI (tk N ((nu N (tk N b0 s0) b0 i) / 256) ((nu N (tk N b0 s0) b0 i) % 256)))), (14, .int (nI (tk N ((nu N (tk N b1 s1) b1 i) / 256) ((nu N (tk N b1 s1) b1 i) % 256))))]) F dL_unlike_291 rfl (nI_1 _) (by decide) rfl ?_
                                    refine g_goto (tgt := 210) F dL_unlike_294 (by decide) ?_
                                    refine g_lv [1, 2, 3, 4, 5, 6, 7, 8, 9, 10, 11, 12, 13, 14, 15, 0] rfl ?_
                                    exact ih210 (k + 1) y (by omega) (by omega) (by rw [ucs_a c274, hy])
                                  · skip
                                    refine g_iload F 9 dL_unlike_277 rfl ?_
                                    refine g_iconst (v := nI 1) F dL_unlike_279 (by decide) ?_
                                    refine g_iconst (v := nI 4) F dL_unlike_280 (by decide) ?_
                                    refine g_iload F 10 dL_unlike_281 rfl ?_
                                    refine g_imulN F dL_unlike_283 ?_
                                    refine g_iload F 15 dL_unlike_284 rfl ?_
                                    refine g_iaddN F dL_unlike_286 ?_
                                    refine g_ishl F dL_unlike_287 ?_
                                    refine g_top ((nI 1) <<< ((nI ((4 * i) + k)) &&& 31)) (nI (2 ^ (4 * i + k))) (by exact shl1 (4 * i + k) (by omega)) ?_
                                    refine g_ior F dL_unlike_288 ?_
                                    refine g_top ((nI y) ||| (nI (2 ^ (4 * i + k)))) (nI (y ||| 2 ^ (4 * i + k))) (by rw [nI_or]) ?_
                                    refine g_istore (lv2 := [(9, .int (nI (y ||| 2 ^ (4 * i + k)))), (0, .int (nI p)), (1, .int (nI q)), (2, .ref li), (3, .ref c), (4, .ref d), (5, .int (nI b0)), (6, .int (nI b1)), (7, .int (nI (tk N b0 s0))), (8, .int (nI (tk N b1 s1))), (10, .int (nI i)), (11, .int (nI (nu N (tk N b0 s0) b0 i))), (12, .int (nI (nu N (tk N b1 s1) b1 i))), (13, .int (nI (tk N ((nu N (tk N b0 s0) b0 i) / 256) ((nu N (tk N b0 s0) b0 i) % 256)))), (14, .int (nI (tk N ((nu N (tk N b1 s1) b1 i) / 256) ((nu N (tk N b1 s1) b1 i) % 256)))), (15, .int (nI k))]) F dL_unlike_289 (by decide) rfl ?_
                                    refine g_iinc (k := 15) (v := nI (k + 1)) (lv2 := [(15, .int (nI (k + 1))), (9, .int (nI (y ||| 2 ^ (4 * i + k)))), (0, .int (nI p)), (1, .int (nI q)), (2, .ref li), (3, .ref c), (4, .ref d), (5, .int (nI b0)), (6, .int (nI b1)), (7, .int (nI (tk N b0 s0))), (8, .int (nI (tk N b1 s1))), (10, .int (nI i)), (11, .int (nI (nu N (tk N b0 s0) b0 i))), (12, .int (nI (nu N (tk N b1 s1) b1 i))), (13, .int (nI (tk N ((nu N (tk N b0 s0) b0 i) / 256) ((nu N (tk N b0 s0) b0 i) % 256)))), (14, .int (nI (tk N ((nu N (tk N b1 s1) b1 i) / 256) ((nu N (tk N b1 s1) b1 i) % 256))))]) F dL_unlike_291 rfl (nI_1 _) (by decide) rfl ?_
                                    refine g_goto (tgt := 210) F dL_unlike_294 (by decide) ?_
                                    refine g_lv [2, 3, 4, 5, 6, 7, 8, 9, 10, 1, 11, 12, 13, 14, 15, 0] rfl ?_
                                    exact ih210 (k + 1) (y ||| 2 ^ (4 * i + k)) (by omega) (by omega) (by rw [ucs_b c274, ucs_or, hy])
                                refine g_if_neN (tgt := 260) F dL_unlike_253 (by decide) (by omega) (fun c253 => ?_) (fun c253 => ?_)
                                · skip
                                  refine g_aload F 4 dL_unlike_260 rfl ?_
                                  refine g_callSjR (n := 2) F [2] (c_L_content l E d N 1 ((nu N (tk N b1 s1) b1 i) / 256) (by decide) (by omega) (by assumption)) dL_unlike_262 rfl (by decide) rfl rfl rfl (Nat.le_of_ble_eq_true rfl) ⟨Nat.le_of_ble_eq_true rfl, Nat.le_of_ble_eq_true rfl⟩ rfl rfl ⟨Nat.le_of_ble_eq_true rfl, Nat.le_of_ble_eq_true rfl⟩ ggL_unlike_L_content (by decide +kernel) (by decide +kernel) (by decide +kernel) (by decide +kernel) (fun r u hp => by obtain ⟨-, h⟩ := hp; exact h) ?_
                                  rintro r_262 u_262 ⟨rfl, -⟩
                                  refine g_topJ (pkN (ccf N 1 ((nu N (tk N b1 s1) b1 i) / 256))) (pkN (ccf N (tk N ((nu N (tk N b1 s1) b1 i) / 256) ((nu N (tk N b1 s1) b1 i) % 256)) ((nu N (tk N b1 s1) b1 i) / 256))) (by rw [show tk N ((nu N (tk N b1 s1) b1 i) / 256) ((nu N (tk N b1 s1) b1 i) % 256) = 1 by omega]) ?_
                                  exact kj265
                                · skip
                                  refine g_aload_n F 3 dL_unlike_256 rfl rfl ?_
                                  refine g_goto (tgt := 262) F dL_unlike_257 (by decide) ?_
                                  refine g_callSjR (n := 2) F [1] (c_L_content l E c N 0 ((nu N (tk N b1 s1) b1 i) / 256) (by decide) (by omega) (by assumption)) dL_unlike_262 rfl (by decide) rfl rfl rfl (Nat.le_of_ble_eq_true rfl) ⟨Nat.le_of_ble_eq_true rfl, Nat.le_of_ble_eq_true rfl⟩ rfl rfl ⟨Nat.le_of_ble_eq_true rfl, Nat.le_of_ble_eq_true rfl⟩ ggL_unlike_L_content (by decide +kernel) (by decide +kernel) (by decide +kernel) (by decide +kernel) (fun r u hp => by obtain ⟨-, h⟩ := hp; exact h) ?_
                                  rintro r_262 u_262 ⟨rfl, -⟩
                                  refine g_topJ (pkN (ccf N 0 ((nu N (tk N b1 s1) b1 i) / 256))) (pkN (ccf N (tk N ((nu N (tk N b1 s1) b1 i) / 256) ((nu N (tk N b1 s1) b1 i) % 256)) ((nu N (tk N b1 s1) b1 i) / 256))) (by rw [c253]) ?_
                                  exact kj265
                              refine g_if_neN (tgt := 231) F dL_unlike_224 (by decide) (by omega) (fun c224 => ?_) (fun c224 => ?_)
                              · skip
                                refine g_aload F 4 dL_unlike_231 rfl ?_
                                refine g_callSjR (n := 2) F [2] (c_L_content l E d N 1 ((nu N (tk N b0 s0) b0 i) / 256) (by decide) (by omega) (by assumption)) dL_unlike_233 rfl (by decide) rfl rfl rfl (Nat.le_of_ble_eq_true rfl) ⟨Nat.le_of_ble_eq_true rfl, Nat.le_of_ble_eq_true rfl⟩ rfl rfl ⟨Nat.le_of_ble_eq_true rfl, Nat.le_of_ble_eq_true rfl⟩ ggL_unlike_L_content (by decide +kernel) (by decide +kernel) (by decide +kernel) (by decide +kernel) (fun r u hp => by obtain ⟨-, h⟩ := hp; exact h) ?_
                                rintro r_233 u_233 ⟨rfl, -⟩
                                refine g_topJ (pkN (ccf N 1 ((nu N (tk N b0 s0) b0 i) / 256))) (pkN (ccf N (tk N ((nu N (tk N b0 s0) b0 i) / 256) ((nu N (tk N b0 s0) b0 i) % 256)) ((nu N (tk N b0 s0) b0 i) / 256))) (by rw [show tk N ((nu N (tk N b0 s0) b0 i) / 256) ((nu N (tk N b0 s0) b0 i) % 256) = 1 by omega]) ?_
                                exact kj236
                              · skip
                                refine g_aload_n F 3 dL_unlike_227 rfl rfl ?_
                                refine g_goto (tgt := 233) F dL_unlike_228 (by decide) ?_
                                refine g_callSjR (n := 2) F [1] (c_L_content l E c N 0 ((nu N (tk N b0 s0) b0 i) / 256) (by decide) (by omega) (by assumption)) dL_unlike_233 rfl (by decide) rfl rfl rfl (Nat.le_of_ble_eq_true rfl) ⟨Nat.le_of_ble_eq_true rfl, Nat.le_of_ble_eq_true rfl⟩ rfl rfl ⟨Nat.le_of_ble_eq_true rfl, Nat.le_of_ble_eq_true rfl⟩ ggL_unlike_L_content (by decide +kernel) (by decide +kernel) (by decide +kernel) (by decide +kernel) (fun r u hp => by obtain ⟨-, h⟩ := hp; exact h) ?_
                                rintro r_233 u_233 ⟨rfl, -⟩
                                refine g_topJ (pkN (ccf N 0 ((nu N (tk N b0 s0) b0 i) / 256))) (pkN (ccf N (tk N ((nu N (tk N b0 s0) b0 i) / 256) ((nu N (tk N b0 s0) b0 i) % 256)) ((nu N (tk N b0 s0) b0 i) / 256))) (by rw [c224]) ?_
                                exact kj236
                        refine g_lv [5, 6, 7, 8, 9, 10, 11, 12, 13, 14, 15, 4, 3, 2, 1, 0] rfl ?_
                        exact loop210 ((4 - 0) + 1) 0 zz (Nat.lt_succ_self _) (by omega) (by show zz = zz ||| 0 * _; rw [Nat.zero_mul, Nat.or_zero])
                      · skip
                        refine g_ldc (v := (-1000002)) F dL_unlike_204 (by decide +kernel) ?_
                        exact hret _ _ _ _ dL_unlike_206 ⟨(by 
                              have h16 := ucn_no (N := N) (p := (nu N (tk N b0 s0) b0 i)) (q := (nu N (tk N b1 s1) b1 i)) c146 (by omega)
                              unfold uly; rw [if_neg c22, if_neg (by omega), if_neg (by omega), uln_one (uln_at h16) 4 (by omega)]; rfl), rfl⟩
                  · skip
                    refine g_goto (tgt := 297) F dL_unlike_149 (by decide) ?_
                    refine g_iinc (k := 12) (v := nI (i + 1)) (lv2 := [(10, .int (nI (i + 1))), (12, .int (nI (nu N (tk N b1 s1) b1 i))), (11, .int (nI (nu N (tk N b0 s0) b0 i))), (0, .int (nI p)), (1, .int (nI q)), (2, .ref li), (3, .ref c), (4, .ref d), (5, .int (nI b0)), (6, .int (nI b1)), (7, .int (nI (tk N b0 s0))), (8, .int (nI (tk N b1 s1))), (9, .int (nI zz))]) F dL_unlike_297 rfl (nI_1 _) (by decide) rfl ?_
                    refine g_goto (tgt := 82) F dL_unlike_300 (by decide) ?_
                    refine g_lv [3, 4, 5, 6, 7, 8, 9, 10, 11, 12, 0] rfl ?_
                    exact ih82 (i + 1) zz (by omega) (by omega) (by exact (uln_0 hz hz2 c146).1) (by exact (uln_0 hz hz2 c146).2)
                refine g_if_neN (tgt := 122) F dL_unlike_115 (by decide) (by omega) (fun c115 => ?_) (fun c115 => ?_)
                · skip
                  refine g_aload F 5 dL_unlike_122 rfl ?_
                  refine g_callSjR (n := 2) F [2] (c_L_content l E d N 1 b1 (by decide) (by omega) (by assumption)) dL_unlike_124 rfl (by decide) rfl rfl rfl (Nat.le_of_ble_eq_true rfl) ⟨Nat.le_of_ble_eq_true rfl, Nat.le_of_ble_eq_true rfl⟩ rfl rfl ⟨Nat.le_of_ble_eq_true rfl, Nat.le_of_ble_eq_true rfl⟩ ggL_unlike_L_content (by decide +kernel) (by decide +kernel) (by decide +kernel) (by decide +kernel) (fun r u hp => by obtain ⟨-, h⟩ := hp; exact h) ?_
                  rintro r_124 u_124 ⟨rfl, -⟩
                  refine g_topJ (pkN (ccf N 1 b1)) (pkN (ccf N (tk N b1 s1) b1)) (by rw [show tk N b1 s1 = 1 by omega]) ?_
                  exact kj127
                · skip
                  refine g_aload_n F 4 dL_unlike_118 rfl rfl ?_
                  refine g_goto (tgt := 124) F dL_unlike_119 (by decide) ?_
                  refine g_callSjR (n := 2) F [1] (c_L_content l E c N 0 b1 (by decide) (by omega) (by assumption)) dL_unlike_124 rfl (by decide) rfl rfl rfl (Nat.le_of_ble_eq_true rfl) ⟨Nat.le_of_ble_eq_true rfl, Nat.le_of_ble_eq_true rfl⟩ rfl rfl ⟨Nat.le_of_ble_eq_true rfl, Nat.le_of_ble_eq_true rfl⟩ ggL_unlike_L_content (by decide +kernel) (by decide +kernel) (by decide +kernel) (by decide +kernel) (fun r u hp => by obtain ⟨-, h⟩ := hp; exact h) ?_
                  rintro r_124 u_124 ⟨rfl, -⟩
                  refine g_topJ (pkN (ccf N 0 b1)) (pkN (ccf N (tk N b1 s1) b1)) (by rw [c115]) ?_
                  exact kj127
              refine g_if_neN (tgt := 99) F dL_unlike_92 (by decide) (by omega) (fun c92 => ?_) (fun c92 => ?_)
              · skip
                refine g_aload F 4 dL_unlike_99 rfl ?_
                refine g_callSjR (n := 2) F [2] (c_L_content l E d N 1 b0 (by decide) (by omega) (by assumption)) dL_unlike_101 rfl (by decide) rfl rfl rfl (Nat.le_of_ble_eq_true rfl) ⟨Nat.le_of_ble_eq_true rfl, Nat.le_of_ble_eq_true rfl⟩ rfl rfl ⟨Nat.le_of_ble_eq_true rfl, Nat.le_of_ble_eq_true rfl⟩ ggL_unlike_L_content (by decide +kernel) (by decide +kernel) (by decide +kernel) (by decide +kernel) (fun r u hp => by obtain ⟨-, h⟩ := hp; exact h) ?_
                rintro r_101 u_101 ⟨rfl, -⟩
                refine g_topJ (pkN (ccf N 1 b0)) (pkN (ccf N (tk N b0 s0) b0)) (by rw [show tk N b0 s0 = 1 by omega]) ?_
                exact kj104
              · skip
                refine g_aload_n F 3 dL_unlike_95 rfl rfl ?_
                refine g_goto (tgt := 101) F dL_unlike_96 (by decide) ?_
                refine g_callSjR (n := 2) F [1] (c_L_content l E c N 0 b0 (by decide) (by omega) (by assumption)) dL_unlike_101 rfl (by decide) rfl rfl rfl (Nat.le_of_ble_eq_true rfl) ⟨Nat.le_of_ble_eq_true rfl, Nat.le_of_ble_eq_true rfl⟩ rfl rfl ⟨Nat.le_of_ble_eq_true rfl, Nat.le_of_ble_eq_true rfl⟩ ggL_unlike_L_content (by decide +kernel) (by decide +kernel) (by decide +kernel) (by decide +kernel) (fun r u hp => by obtain ⟨-, h⟩ := hp; exact h) ?_
                rintro r_101 u_101 ⟨rfl, -⟩
                refine g_topJ (pkN (ccf N 0 b0)) (pkN (ccf N (tk N b0 s0) b0)) (by rw [c92]) ?_
                exact kj104
        refine g_lv [6, 7, 8, 9, 10, 5, 4, 3, 2, 1, 0] rfl ?_
        exact loop82 ((4 - 0) + 1) 0 0 (Nat.lt_succ_self _) (by omega) (by rfl) (by decide)
      · skip
        refine g_ldc (v := (-1000002)) F dL_unlike_73 (by decide +kernel) ?_
        exact hret _ _ _ _ dL_unlike_75 ⟨(by unfold uly; rw [if_neg c22]; first | rw [if_pos (by omega)]; rfl | (rw [if_neg (by omega), if_pos (by omega)]; rfl)), rfl⟩
  · skip
    refine g_iconst (v := nI 0) F dL_unlike_25 (by decide) ?_
    exact hret _ _ _ _ dL_unlike_26 ⟨(by unfold uly; rw [if_pos c22]; rfl), rfl⟩
set_option maxHeartbeats 4000000 in
set_option maxRecDepth 100000 in
theorem c_L_mend (l : Launch) (E : En) (li : Nat) (c : Nat) (d : Nat) (N : Nat → Nat) (lf : Nat → Nat) (w : Nat) (Wf : Nat → Nat) (b0 : Nat) (s0 : Nat) (r : Nat) (l0 : Nat) (hr : r < 8) (hl : l0 < 16) (hN : BN N) (hZ : ZB N) (hb : lf (3 * r + 1) = b0) (hs : lf (3 * r + 2) = s0) (hb2 : b0 < 65536) (hs2 : s0 < 65536) : CtI l yL_mend wsL_mend ({ frames := 4, cells := 1, slots := 3, locals := 95 } : Room) E [.int (nI r), .int (nI l0), .ref li, .ref c, .ref d, .ref w] [ai E li 24 lf, aj E c 64 (cc N 0), aj E d 64 (cc N 1), ai E w 9 Wf] (fun rr uu => ∃ (W2 : Nat → Nat), rr = (nI ((md N (wb N b0 s0 l0) (wtc N b0 s0 l0) (gl N b0 s0 l0)).1)) ∧ uu = [ai E li 24 lf, aj E c 64 (cc (md N (wb N b0 s0 l0) (wtc N b0 s0 l0) (gl N b0 s0 l0)).2 0), aj E d 64 (cc (md N (wb N b0 s0 l0) (wtc N b0 s0 l0) (gl N b0 s0 l0)).2 1), ai E w 9 W2]) := by
  refine CtI.of cL_mend 11 RL .int rfl (by decide) rfl (Or.inl rfl) (Nat.le_of_ble_eq_true rfl) (fun h => by cases h) ?_
  intro Γ F hret
  show G Γ E 0 0 0 [(0, .int (nI r)), (1, .int (nI l0)), (2, .ref li), (3, .ref c), (4, .ref d), (5, .ref w)] [] [ai E li 24 lf, aj E c 64 (cc N 0), aj E d 64 (cc N 1), ai E w 9 Wf]
  refine g_iload_n F 0 dL_mend_0 rfl rfl ?_
  refine g_iload_n F 1 dL_mend_1 rfl rfl ?_
  refine g_aload_n F 2 dL_mend_2 rfl rfl ?_
  refine g_aload_n F 3 dL_mend_3 rfl rfl ?_
  refine g_aload F 4 dL_mend_4 rfl ?_
  refine g_aload F 5 dL_mend_6 rfl ?_
  refine g_callSiW (n := 6) F [0, 1, 2, 3] (c_L_way l E li c d N lf w Wf b0 s0 r l0 (by omega) (by omega) (by assumption) (by assumption) (by omega) (by omega) (by omega) (by omega)) dL_mend_8 rfl (by decide) rfl rfl rfl (Nat.le_of_ble_eq_true rfl) ⟨Nat.le_of_ble_eq_true rfl, Nat.le_of_ble_eq_true rfl⟩ rfl rfl ⟨Nat.le_of_ble_eq_true rfl, Nat.le_of_ble_eq_true rfl⟩ ggL_mend_L_way (by decide +kernel) (by decide +kernel) (by decide +kernel) (by decide +kernel) (fun r u hp => by obtain ⟨_, -, -, rfl⟩ := hp; rfl) ?_
  rintro r_8 u_8 ⟨W2_8, hW_8, rfl, rfl⟩
  refine g_ws (w2 := [ai E li 24 lf, aj E c 64 (cc N 0), aj E d 64 (cc N 1), ai E w 9 W2_8]) rfl ?_
  refine g_istore (lv2 := [(6, .int (nI (gl N b0 s0 l0))), (0, .int (nI r)), (1, .int (nI l0)), (2, .ref li), (3, .ref c), (4, .ref d), (5, .ref w)]) F dL_mend_11 (by decide) rfl ?_
  have hg3 := gl_le N b0 s0 l0
  refine g_iconst (v := nI 3) F dL_mend_13 (by decide) ?_
  refine g_newaJ F dL_mend_14 (by decide +kernel) (by decide) (Nat.le_of_ble_eq_true rfl) (Nat.le_of_ble_eq_true rfl) (fun q14 => ?_)
  refine g_w (w2 := [ai E li 24 lf, aj E c 64 (cc N 0), aj E d 64 (cc N 1), ai E w 9 W2_8, aj E q14 3 (fun _ => 0)]) (List.range 5) (by decide) rfl ?_
  refine g_widen (k := 1) (n := 3) (Nat.le_of_ble_eq_true rfl) (Nat.le_of_ble_eq_true rfl) ?_
  refine g_astore (lv2 := [(7, .ref q14), (6, .int (nI (gl N b0 s0 l0))), (0, .int (nI r)), (1, .int (nI l0)), (2, .ref li), (3, .ref c), (4, .ref d), (5, .ref w)]) F dL_mend_16 (by decide) rfl ?_
  refine g_iconst (v := nI 0) F dL_mend_18 (by decide) ?_
  refine g_istore (lv2 := [(8, .int (nI 0)), (7, .ref q14), (6, .int (nI (gl N b0 s0 l0))), (0, .int (nI r)), (1, .int (nI l0)), (2, .ref li), (3, .ref c), (4, .ref d), (5, .ref w)]) F dL_mend_19 (by decide) rfl ?_
  have loop21 : ∀ (n : Nat) (v : Nat) (T : Nat → Int64), 4 - v < n → (v ≤ gl N b0 s0 l0) → (∀ u : Nat, u < v → T u = pkN (ccf N (wd N b0 s0 l0 u) (wb N b0 s0 l0 u))) → G Γ E (1) (3) 21 [(0, .int (nI r)), (1, .int (nI l0)), (2, .ref li), (3, .ref c), (4, .ref d), (5, .ref w), (6, .int (nI (gl N b0 s0 l0))), (7, .ref q14), (8, .int (nI v))] [] [ai E li 24 lf, aj E c 64 (cc N 0), aj E d 64 (cc N 1), ai E w 9 W2_8, aj E q14 3 T] := by
    intro n
    induction n with
    | zero => intro v T hz; exact absurd hz (Nat.not_lt_zero _)
    | succ n ih21 =>
      intro v T hz21 hv hT
      refine g_iload F 8 dL_mend_21 rfl ?_
      refine g_iload F 6 dL_mend_23 rfl ?_
      refine g_icmp_geN (tgt := 64) F dL_mend_25 (by decide) (by omega) (by omega) (fun c25 => ?_) (fun c25 => ?_)
      · skip
        have hT9 : ∀ u : Nat, u < gl N b0 s0 l0 → T u = pkN (ccf N (wd N b0 s0 l0 u) (wb N b0 s0 l0 u)) := fun u hu => hT u (by omega)
        clear hT
        refine g_iconst (v := nI 0) F dL_mend_64 (by decide) ?_
        refine g_istore (lv2 := [(8, .int (nI 0)), (0, .int (nI r)), (1, .int (nI l0)), (2, .ref li), (3, .ref c), (4, .ref d), (5, .ref w), (6, .int (nI (gl N b0 s0 l0))), (7, .ref q14)]) F dL_mend_65 (by decide) rfl ?_
        refine g_iconst (v := nI 0) F dL_mend_67 (by decide) ?_
        refine g_istore (lv2 := [(9, .int (nI 0)), (8, .int (nI 0)), (0, .int (nI r)), (1, .int (nI l0)), (2, .ref li), (3, .ref c), (4, .ref d), (5, .ref w), (6, .int (nI (gl N b0 s0 l0))), (7, .ref q14)]) F dL_mend_68 (by decide) rfl ?_
        have loop70 : ∀ (n : Nat) (v : Nat) (y : Nat), 4 - v < n → (v ≤ gl N b0 s0 l0) → (y = (md N (wb N b0 s0 l0) (wtc N b0 s0 l0) v).1) → G Γ E (1) (3) 70 [(0, .int (nI r)), (1, .int (nI l0)), (2, .ref li), (3, .ref c), (4, .ref d), (5, .ref w), (6, .int (nI (gl N b0 s0 l0))), (7, .ref q14), (8, .int (nI y)), (9, .int (nI v))] [] [ai E li 24 lf, aj E c 64 (cc (md N (wb N b0 s0 l0) (wtc N b0 s0 l0) v).2 0), aj E d 64 (cc (md N (wb N b0 s0 l0) (wtc N b0 s0 l0) v).2 1), ai E w 9 W2_8, aj E q14 3 T] := by
          intro n
          induction n with
          | zero => intro v y hz; exact absurd hz (Nat.not_lt_zero _)
          | succ n ih70 =>
            intro v y hz70 hv2 hy
            refine g_iload F 9 dL_mend_70 rfl ?_
            refine g_iload F 6 dL_mend_72 rfl ?_
            refine g_icmp_geN (tgt := 142) F dL_mend_74 (by decide) (by omega) (by omega) (fun c74 => ?_) (fun c74 => ?_)
            · skip
              have hv9 : v = gl N b0 s0 l0 := by omega
              refine g_w (w2 := [ai E li 24 lf, aj E c 64 (cc (md N (wb N b0 s0 l0) (wtc N b0 s0 l0) v).2 0), aj E d 64 (cc (md N (wb N b0 s0 l0) (wtc N b0 s0 l0) v).2 1), ai E w 9 W2_8]) [0, 1, 2, 3] (by decide) rfl ?_
              refine g_iload F 8 dL_mend_142 rfl ?_
              refine g_ajC 1 rfl (cc (md N (wb N b0 s0 l0) (wtc N b0 s0 l0) (gl N b0 s0 l0)).2 0) (by intro j hj; rw [hv9]) (w2 := [ai E li 24 lf, aj E c 64 (cc (md N (wb N b0 s0 l0) (wtc N b0 s0 l0) (gl N b0 s0 l0)).2 0), aj E d 64 (cc (md N (wb N b0 s0 l0) (wtc N b0 s0 l0) v).2 1), ai E w 9 W2_8]) rfl ?_
              refine g_ajC 2 rfl (cc (md N (wb N b0 s0 l0) (wtc N b0 s0 l0) (gl N b0 s0 l0)).2 1) (by intro j hj; rw [hv9]) (w2 := [ai E li 24 lf, aj E c 64 (cc (md N (wb N b0 s0 l0) (wtc N b0 s0 l0) (gl N b0 s0 l0)).2 0), aj E d 64 (cc (md N (wb N b0 s0 l0) (wtc N b0 s0 l0) (gl N b0 s0 l0)).2 1), ai E w 9 W2_8]) rfl ?_
              exact hret _ _ _ _ dL_mend_144 ⟨W2_8, (congrArg nI (by rw [hy, hv9])), (by rfl)⟩
            · skip
              have hw9 := hW_8 v (by omega) (by omega)
              have hb96 : wb N b0 s0 l0 v < 96 := wb_in c74
              have hZv : ZB (md N (wb N b0 s0 l0) (wtc N b0 s0 l0) v).2 := ZB_md hZ b0 s0 l0 v (by omega)
              have hNv : BN (md N (wb N b0 s0 l0) (wtc N b0 s0 l0) v).2 := md_BN hN v (fun _ _ _ _ => wtc_lt hN _ _ _ _)
              refine g_aload F 5 dL_mend_77 rfl ?_
              refine g_iload F 9 dL_mend_79 rfl ?_
              refine g_iald F 3 dL_mend_81 rfl (by omega) (by decide) ?_
              refine g_top (nI (W2_8 v)) (nI (wb N b0 s0 l0 v)) (by rw [hw9.1]) ?_
              refine g_istore (lv2 := [(10, .int (nI (wb N b0 s0 l0 v))), (0, .int (nI r)), (1, .int (nI l0)), (2, .ref li), (3, .ref c), (4, .ref d), (5, .ref w), (6, .int (nI (gl N b0 s0 l0))), (7, .ref q14), (8, .int (nI y)), (9, .int (nI v))]) F dL_mend_82 (by decide) rfl ?_
              refine g_iload F 0 dL_mend_84 rfl ?_
              refine g_bipush (v := nI 63) F dL_mend_86 (by decide) ?_
              refine g_icmp_leN (tgt := 94) F dL_mend_88 (by decide) (by omega) (by omega) (fun c88 => ?_) (fun c88 => ?_)
              · skip
                refine g_iload F 9 dL_mend_94 rfl ?_
                refine g_aload_n F 4 dL_mend_96 rfl rfl ?_
                refine g_iload F 0 dL_mend_97 rfl ?_
                refine g_jald F 1 dL_mend_99 rfl (by omega) (by decide) ?_
                refine g_aload F 5 dL_mend_100 rfl ?_
                refine g_iload F 0 dL_mend_102 rfl ?_
                refine g_jald F 2 dL_mend_104 rfl (by omega) (by decide) ?_
                refine g_lcmp F dL_mend_105 ?_
                have kj114 : G Γ E (1) (3) 114 [(10, .int (nI (wb N b0 s0 l0 v))), (0, .int (nI r)), (1, .int (nI l0)), (2, .ref li), (3, .ref c), (4, .ref d), (5, .ref w), (6, .int (nI (gl N b0 s0 l0))), (7, .ref q14), (8, .int (nI y)), (9, .int (nI v))] [.int (nI (nal (md N (wb N b0 s0 l0) (wtc N b0 s0 l0) v).2 (wb N b0 s0 l0 v))), .int (nI y)] [ai E li 24 lf, aj E c 64 (cc (md N (wb N b0 s0 l0) (wtc N b0 s0 l0) v).2 0), aj E d 64 (cc (md N (wb N b0 s0 l0) (wtc N b0 s0 l0) v).2 1), ai E w 9 W2_8, aj E q14 3 T] := by
                  refine g_iaddN F dL_mend_114 ?_
                  refine g_istore (lv2 := [(8, .int (nI (y + (nal (md N (wb N b0 s0 l0) (wtc N b0 s0 l0) v).2 (wb N b0 s0 l0 v))))), (10, .int (nI (wb N b0 s0 l0 v))), (0, .int (nI r)), (1, .int (nI l0)), (2, .ref li), (3, .ref c), (4, .ref d), (5, .ref w), (6, .int (nI (gl N b0 s0 l0))), (7, .ref q14), (9, .int (nI v))]) F dL_mend_115 (by decide) rfl ?_
                  refine g_aload_n F 5 dL_mend_117 rfl rfl ?_
                  refine g_iload F 1 dL_mend_118 rfl ?_
                  refine g_aload F 9 dL_mend_120 rfl ?_
                  refine g_iload F 10 dL_mend_122 rfl ?_
                  refine g_jald F 4 dL_mend_124 rfl (by omega) (by decide) ?_
                  refine g_topJ (T v) (pkN (ccf N (wd N b0 s0 l0 v) (wb N b0 s0 l0 v))) (by exact hT9 v c74) ?_
                  refine g_jast F 1 dL_mend_125 rfl (by omega) (by decide) (w2 := [ai E li 24 lf, aj E c 64 (vp_updL (cc (md N (wb N b0 s0 l0) (wtc N b0 s0 l0) v).2 0) (wb N b0 s0 l0 v) (pkN (ccf N (wd N b0 s0 l0 v) (wb N b0 s0 l0 v)))), aj E d 64 (cc (md N (wb N b0 s0 l0) (wtc N b0 s0 l0) v).2 1), ai E w 9 W2_8, aj E q14 3 T]) rfl ?_
                  refine g_aload F 6 dL_mend_126 rfl ?_
                  refine g_iload F 1 dL_mend_128 rfl ?_
                  refine g_aload F 9 dL_mend_130 rfl ?_
                  refine g_iload F 10 dL_mend_132 rfl ?_
                  refine g_jald F 4 dL_mend_134 rfl (by omega) (by decide) ?_
                  refine g_topJ (T v) (pkN (ccf N (wd N b0 s0 l0 v) (wb N b0 s0 l0 v))) (by exact hT9 v c74) ?_
                  refine g_jast F 2 dL_mend_135 rfl (by omega) (by decide) (w2 := [ai E li 24 lf, aj E c 64 (vp_updL (cc (md N (wb N b0 s0 l0) (wtc N b0 s0 l0) v).2 0) (wb N b0 s0 l0 v) (pkN (ccf N (wd N b0 s0 l0 v) (wb N b0 s0 l0 v)))), aj E d 64 (vp_updL (cc (md N (wb N b0 s0 l0) (wtc N b0 s0 l0) v).2 1) (wb N b0 s0 l0 v) (pkN (ccf N (wd N b0 s0 l0 v) (wb N b0 s0 l0 v)))), ai E w 9 W2_8, aj E q14 3 T]) rfl ?_
                  refine g_iinc (k := 10) (v := nI (v + 1)) (lv2 := [(9, .int (nI (v + 1))), (8, .int (nI (y + (nal (md N (wb N b0 s0 l0) (wtc N b0 s0 l0) v).2 (wb N b0 s0 l0 v))))), (10, .int (nI (wb N b0 s0 l0 v))), (0, .int (nI r)), (1, .int (nI l0)), (2, .ref li), (3, .ref c), (4, .ref d), (5, .ref w), (6, .int (nI (gl N b0 s0 l0))), (7, .ref q14)]) F dL_mend_136 rfl (nI_1 _) (by decide) rfl ?_
                  refine g_goto (tgt := 70) F dL_mend_139 (by decide) ?_
                  refine g_ajC 1 rfl (cc (md N (wb N b0 s0 l0) (wtc N b0 s0 l0) (v + 1)).2 0) (by exact cc_upd (fun k hk => by rw [show (md N (wb N b0 s0 l0) (wtc N b0 s0 l0) (v + 1)).2 = ly2 (md N (wb N b0 s0 l0) (wtc N b0 s0 l0) v).2 (wb N b0 s0 l0 v) (wtc N b0 s0 l0) v from rfl, nu_ly2 (by decide) hb96 hb96 hk, if_pos rfl, wtc_at hk]; rfl) (fun j k hj hne hk => by rw [show (md N (wb N b0 s0 l0) (wtc N b0 s0 l0) (v + 1)).2 = ly2 (md N (wb N b0 s0 l0) (wtc N b0 s0 l0) v).2 (wb N b0 s0 l0 v) (wtc N b0 s0 l0) v from rfl, nu_ly2 (by decide) hb96 (by omega) hk, if_neg hne])) (w2 := [ai E li 24 lf, aj E c 64 (cc (md N (wb N b0 s0 l0) (wtc N b0 s0 l0) (v + 1)).2 0), aj E d 64 (vp_updL (cc (md N (wb N b0 s0 l0) (wtc N b0 s0 l0) v).2 1) (wb N b0 s0 l0 v) (pkN (ccf N (wd N b0 s0 l0 v) (wb N b0 s0 l0 v)))), ai E w 9 W2_8, aj E q14 3 T]) rfl ?_
                  refine g_ajC 2 rfl (cc (md N (wb N b0 s0 l0) (wtc N b0 s0 l0) (v + 1)).2 1) (by exact cc_upd (fun k hk => by rw [show (md N (wb N b0 s0 l0) (wtc N b0 s0 l0) (v + 1)).2 = ly2 (md N (wb N b0 s0 l0) (wtc N b0 s0 l0) v).2 (wb N b0 s0 l0 v) (wtc N b0 s0 l0) v from rfl, nu_ly2 (by decide) hb96 hb96 hk, if_pos rfl, wtc_at hk]; rfl) (fun j k hj hne hk => by rw [show (md N (wb N b0 s0 l0) (wtc N b0 s0 l0) (v + 1)).2 = ly2 (md N (wb N b0 s0 l0) (wtc N b0 s0 l0) v).2 (wb N b0 s0 l0 v) (wtc N b0 s0 l0) v from rfl, nu_ly2 (by decide) hb96 (by omega) hk, if_neg hne])) (w2 := [ai E li 24 lf, aj E c 64 (cc (md N (wb N b0 s0 l0) (wtc N b0 s0 l0) (v + 1)).2 0), aj E d 64 (cc (md N (wb N b0 s0 l0) (wtc N b0 s0 l0) (v + 1)).2 1), ai E w 9 W2_8, aj E q14 3 T]) rfl ?_
                  refine g_lv [3, 4, 5, 6, 7, 8, 9, 10, 1, 0] rfl ?_
                  exact ih70 (v + 1) (y + (nal (md N (wb N b0 s0 l0) (wtc N b0 s0 l0) v).2 (wb N b0 s0 l0 v))) (by omega) (by omega) (by rw [hy]; rfl)
                refine g_if_eq (tgt := 113) F dL_mend_106 (by decide) (fun c106 => ?_) (fun c106 => ?_)
                · skip
                  refine g_iconst (v := nI 0) F dL_mend_113 (by decide) ?_
                  refine g_top (nI 0) (nI (nal (md N (wb N b0 s0 l0) (wtc N b0 s0 l0) v).2 (wb N b0 s0 l0 v))) (by rw [nal_a ((al_cc hNv _).mp c106)]) ?_
                  exact kj114
                · skip
                  refine g_iconst (v := nI 1) F dL_mend_109 (by decide) ?_
                  refine g_goto (tgt := 114) F dL_mend_110 (by decide) ?_
                  refine g_top (nI 1) (nI (nal (md N (wb N b0 s0 l0) (wtc N b0 s0 l0) v).2 (wb N b0 s0 l0 v))) (by rw [nal_b (fun z => c106 ((al_cc hNv _).mpr z))]) ?_
                  exact kj114
              · skip
                refine g_goto (tgt := 136) F dL_mend_91 (by decide) ?_
                refine g_iinc (k := 10) (v := nI (v + 1)) (lv2 := [(9, .int (nI (v + 1))), (10, .int (nI (wb N b0 s0 l0 v))), (0, .int (nI r)), (1, .int (nI l0)), (2, .ref li), (3, .ref c), (4, .ref d), (5, .ref w), (6, .int (nI (gl N b0 s0 l0))), (7, .ref q14), (8, .int (nI y))]) F dL_mend_136 rfl (nI_1 _) (by decide) rfl ?_
                refine g_goto (tgt := 70) F dL_mend_139 (by decide) ?_
                refine g_ajC 1 rfl (cc (md N (wb N b0 s0 l0) (wtc N b0 s0 l0) (v + 1)).2 0) (by intro j hj; exact pk_congr (fun k hk => by show nu _ 0 j k = nu _ 0 j k; rw [show (md N (wb N b0 s0 l0) (wtc N b0 s0 l0) (v + 1)).2 = ly2 (md N (wb N b0 s0 l0) (wtc N b0 s0 l0) v).2 (wb N b0 s0 l0 v) (wtc N b0 s0 l0) v from rfl, nu_ly2 (by decide) hb96 (by omega) hk, if_neg (by omega)])) (w2 := [ai E li 24 lf, aj E c 64 (cc (md N (wb N b0 s0 l0) (wtc N b0 s0 l0) (v + 1)).2 0), aj E d 64 (cc (md N (wb N b0 s0 l0) (wtc N b0 s0 l0) v).2 1), ai E w 9 W2_8, aj E q14 3 T]) rfl ?_
                refine g_ajC 2 rfl (cc (md N (wb N b0 s0 l0) (wtc N b0 s0 l0) (v + 1)).2 1) (by intro j hj; exact pk_congr (fun k hk => by show nu _ 1 j k = nu _ 1 j k; rw [show (md N (wb N b0 s0 l0) (wtc N b0 s0 l0) (v + 1)).2 = ly2 (md N (wb N b0 s0 l0) (wtc N b0 s0 l0) v).2 (wb N b0 s0 l0 v) (wtc N b0 s0 l0) v from rfl, nu_ly2 (by decide) hb96 (by omega) hk, if_neg (by omega)])) (w2 := [ai E li 24 lf, aj E c 64 (cc (md N (wb N b0 s0 l0) (wtc N b0 s0 l0) (v + 1)).2 0), aj E d 64 (cc (md N (wb N b0 s0 l0) (wtc N b0 s0 l0) (v + 1)).2 1), ai E w 9 W2_8, aj E q14 3 T]) rfl ?_
                refine g_lv [2, 3, 4, 5, 6, 7, 8, 9, 10, 0] rfl ?_
                exact ih70 (v + 1) y (by omega) (by omega) (by rw [hy, md_a (al_big hZv (by omega) hb96)])
        refine g_ajC 1 rfl (cc (md N (wb N b0 s0 l0) (wtc N b0 s0 l0) 0).2 0) (by intro j hj; rfl) (w2 := [ai E li 24 lf, aj E c 64 (cc (md N (wb N b0 s0 l0) (wtc N b0 s0 l0) 0).2 0), aj E d 64 (cc N 1), ai E w 9 W2_8, aj E q14 3 T]) rfl ?_
        refine g_ajC 2 rfl (cc (md N (wb N b0 s0 l0) (wtc N b0 s0 l0) 0).2 1) (by intro j hj; rfl) (w2 := [ai E li 24 lf, aj E c 64 (cc (md N (wb N b0 s0 l0) (wtc N b0 s0 l0) 0).2 0), aj E d 64 (cc (md N (wb N b0 s0 l0) (wtc N b0 s0 l0) 0).2 1), ai E w 9 W2_8, aj E q14 3 T]) rfl ?_
        refine g_lv [2, 3, 4, 5, 6, 7, 8, 9, 1, 0] rfl ?_
        exact loop70 ((4 - 0) + 1) 0 0 (Nat.lt_succ_self _) (by exact Nat.zero_le _) (by rfl)
      · skip
        have hw9 := hW_8 v (by omega) (by omega)
        have hd9 := gl_lt c25
        have hb96 : wb N b0 s0 l0 v < 96 := wb_in c25
        refine g_aload F 7 dL_mend_28 rfl ?_
        refine g_iload F 8 dL_mend_30 rfl ?_
        refine g_aload F 5 dL_mend_32 rfl ?_
        refine g_iload F 8 dL_mend_34 rfl ?_
        refine g_iald F 3 dL_mend_36 rfl (by omega) (by decide) ?_
        refine g_top (nI (W2_8 v)) (nI (wb N b0 s0 l0 v)) (by rw [hw9.1]) ?_
        refine g_aload F 5 dL_mend_37 rfl ?_
        refine g_bipush (v := nI 6) F dL_mend_39 (by decide) ?_
        refine g_iload F 8 dL_mend_41 rfl ?_
        refine g_iaddN F dL_mend_43 ?_
        refine g_iald F 3 dL_mend_44 rfl (by omega) (by decide) ?_
        have kj57 : G Γ E (1) (3) 57 [(0, .int (nI r)), (1, .int (nI l0)), (2, .ref li), (3, .ref c), (4, .ref d), (5, .ref w), (6, .int (nI (gl N b0 s0 l0))), (7, .ref q14), (8, .int (nI v))] [.long (pkN (ccf N (wd N b0 s0 l0 v) (wb N b0 s0 l0 v))), .int (nI v), .ref q14] [ai E li 24 lf, aj E c 64 (cc N 0), aj E d 64 (cc N 1), ai E w 9 W2_8, aj E q14 3 T] := by
          refine g_jast F 4 dL_mend_57 rfl (by omega) (by decide) (w2 := [ai E li 24 lf, aj E c 64 (cc N 0), aj E d 64 (cc N 1), ai E w 9 W2_8, aj E q14 3 (vp_updL T v (pkN (ccf N (wd N b0 s0 l0 v) (wb N b0 s0 l0 v))))]) rfl ?_
          refine g_iinc (k := 8) (v := nI (v + 1)) (lv2 := [(8, .int (nI (v + 1))), (0, .int (nI r)), (1, .int (nI l0)), (2, .ref li), (3, .ref c), (4, .ref d), (5, .ref w), (6, .int (nI (gl N b0 s0 l0))), (7, .ref q14)]) F dL_mend_58 rfl (nI_1 _) (by decide) rfl ?_
          refine g_goto (tgt := 21) F dL_mend_61 (by decide) ?_
          refine g_lv [1, 2, 3, 4, 5, 6, 7, 8, 0] rfl ?_
          exact ih21 (v + 1) (vp_updL T v (pkN (ccf N (wd N b0 s0 l0 v) (wb N b0 s0 l0 v)))) (by omega) (by omega) (by intro u hu; unfold vp_updL; by_cases h : u = v; (rw [if_pos h, h]); (rw [if_neg h]; exact hT u (by omega)))
        refine g_top (nI (W2_8 (6 + v))) (nI (wd N b0 s0 l0 v)) (by rw [hw9.2.2]) ?_
        refine g_if_neN (tgt := 52) F dL_mend_45 (by decide) (by omega) (fun c45 => ?_) (fun c45 => ?_)
        · skip
          refine g_aload F 4 dL_mend_52 rfl ?_
          refine g_callSjR (n := 2) F [2] (c_L_content l E d N 1 (wb N b0 s0 l0 v) (by decide) (by omega) (by assumption)) dL_mend_54 rfl (by decide) rfl rfl rfl (Nat.le_of_ble_eq_true rfl) ⟨Nat.le_of_ble_eq_true rfl, Nat.le_of_ble_eq_true rfl⟩ rfl rfl ⟨Nat.le_of_ble_eq_true rfl, Nat.le_of_ble_eq_true rfl⟩ ggL_mend_L_content (by decide +kernel) (by decide +kernel) (by decide +kernel) (by decide +kernel) (fun r u hp => by obtain ⟨-, h⟩ := hp; exact h) ?_
          rintro r_54 u_54 ⟨rfl, -⟩
          refine g_topJ (pkN (ccf N 1 (wb N b0 s0 l0 v))) (pkN (ccf N (wd N b0 s0 l0 v) (wb N b0 s0 l0 v))) (by rw [show wd N b0 s0 l0 v = 1 by omega]) ?_
          exact kj57
        · skip
          refine g_aload_n F 3 dL_mend_48 rfl rfl ?_
          refine g_goto (tgt := 54) F dL_mend_49 (by decide) ?_
          refine g_callSjR (n := 2) F [1] (c_L_content l E c N 0 (wb N b0 s0 l0 v) (by decide) (by omega) (by assumption)) dL_mend_54 rfl (by decide) rfl rfl rfl (Nat.le_of_ble_eq_true rfl) ⟨Nat.le_of_ble_eq_true rfl, Nat.le_of_ble_eq_true rfl⟩ rfl rfl ⟨Nat.le_of_ble_eq_true rfl, Nat.le_of_ble_eq_true rfl⟩ ggL_mend_L_content (by decide +kernel) (by decide +kernel) (by decide +kernel) (by decide +kernel) (fun r u hp => by obtain ⟨-, h⟩ := hp; exact h) ?_
          rintro r_54 u_54 ⟨rfl, -⟩
          refine g_topJ (pkN (ccf N 0 (wb N b0 s0 l0 v))) (pkN (ccf N (wd N b0 s0 l0 v) (wb N b0 s0 l0 v))) (by rw [c45]) ?_
          exact kj57
  refine g_lv [3, 4, 5, 6, 7, 8, 2, 1, 0] rfl ?_
  exact loop21 ((4 - 0) + 1) 0 (fun _ => 0) (Nat.lt_succ_self _) (by exact Nat.zero_le _) (by intro u hu; omega)
