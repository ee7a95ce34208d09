/-! the law's write -/
def qfS (C : CS) : Nat → Nat := fun j => if j = 0 then sZ C else if j = 1 then sW C + 1 else if j = 2 then sM C else sW C
def LI (f : Nat → Nat) (C : CS) : Prop := ∀ i : Nat, i < sZ C → f (3 * i) = sn C i ∧ f (3 * i + 1) = sb C i ∧ f (3 * i + 2) = ss C i
def shk (f : Nat → Nat) (k z : Nat) : Nat → Nat := fun j => if k < j ∧ j ≤ 3 * z + 2 then f (j - 3) else f j
theorem shk_s {f : Nat → Nat} {k z : Nat} (h : 2 < k) (hk : k ≤ 3 * z + 2) : ∀ j, j < 24 → up (shk f k z) k (shk f k z (k - 3)) j = shk f (k - 1) z j := by
  intro j _
  by_cases h1 : j = k
  · have e1 : shk f k z (k - 3) = f (k - 3) := if_neg (by omega)
    have e2 : shk f (k - 1) z k = f (k - 3) := if_pos ⟨by omega, by omega⟩
    rw [h1, up_s, e1, e2]
  · rw [up_n _ _ h1]
    by_cases h2 : k < j ∧ j ≤ 3 * z + 2
    · have e1 : shk f k z j = f (j - 3) := if_pos h2
      have e2 : shk f (k - 1) z j = f (j - 3) := if_pos ⟨by omega, by omega⟩
      rw [e1, e2]
    · have e1 : shk f k z j = f j := if_neg h2
      have e2 : shk f (k - 1) z j = f j := if_neg (by omega)
      rw [e1, e2]
theorem lof_lt {U : Nat → Nat} (h : ff U 96 < 96) : lof U = nI (ff U 96) := by unfold lof; rw [if_pos h]
theorem LI_wr {f : Nat → Nat} {C : CS} {l p x : Nat} (h : LI f C) : LI (up (up (up (shk f 2 (sZ C)) 0 (sW C + 1)) 1 (b3 C)) 2 (sm (wrT C l p x) (0 * 4))) (wrS C l p x) := by
  intro i hi
  have hi2 : i < sZ C + 1 := hi
  show _ = alt (sn C) (sZ C) (sW C + 1) i ∧ _ = alt (sb C) (sZ C) (b3 C) i ∧ _ = alt (ss C) (sZ C) (sm (wrT C l p x) (0 * 4)) i
  by_cases h0 : i = 0
  · subst h0
    exact ⟨rfl, rfl, rfl⟩
  · have hx := h (i - 1) (by omega)
    have e : ∀ g : Nat → Nat, ∀ v : Nat, alt g (sZ C) v i = g (i - 1) := fun g v => by
      unfold alt; rw [if_neg h0, if_pos (by omega)]
    rw [e, e, e]
    have g : ∀ j : Nat, 2 < j → j ≤ 3 * sZ C + 2 → up (up (up (shk f 2 (sZ C)) 0 (sW C + 1)) 1 (b3 C)) 2 (sm (wrT C l p x) (0 * 4)) j = f (j - 3) := fun j hj hj2 => by
      rw [up_n _ _ (by omega), up_n _ _ (by omega), up_n _ _ (by omega)]
      unfold shk; rw [if_pos ⟨hj, hj2⟩]
    rw [g _ (by omega) (by omega), g _ (by omega) (by omega), g _ (by omega) (by omega)]
    rw [show 3 * i - 3 = 3 * (i - 1) by omega, show 3 * i + 1 - 3 = 3 * (i - 1) + 1 by omega, show 3 * i + 2 - 3 = 3 * (i - 1) + 2 by omega]
    exact hx
theorem cc_w0 {mi : Nat} {N T : Nat → Nat} {a b c : Nat} (ha : a < 64) (hb : b < 64) (hc : c < 64) (hab : a ≠ b) (hac : a ≠ c) (hbc : b ≠ c) : ∀ j, j < 64 → vp_updL (vp_updL (vp_updL (cc N 0) a (pkN (w1f mi N T a))) b (pkN (w2f mi N T b))) c (pkN (bk4 T 0)) j = cc (cN mi N a b c T) 0 j := by
  intro j hj
  have e : ∀ k, k < 4 → nu (cN mi N a b c T) 0 j k = if j = c then T (0 * 4 + k) else if j = b then w2f mi N T b k else if j = a then w1f mi N T a k else nu N 0 j k := fun k hk => nu_cN0 (by omega) (by omega) (by omega) hab hac hbc (by omega) hk
  unfold vp_updL
  by_cases h1 : j = c
  · rw [if_pos h1]; exact pk_congr (fun k hk => by show T (0 * 4 + k) = nu _ 0 j k; rw [e k hk, if_pos h1])
  · rw [if_neg h1]
    by_cases h2 : j = b
    · rw [if_pos h2]; exact pk_congr (fun k hk => by show _ = nu _ 0 j k; rw [e k hk, if_neg h1, if_pos h2])
    · rw [if_neg h2]
      by_cases h3 : j = a
      · rw [if_pos h3]; exact pk_congr (fun k hk => by show _ = nu _ 0 j k; rw [e k hk, if_neg h1, if_neg h2, if_pos h3])
      · rw [if_neg h3]; exact pk_congr (fun k hk => by show nu N 0 j k = nu _ 0 j k; rw [e k hk, if_neg h1, if_neg h2, if_neg h3])
theorem cc_w1 {mi : Nat} {N T : Nat → Nat} {a b c : Nat} (ha : a < 64) (hb : b < 64) (hc : c < 64) : ∀ j, j < 64 → vp_updL (vp_updL (vp_updL (cc N 1) a (pkN (bk4 T 2))) b (pkN (bk4 T 1))) c (pkN (bk4 T 0)) j = cc (cN mi N a b c T) 1 j := by
  intro j hj
  have e : ∀ k, k < 4 → nu (cN mi N a b c T) 1 j k = if j = c then T (0 * 4 + k) else if j = b then T (1 * 4 + k) else if j = a then T (2 * 4 + k) else nu N 1 j k := fun k hk => nu_cN1 (by omega) (by omega) (by omega) (by omega) hk
  unfold vp_updL
  by_cases h1 : j = c
  · rw [if_pos h1]; exact pk_congr (fun k hk => by show T (0 * 4 + k) = nu _ 1 j k; rw [e k hk, if_pos h1])
  · rw [if_neg h1]
    by_cases h2 : j = b
    · rw [if_pos h2]; exact pk_congr (fun k hk => by show T (1 * 4 + k) = nu _ 1 j k; rw [e k hk, if_neg h1, if_pos h2])
    · rw [if_neg h2]
      by_cases h3 : j = a
      · rw [if_pos h3]; exact pk_congr (fun k hk => by show T (2 * 4 + k) = nu _ 1 j k; rw [e k hk, if_neg h1, if_neg h2, if_pos h3])
      · rw [if_neg h3]; exact pk_congr (fun k hk => by show nu N 1 j k = nu _ 1 j k; rw [e k hk, if_neg h1, if_neg h2, if_neg h3])
theorem bu_at {U : Nat → Nat} {k : Nat} (hk : k < 96) : ∀ j, j < 2 → vp_updL (bu U) (k / 64) (bu U (k / 64) ||| (1 <<< ((nI (k % 64)).toInt64 &&& 63))) j = bu (up U k 1) j := fun j _ => congrFun (bu_set hk) j
set_option maxHeartbeats 4000000 in
set_option maxRecDepth 100000 in
theorem c_L_write_no (l : Launch) (E : En) (qq : Nat) (li : Nat) (us : Nat) (c : Nat) (d : Nat) (w : Nat) (C : CS) (lf : Nat → Nat) (Wf : Nat → Nat) (l0 : Nat) (p : Nat) (x : Nat) (hI : IC C) (hZ : ZB (sN C)) (hli : LI lf C) (hl : l0 < 16) (hp : p < 4) (hx : x < 1000) (hE : ¬ wrE C l0 = 0) : CtI l yL_write wsL_write ({ frames := 4, cells := 0, slots := 0, locals := 95 } : Room) E [.int (nI l0), .int (nI p), .int (nI x), .ref qq, .ref li, .ref us, .ref c, .ref d, .ref w] [ai E qq 4 (qfS C), ai E li 24 lf, aj E us 2 (bu (sU C)), aj E c 64 (cc (sN C) 0), aj E d 64 (cc (sN C) 1), ai E w 9 Wf] (fun rr uu => ∃ (W2 : Nat → Nat), rr = (wrE C l0) ∧ uu = [ai E qq 4 (qfS C), ai E li 24 lf, aj E us 2 (bu (sU C)), aj E c 64 (cc (sN C) 0), aj E d 64 (cc (sN C) 1), ai E w 9 W2]) := by
  refine CtI.of cL_write 30 RL .int rfl (by decide) rfl (Or.inl rfl) (Nat.le_of_ble_eq_true rfl) (fun h => by cases h) ?_
  intro Γ F hret
  show G Γ E 0 0 0 [(0, .int (nI l0)), (1, .int (nI p)), (2, .int (nI x)), (3, .ref qq), (4, .ref li), (5, .ref us), (6, .ref c), (7, .ref d), (8, .ref w)] [] [ai E qq 4 (qfS C), ai E li 24 lf, aj E us 2 (bu (sU C)), aj E c 64 (cc (sN C) 0), aj E d 64 (cc (sN C) 1), ai E w 9 Wf]
  have hz1 := hI.2.2.1
  have hz8 := hI.2.2.2.1
  have hrb := hI.rb (r := 0) (by omega)
  have hrs := hI.rs (r := 0) (by omega)
  have hcn := cn_le (sU C) 96
  refine g_aload_n F 3 dL_write_0 rfl rfl ?_
  refine g_iconst (v := nI 0) F dL_write_1 (by decide) ?_
  refine g_iald F 0 dL_write_2 rfl (by omega) (by decide) ?_
  refine g_top (nI ((qfS C) 0)) (nI (sZ C)) (by rfl) ?_
  refine g_bipush (v := nI 8) F dL_write_3 (by decide) ?_
  refine g_icmp_eqN (tgt := 17) F dL_write_5 (by decide) (by omega) (by omega) (fun c5 => ?_) (fun c5 => ?_)
  · skip
    refine g_ldc (v := (-1000003)) F dL_write_17 (by decide +kernel) ?_
    exact hret _ _ _ _ dL_write_19 ⟨Wf, (by show _ = pw _ _ _; unfold pw; first | rw [if_pos (show 8 ≤ sZ C by omega)] | rw [if_neg (show ¬ 8 ≤ sZ C by omega), if_pos (by omega)]), (by rfl)⟩
  · skip
    refine g_aload F 5 dL_write_8 rfl ?_
    refine g_callSiR (n := 1) F [2] (c_L_free l E us (sU C) ) dL_write_10 rfl (by decide) rfl rfl rfl (Nat.le_of_ble_eq_true rfl) ⟨Nat.le_of_ble_eq_true rfl, Nat.le_of_ble_eq_true rfl⟩ rfl rfl ⟨Nat.le_of_ble_eq_true rfl, Nat.le_of_ble_eq_true rfl⟩ ggL_write_L_free (by decide +kernel) (by decide +kernel) (by decide +kernel) (by decide +kernel) (fun r u hp => by obtain ⟨-, h⟩ := hp; exact h) ?_
    rintro r_10 u_10 ⟨rfl, -⟩
    refine g_iconst (v := nI 3) F dL_write_13 (by decide) ?_
    refine g_icmp_geN (tgt := 20) F dL_write_14 (by decide) (by omega) (by omega) (fun c14 => ?_) (fun c14 => ?_)
    · skip
      refine g_iconst (v := nI 0) F dL_write_20 (by decide) ?_
      refine g_iload_n F 0 dL_write_21 rfl rfl ?_
      refine g_aload F 4 dL_write_22 rfl ?_
      refine g_aload F 6 dL_write_24 rfl ?_
      refine g_aload F 7 dL_write_26 rfl ?_
      refine g_aload F 8 dL_write_28 rfl ?_
      refine g_callSiW (n := 6) F [1, 3, 4, 5] (c_L_way l E li c d (sN C) lf w Wf (sb C 0) (ss C 0) 0 l0 (by omega) (by omega) (by exact hI.1) (by exact hZ) (by exact (hli 0 (by omega)).2.1) (by exact (hli 0 (by omega)).2.2) (by omega) (by omega)) dL_write_30 rfl (by decide) rfl rfl rfl (Nat.le_of_ble_eq_true rfl) ⟨Nat.le_of_ble_eq_true rfl, Nat.le_of_ble_eq_true rfl⟩ rfl rfl ⟨Nat.le_of_ble_eq_true rfl, Nat.le_of_ble_eq_true rfl⟩ ggL_write_L_way (by decide +kernel) (by decide +kernel) (by decide +kernel) (by decide +kernel) (fun r u hp => by obtain ⟨_, -, -, rfl⟩ := hp; rfl) ?_
      rintro r_30 u_30 ⟨W2_30, hW_30, rfl, rfl⟩
      refine g_ws (w2 := [ai E qq 4 (qfS C), ai E li 24 lf, aj E us 2 (bu (sU C)), aj E c 64 (cc (sN C) 0), aj E d 64 (cc (sN C) 1), ai E w 9 W2_30]) rfl ?_
      refine g_iconst (v := nI 3) F dL_write_33 (by decide) ?_
      have hg9 := gl_le (sN C) (sb C 0) (ss C 0) l0
      refine g_icmp_geN (tgt := 40) F dL_write_34 (by decide) (by omega) (by omega) (fun c34 => ?_) (fun c34 => ?_)
      · skip
        exact absurd (show pw (sZ C) (cn (sU C) 96) (spC C 0 l0) = 0 from by unfold pw; rw [if_neg (by omega), if_neg (by omega), if_pos ((gl_sp _ _ _ _).mp (by have := gl_le (sN C) (sb C 0) (ss C 0) l0; omega))]; rfl) hE
      · skip
        refine g_ldc (v := (-1000002)) F dL_write_37 (by decide +kernel) ?_
        exact hret _ _ _ _ dL_write_39 ⟨W2_30, (by show _ = pw _ _ _; unfold pw; rw [if_neg (show ¬ 8 ≤ sZ C by omega), if_neg (by omega), if_neg (fun z => absurd ((gl_sp _ _ _ _).mpr z) (by omega))]), (by rfl)⟩
    · skip
      refine g_ldc (v := (-1000003)) F dL_write_17 (by decide +kernel) ?_
      exact hret _ _ _ _ dL_write_19 ⟨Wf, (by show _ = pw _ _ _; unfold pw; first | rw [if_pos (show 8 ≤ sZ C by omega)] | rw [if_neg (show ¬ 8 ≤ sZ C by omega), if_pos (by omega)]), (by rfl)⟩
set_option maxHeartbeats 4000000 in
set_option maxRecDepth 100000 in
theorem c_L_write_ok (l : Launch) (E : En) (qq : Nat) (li : Nat) (us : Nat) (c : Nat) (d : Nat) (w : Nat) (C : CS) (lf : Nat → Nat) (Wf : Nat → Nat) (l0 : Nat) (p : Nat) (x : Nat) (hI : IC C) (hZ : ZB (sN C)) (hli : LI lf C) (hl : l0 < 16) (hp : p < 4) (hx : x < 1000) (hE : wrE C l0 = 0) (ha : b1 C < 64) (hb : b2 C < 64) (hd : b3 C < 64) : CtI l yL_write wsL_write ({ frames := 4, cells := 0, slots := 0, locals := 95 } : Room) E [.int (nI l0), .int (nI p), .int (nI x), .ref qq, .ref li, .ref us, .ref c, .ref d, .ref w] [ai E qq 4 (qfS C), ai E li 24 lf, aj E us 2 (bu (sU C)), aj E c 64 (cc (sN C) 0), aj E d 64 (cc (sN C) 1), ai E w 9 Wf] (fun rr uu => ∃ (lf2 : Nat → Nat), ∃ (W2 : Nat → Nat), (LI lf2 (wrS C l0 p x)) ∧ rr = (nI (wtC C l0 (2 * 4 + p))) ∧ uu = [ai E qq 4 (qfS (wrS C l0 p x)), ai E li 24 lf2, aj E us 2 (bu (sU (wrS C l0 p x))), aj E c 64 (cc (sN (wrS C l0 p x)) 0), aj E d 64 (cc (sN (wrS C l0 p x)) 1), ai E w 9 W2]) := by
  refine CtI.of cL_write 30 RL .int rfl (by decide) rfl (Or.inl rfl) (Nat.le_of_ble_eq_true rfl) (fun h => by cases h) ?_
  intro Γ F hret
  show G Γ E 0 0 0 [(0, .int (nI l0)), (1, .int (nI p)), (2, .int (nI x)), (3, .ref qq), (4, .ref li), (5, .ref us), (6, .ref c), (7, .ref d), (8, .ref w)] [] [ai E qq 4 (qfS C), ai E li 24 lf, aj E us 2 (bu (sU C)), aj E c 64 (cc (sN C) 0), aj E d 64 (cc (sN C) 1), ai E w 9 Wf]
  have hz1 := hI.2.2.1
  have hz8 := hI.2.2.2.1
  have hrb := hI.rb (r := 0) (by omega)
  have hrs := hI.rs (r := 0) (by omega)
  have hcn := cn_le (sU C) 96
  have hok := pw_ok hE
  have hg3 : gl (sN C) (sb C 0) (ss C 0) l0 = 3 := (gl_sp _ _ _ _).mpr hok.2.2
  have hgd : ∀ v : Nat, v < 3 → wd (sN C) (sb C 0) (ss C 0) l0 v < 2 := fun v hv => gl_lt (by omega)
  have hgb : ∀ v : Nat, v < 3 → wb (sN C) (sb C 0) (ss C 0) l0 v < 96 := fun v hv => wb_in (by omega)
  have hbl := b_lt (C := C) hok.2.1
  have hbn := b_ne hbl.1 hbl.2.1 hbl.2.2
  have hTT : ∀ j : Nat, wrT C l0 p x j < 65536 := wrT_lt hI hl hx hbl.1 hbl.2.1
  have hs2 := sm_lt (bk4 (wrT C l0 p x) 2) 0
  have hs1 := sm_lt (bk4 (wrT C l0 p x) 1) 0
  refine g_aload_n F 3 dL_write_0 rfl rfl ?_
  refine g_iconst (v := nI 0) F dL_write_1 (by decide) ?_
  refine g_iald F 0 dL_write_2 rfl (by omega) (by decide) ?_
  refine g_top (nI ((qfS C) 0)) (nI (sZ C)) (by rfl) ?_
  refine g_bipush (v := nI 8) F dL_write_3 (by decide) ?_
  refine g_icmp_eqN (tgt := 17) F dL_write_5 (by decide) (by omega) (by omega) (fun c5 => ?_) (fun c5 => ?_)
  · skip
    exact absurd c5 (by omega)
  · skip
    refine g_aload F 5 dL_write_8 rfl ?_
    refine g_callSiR (n := 1) F [2] (c_L_free l E us (sU C) ) dL_write_10 rfl (by decide) rfl rfl rfl (Nat.le_of_ble_eq_true rfl) ⟨Nat.le_of_ble_eq_true rfl, Nat.le_of_ble_eq_true rfl⟩ rfl rfl ⟨Nat.le_of_ble_eq_true rfl, Nat.le_of_ble_eq_true rfl⟩ ggL_write_L_free (by decide +kernel) (by decide +kernel) (by decide +kernel) (by decide +kernel) (fun r u hp => by obtain ⟨-, h⟩ := hp; exact h) ?_
    rintro r_10 u_10 ⟨rfl, -⟩
    refine g_iconst (v := nI 3) F dL_write_13 (by decide) ?_
    refine g_icmp_geN (tgt := 20) F dL_write_14 (by decide) (by omega) (by omega) (fun c14 => ?_) (fun c14 => ?_)
    · skip
      refine g_iconst (v := nI 0) F dL_write_20 (by decide) ?_
      refine g_iload_n F 0 dL_write_21 rfl rfl ?_
      refine g_aload F 4 dL_write_22 rfl ?_
      refine g_aload F 6 dL_write_24 rfl ?_
      refine g_aload F 7 dL_write_26 rfl ?_
      refine g_aload F 8 dL_write_28 rfl ?_
      refine g_callSiW (n := 6) F [1, 3, 4, 5] (c_L_way l E li c d (sN C) lf w Wf (sb C 0) (ss C 0) 0 l0 (by omega) (by omega) (by exact hI.1) (by exact hZ) (by exact (hli 0 (by omega)).2.1) (by exact (hli 0 (by omega)).2.2) (by omega) (by omega)) dL_write_30 rfl (by decide) rfl rfl rfl (Nat.le_of_ble_eq_true rfl) ⟨Nat.le_of_ble_eq_true rfl, Nat.le_of_ble_eq_true rfl⟩ rfl rfl ⟨Nat.le_of_ble_eq_true rfl, Nat.le_of_ble_eq_true rfl⟩ ggL_write_L_way (by decide +kernel) (by decide +kernel) (by decide +kernel) (by decide +kernel) (fun r u hp => by obtain ⟨_, -, -, rfl⟩ := hp; rfl) ?_
      rintro r_30 u_30 ⟨W2_30, hW_30, rfl, rfl⟩
      refine g_ws (w2 := [ai E qq 4 (qfS C), ai E li 24 lf, aj E us 2 (bu (sU C)), aj E c 64 (cc (sN C) 0), aj E d 64 (cc (sN C) 1), ai E w 9 W2_30]) rfl ?_
      refine g_iconst (v := nI 3) F dL_write_33 (by decide) ?_
      refine g_icmp_geN (tgt := 40) F dL_write_34 (by decide) (by omega) (by omega) (fun c34 => ?_) (fun c34 => ?_)
      · skip
        have hw0 := hW_30 0 (by omega) (by omega)
        have hw1 := hW_30 1 (by omega) (by omega)
        have hw2 := hW_30 2 (by omega) (by omega)
        have hd0 := hgd 0 (by decide)
        have hd1 := hgd 1 (by decide)
        have hd2 := hgd 2 (by decide)
        refine g_aload F 8 dL_write_40 rfl ?_
        refine g_iconst (v := nI 0) F dL_write_42 (by decide) ?_
        refine g_iald F 5 dL_write_43 rfl (by omega) (by decide) ?_
        refine g_top (nI (W2_30 0)) (nI (wb (sN C) (sb C 0) (ss C 0) l0 0)) (by rw [hw0.1]) ?_
        refine g_aload F 8 dL_write_44 rfl ?_
        refine g_bipush (v := nI 6) F dL_write_46 (by decide) ?_
        refine g_iald F 5 dL_write_48 rfl (by omega) (by decide) ?_
        have kj62 : G Γ E (0) (0) 62 [(0, .int (nI l0)), (1, .int (nI p)), (2, .int (nI x)), (3, .ref qq), (4, .ref li), (5, .ref us), (6, .ref c), (7, .ref d), (8, .ref w)] [.long (pkN (ccf (sN C) (wd (sN C) (sb C 0) (ss C 0) l0 0) (wb (sN C) (sb C 0) (ss C 0) l0 0)))] [ai E qq 4 (qfS C), ai E li 24 lf, aj E us 2 (bu (sU C)), aj E c 64 (cc (sN C) 0), aj E d 64 (cc (sN C) 1), ai E w 9 W2_30] := by
          refine g_lstore (lv2 := [(9, .long (pkN (ccf (sN C) (wd (sN C) (sb C 0) (ss C 0) l0 0) (wb (sN C) (sb C 0) (ss C 0) l0 0)))), (0, .int (nI l0)), (1, .int (nI p)), (2, .int (nI x)), (3, .ref qq), (4, .ref li), (5, .ref us), (6, .ref c), (7, .ref d), (8, .ref w)]) F dL_write_62 (by decide) rfl ?_
          refine g_aload F 9 dL_write_64 rfl ?_
          refine g_iconst (v := nI 1) F dL_write_66 (by decide) ?_
          refine g_iald F 5 dL_write_67 rfl (by omega) (by decide) ?_
          refine g_top (nI (W2_30 1)) (nI (wb (sN C) (sb C 0) (ss C 0) l0 1)) (by rw [hw1.1]) ?_
          refine g_aload F 9 dL_write_68 rfl ?_
          refine g_bipush (v := nI 7) F dL_write_70 (by decide) ?_
          refine g_iald F 5 dL_write_72 rfl (by omega) (by decide) ?_
          have kj86 : G Γ E (0) (0) 86 [(9, .long (pkN (ccf (sN C) (wd (sN C) (sb C 0) (ss C 0) l0 0) (wb (sN C) (sb C 0) (ss C 0) l0 0)))), (0, .int (nI l0)), (1, .int (nI p)), (2, .int (nI x)), (3, .ref qq), (4, .ref li), (5, .ref us), (6, .ref c), (7, .ref d), (8, .ref w)] [.long (pkN (ccf (sN C) (wd (sN C) (sb C 0) (ss C 0) l0 1) (wb (sN C) (sb C 0) (ss C 0) l0 1)))] [ai E qq 4 (qfS C), ai E li 24 lf, aj E us 2 (bu (sU C)), aj E c 64 (cc (sN C) 0), aj E d 64 (cc (sN C) 1), ai E w 9 W2_30] := by
            refine g_lstore (lv2 := [(11, .long (pkN (ccf (sN C) (wd (sN C) (sb C 0) (ss C 0) l0 1) (wb (sN C) (sb C 0) (ss C 0) l0 1)))), (9, .long (pkN (ccf (sN C) (wd (sN C) (sb C 0) (ss C 0) l0 0) (wb (sN C) (sb C 0) (ss C 0) l0 0)))), (0, .int (nI l0)), (1, .int (nI p)), (2, .int (nI x)), (3, .ref qq), (4, .ref li), (5, .ref us), (6, .ref c), (7, .ref d), (8, .ref w)]) F dL_write_86 (by decide) rfl ?_
            refine g_aload F 10 dL_write_88 rfl ?_
            refine g_iconst (v := nI 2) F dL_write_90 (by decide) ?_
            refine g_iald F 5 dL_write_91 rfl (by omega) (by decide) ?_
            refine g_top (nI (W2_30 2)) (nI (wb (sN C) (sb C 0) (ss C 0) l0 2)) (by rw [hw2.1]) ?_
            refine g_aload F 10 dL_write_92 rfl ?_
            refine g_bipush (v := nI 8) F dL_write_94 (by decide) ?_
            refine g_iald F 5 dL_write_96 rfl (by omega) (by decide) ?_
            have kj110 : G Γ E (0) (0) 110 [(11, .long (pkN (ccf (sN C) (wd (sN C) (sb C 0) (ss C 0) l0 1) (wb (sN C) (sb C 0) (ss C 0) l0 1)))), (9, .long (pkN (ccf (sN C) (wd (sN C) (sb C 0) (ss C 0) l0 0) (wb (sN C) (sb C 0) (ss C 0) l0 0)))), (0, .int (nI l0)), (1, .int (nI p)), (2, .int (nI x)), (3, .ref qq), (4, .ref li), (5, .ref us), (6, .ref c), (7, .ref d), (8, .ref w)] [.long (pkN (ccf (sN C) (wd (sN C) (sb C 0) (ss C 0) l0 2) (wb (sN C) (sb C 0) (ss C 0) l0 2)))] [ai E qq 4 (qfS C), ai E li 24 lf, aj E us 2 (bu (sU C)), aj E c 64 (cc (sN C) 0), aj E d 64 (cc (sN C) 1), ai E w 9 W2_30] := by
              refine g_lstore (lv2 := [(13, .long (pkN (ccf (sN C) (wd (sN C) (sb C 0) (ss C 0) l0 2) (wb (sN C) (sb C 0) (ss C 0) l0 2)))), (11, .long (pkN (ccf (sN C) (wd (sN C) (sb C 0) (ss C 0) l0 1) (wb (sN C) (sb C 0) (ss C 0) l0 1)))), (9, .long (pkN (ccf (sN C) (wd (sN C) (sb C 0) (ss C 0) l0 0) (wb (sN C) (sb C 0) (ss C 0) l0 0)))), (0, .int (nI l0)), (1, .int (nI p)), (2, .int (nI x)), (3, .ref qq), (4, .ref li), (5, .ref us), (6, .ref c), (7, .ref d), (8, .ref w)]) F dL_write_110 (by decide) rfl ?_
              refine g_lload F 0 dL_write_112 rfl ?_
              refine g_iload_n F 4 dL_write_114 rfl rfl ?_
              refine g_callSiR (n := 2) F [] (c_L_number l E (ccf (sN C) (wd (sN C) (sb C 0) (ss C 0) l0 2) (wb (sN C) (sb C 0) (ss C 0) l0 2)) p (by exact ccf_lt hI.1 _ _) (by omega)) dL_write_115 rfl (by decide) rfl rfl rfl (Nat.le_of_ble_eq_true rfl) ⟨Nat.le_of_ble_eq_true rfl, Nat.le_of_ble_eq_true rfl⟩ rfl rfl ⟨Nat.le_of_ble_eq_true rfl, Nat.le_of_ble_eq_true rfl⟩ ggL_write_L_number (by decide +kernel) (by decide +kernel) (by decide +kernel) (by decide +kernel) (fun r u hp => by obtain ⟨-, h⟩ := hp; exact h) ?_
              rintro r_115 u_115 ⟨rfl, -⟩
              refine g_top (nI ((ccf (sN C) (wd (sN C) (sb C 0) (ss C 0) l0 2) (wb (sN C) (sb C 0) (ss C 0) l0 2)) p)) (nI (nu (sN C) (wd (sN C) (sb C 0) (ss C 0) l0 2) (wb (sN C) (sb C 0) (ss C 0) l0 2) p)) (by rfl) ?_
              refine g_istore (lv2 := [(15, .int (nI (nu (sN C) (wd (sN C) (sb C 0) (ss C 0) l0 2) (wb (sN C) (sb C 0) (ss C 0) l0 2) p))), (13, .long (pkN (ccf (sN C) (wd (sN C) (sb C 0) (ss C 0) l0 2) (wb (sN C) (sb C 0) (ss C 0) l0 2)))), (11, .long (pkN (ccf (sN C) (wd (sN C) (sb C 0) (ss C 0) l0 1) (wb (sN C) (sb C 0) (ss C 0) l0 1)))), (9, .long (pkN (ccf (sN C) (wd (sN C) (sb C 0) (ss C 0) l0 0) (wb (sN C) (sb C 0) (ss C 0) l0 0)))), (0, .int (nI l0)), (1, .int (nI p)), (2, .int (nI x)), (3, .ref qq), (4, .ref li), (5, .ref us), (6, .ref c), (7, .ref d), (8, .ref w)]) F dL_write_118 (by decide) rfl ?_
              refine g_lload F 1 dL_write_120 rfl ?_
              refine g_iload_n F 5 dL_write_122 rfl rfl ?_
              refine g_iload_n F 6 dL_write_123 rfl rfl ?_
              refine g_callSjR (n := 3) F [] (c_L_with l E (ccf (sN C) (wd (sN C) (sb C 0) (ss C 0) l0 2) (wb (sN C) (sb C 0) (ss C 0) l0 2)) p x (by omega) (by omega)) dL_write_124 rfl (by decide) rfl rfl rfl (Nat.le_of_ble_eq_true rfl) ⟨Nat.le_of_ble_eq_true rfl, Nat.le_of_ble_eq_true rfl⟩ rfl rfl ⟨Nat.le_of_ble_eq_true rfl, Nat.le_of_ble_eq_true rfl⟩ ggL_write_L_with (by decide +kernel) (by decide +kernel) (by decide +kernel) (by decide +kernel) (fun r u hp => by obtain ⟨-, h⟩ := hp; exact h) ?_
              rintro r_124 u_124 ⟨rfl, -⟩
              refine g_topJ (pkN (up (ccf (sN C) (wd (sN C) (sb C 0) (ss C 0) l0 2) (wb (sN C) (sb C 0) (ss C 0) l0 2)) p x)) (pkN (bk4 (wrT C l0 p x) 2)) (by exact wr_now hl) ?_
              refine g_lstore (lv2 := [(16, .long (pkN (bk4 (wrT C l0 p x) 2))), (15, .int (nI (nu (sN C) (wd (sN C) (sb C 0) (ss C 0) l0 2) (wb (sN C) (sb C 0) (ss C 0) l0 2) p))), (13, .long (pkN (ccf (sN C) (wd (sN C) (sb C 0) (ss C 0) l0 2) (wb (sN C) (sb C 0) (ss C 0) l0 2)))), (11, .long (pkN (ccf (sN C) (wd (sN C) (sb C 0) (ss C 0) l0 1) (wb (sN C) (sb C 0) (ss C 0) l0 1)))), (9, .long (pkN (ccf (sN C) (wd (sN C) (sb C 0) (ss C 0) l0 0) (wb (sN C) (sb C 0) (ss C 0) l0 0)))), (0, .int (nI l0)), (1, .int (nI p)), (2, .int (nI x)), (3, .ref qq), (4, .ref li), (5, .ref us), (6, .ref c), (7, .ref d), (8, .ref w)]) F dL_write_127 (by decide) rfl ?_
              refine g_aload F 10 dL_write_129 rfl ?_
              refine g_callSiR (n := 1) F [2] (c_L_first l E us (sU C) ) dL_write_131 rfl (by decide) rfl rfl rfl (Nat.le_of_ble_eq_true rfl) ⟨Nat.le_of_ble_eq_true rfl, Nat.le_of_ble_eq_true rfl⟩ rfl rfl ⟨Nat.le_of_ble_eq_true rfl, Nat.le_of_ble_eq_true rfl⟩ ggL_write_L_first (by decide +kernel) (by decide +kernel) (by decide +kernel) (by decide +kernel) (fun r u hp => by obtain ⟨-, h⟩ := hp; exact h) ?_
              rintro r_131 u_131 ⟨rfl, -⟩
              refine g_top (lof (sU C)) (nI (b1 C)) (by exact lof_lt hbl.1) ?_
              refine g_istore (lv2 := [(18, .int (nI (b1 C))), (16, .long (pkN (bk4 (wrT C l0 p x) 2))), (15, .int (nI (nu (sN C) (wd (sN C) (sb C 0) (ss C 0) l0 2) (wb (sN C) (sb C 0) (ss C 0) l0 2) p))), (13, .long (pkN (ccf (sN C) (wd (sN C) (sb C 0) (ss C 0) l0 2) (wb (sN C) (sb C 0) (ss C 0) l0 2)))), (11, .long (pkN (ccf (sN C) (wd (sN C) (sb C 0) (ss C 0) l0 1) (wb (sN C) (sb C 0) (ss C 0) l0 1)))), (9, .long (pkN (ccf (sN C) (wd (sN C) (sb C 0) (ss C 0) l0 0) (wb (sN C) (sb C 0) (ss C 0) l0 0)))), (0, .int (nI l0)), (1, .int (nI p)), (2, .int (nI x)), (3, .ref qq), (4, .ref li), (5, .ref us), (6, .ref c), (7, .ref d), (8, .ref w)]) F dL_write_134 (by decide) rfl ?_
              refine g_aload F 11 dL_write_136 rfl ?_
              refine g_iload F 0 dL_write_138 rfl ?_
              refine g_bipush (v := nI 64) F dL_write_140 (by decide) ?_
              refine g_idivN F dL_write_142 (by omega) (by decide) (by decide) ?_
              refine g_dup2 F dL_write_143 rfl rfl ?_
              refine g_jald F 2 dL_write_144 rfl (by omega) (by decide) ?_
              refine g_lconst (v := 1) F dL_write_145 (by decide) ?_
              refine g_iload F 0 dL_write_146 rfl ?_
              refine g_bipush (v := nI 64) F dL_write_148 (by decide) ?_
              refine g_iremN F dL_write_150 (by omega) (by decide) (by decide) ?_
              refine g_lshl (v := 1 <<< ((nI ((b1 C) % 64)).toInt64 &&& 63)) F dL_write_151 (by rfl) ?_
              refine g_lor F dL_write_152 ?_
              refine g_jast F 2 dL_write_153 rfl (by omega) (by decide) (w2 := [ai E qq 4 (qfS C), ai E li 24 lf, aj E us 2 (vp_updL (bu (sU C)) ((b1 C) / 64) (((bu (sU C)) ((b1 C) / 64)) ||| (1 <<< ((nI ((b1 C) % 64)).toInt64 &&& 63)))), aj E c 64 (cc (sN C) 0), aj E d 64 (cc (sN C) 1), ai E w 9 W2_30]) rfl ?_
              refine g_ajC 2 rfl (bu (up (sU C) (b1 C) 1)) (by exact bu_at (by omega)) (w2 := [ai E qq 4 (qfS C), ai E li 24 lf, aj E us 2 (bu (up (sU C) (b1 C) 1)), aj E c 64 (cc (sN C) 0), aj E d 64 (cc (sN C) 1), ai E w 9 W2_30]) rfl ?_
              refine g_aload F 11 dL_write_154 rfl ?_
              refine g_callSiR (n := 1) F [2] (c_L_first l E us (up (sU C) (b1 C) 1) ) dL_write_156 rfl (by decide) rfl rfl rfl (Nat.le_of_ble_eq_true rfl) ⟨Nat.le_of_ble_eq_true rfl, Nat.le_of_ble_eq_true rfl⟩ rfl rfl ⟨Nat.le_of_ble_eq_true rfl, Nat.le_of_ble_eq_true rfl⟩ ggL_write_L_first (by decide +kernel) (by decide +kernel) (by decide +kernel) (by decide +kernel) (fun r u hp => by obtain ⟨-, h⟩ := hp; exact h) ?_
              rintro r_156 u_156 ⟨rfl, -⟩
              refine g_top (lof (up (sU C) (b1 C) 1)) (nI (b2 C)) (by exact lof_lt hbl.2.1) ?_
              refine g_istore (lv2 := [(19, .int (nI (b2 C))), (18, .int (nI (b1 C))), (16, .long (pkN (bk4 (wrT C l0 p x) 2))), (15, .int (nI (nu (sN C) (wd (sN C) (sb C 0) (ss C 0) l0 2) (wb (sN C) (sb C 0) (ss C 0) l0 2) p))), (13, .long (pkN (ccf (sN C) (wd (sN C) (sb C 0) (ss C 0) l0 2) (wb (sN C) (sb C 0) (ss C 0) l0 2)))), (11, .long (pkN (ccf (sN C) (wd (sN C) (sb C 0) (ss C 0) l0 1) (wb (sN C) (sb C 0) (ss C 0) l0 1)))), (9, .long (pkN (ccf (sN C) (wd (sN C) (sb C 0) (ss C 0) l0 0) (wb (sN C) (sb C 0) (ss C 0) l0 0)))), (0, .int (nI l0)), (1, .int (nI p)), (2, .int (nI x)), (3, .ref qq), (4, .ref li), (5, .ref us), (6, .ref c), (7, .ref d), (8, .ref w)]) F dL_write_159 (by decide) rfl ?_
              refine g_aload F 12 dL_write_161 rfl ?_
              refine g_iload F 0 dL_write_163 rfl ?_
              refine g_bipush (v := nI 64) F dL_write_165 (by decide) ?_
              refine g_idivN F dL_write_167 (by omega) (by decide) (by decide) ?_
              refine g_dup2 F dL_write_168 rfl rfl ?_
              refine g_jald F 2 dL_write_169 rfl (by omega) (by decide) ?_
              refine g_lconst (v := 1) F dL_write_170 (by decide) ?_
              refine g_iload F 0 dL_write_171 rfl ?_
              refine g_bipush (v := nI 64) F dL_write_173 (by decide) ?_
              refine g_iremN F dL_write_175 (by omega) (by decide) (by decide) ?_
              refine g_lshl (v := 1 <<< ((nI ((b2 C) % 64)).toInt64 &&& 63)) F dL_write_176 (by rfl) ?_
              refine g_lor F dL_write_177 ?_
              refine g_jast F 2 dL_write_178 rfl (by omega) (by decide) (w2 := [ai E qq 4 (qfS C), ai E li 24 lf, aj E us 2 (vp_updL (bu (up (sU C) (b1 C) 1)) ((b2 C) / 64) (((bu (up (sU C) (b1 C) 1)) ((b2 C) / 64)) ||| (1 <<< ((nI ((b2 C) % 64)).toInt64 &&& 63)))), aj E c 64 (cc (sN C) 0), aj E d 64 (cc (sN C) 1), ai E w 9 W2_30]) rfl ?_
              refine g_ajC 2 rfl (bu (up (up (sU C) (b1 C) 1) (b2 C) 1)) (by exact bu_at (by omega)) (w2 := [ai E qq 4 (qfS C), ai E li 24 lf, aj E us 2 (bu (up (up (sU C) (b1 C) 1) (b2 C) 1)), aj E c 64 (cc (sN C) 0), aj E d 64 (cc (sN C) 1), ai E w 9 W2_30]) rfl ?_
              refine g_aload F 12 dL_write_179 rfl ?_
              refine g_callSiR (n := 1) F [2] (c_L_first l E us (up (up (sU C) (b1 C) 1) (b2 C) 1) ) dL_write_181 rfl (by decide) rfl rfl rfl (Nat.le_of_ble_eq_true rfl) ⟨Nat.le_of_ble_eq_true rfl, Nat.le_of_ble_eq_true rfl⟩ rfl rfl ⟨Nat.le_of_ble_eq_true rfl, Nat.le_of_ble_eq_true rfl⟩ ggL_write_L_first (by decide +kernel) (by decide +kernel) (by decide +kernel) (by decide +kernel) (fun r u hp => by obtain ⟨-, h⟩ := hp; exact h) ?_
              rintro r_181 u_181 ⟨rfl, -⟩
              refine g_top (lof (up (up (sU C) (b1 C) 1) (b2 C) 1)) (nI (b3 C)) (by exact lof_lt hbl.2.2) ?_
              refine g_istore (lv2 := [(20, .int (nI (b3 C))), (19, .int (nI (b2 C))), (18, .int (nI (b1 C))), (16, .long (pkN (bk4 (wrT C l0 p x) 2))), (15, .int (nI (nu (sN C) (wd (sN C) (sb C 0) (ss C 0) l0 2) (wb (sN C) (sb C 0) (ss C 0) l0 2) p))), (13, .long (pkN (ccf (sN C) (wd (sN C) (sb C 0) (ss C 0) l0 2) (wb (sN C) (sb C 0) (ss C 0) l0 2)))), (11, .long (pkN (ccf (sN C) (wd (sN C) (sb C 0) (ss C 0) l0 1) (wb (sN C) (sb C 0) (ss C 0) l0 1)))), (9, .long (pkN (ccf (sN C) (wd (sN C) (sb C 0) (ss C 0) l0 0) (wb (sN C) (sb C 0) (ss C 0) l0 0)))), (0, .int (nI l0)), (1, .int (nI p)), (2, .int (nI x)), (3, .ref qq), (4, .ref li), (5, .ref us), (6, .ref c), (7, .ref d), (8, .ref w)]) F dL_write_184 (by decide) rfl ?_
              refine g_aload F 13 dL_write_186 rfl ?_
              refine g_iload F 0 dL_write_188 rfl ?_
              refine g_bipush (v := nI 64) F dL_write_190 (by decide) ?_
              refine g_idivN F dL_write_192 (by omega) (by decide) (by decide) ?_
              refine g_dup2 F dL_write_193 rfl rfl ?_
              refine g_jald F 2 dL_write_194 rfl (by omega) (by decide) ?_
              refine g_lconst (v := 1) F dL_write_195 (by decide) ?_
              refine g_iload F 0 dL_write_196 rfl ?_
              refine g_bipush (v := nI 64) F dL_write_198 (by decide) ?_
              refine g_iremN F dL_write_200 (by omega) (by decide) (by decide) ?_
              refine g_lshl (v := 1 <<< ((nI ((b3 C) % 64)).toInt64 &&& 63)) F dL_write_201 (by rfl) ?_
              refine g_lor F dL_write_202 ?_
              refine g_jast F 2 dL_write_203 rfl (by omega) (by decide) (w2 := [ai E qq 4 (qfS C), ai E li 24 lf, aj E us 2 (vp_updL (bu (up (up (sU C) (b1 C) 1) (b2 C) 1)) ((b3 C) / 64) (((bu (up (up (sU C) (b1 C) 1) (b2 C) 1)) ((b3 C) / 64)) ||| (1 <<< ((nI ((b3 C) % 64)).toInt64 &&& 63)))), aj E c 64 (cc (sN C) 0), aj E d 64 (cc (sN C) 1), ai E w 9 W2_30]) rfl ?_
              refine g_ajC 2 rfl (bu (up (up (up (sU C) (b1 C) 1) (b2 C) 1) (b3 C) 1)) (by exact bu_at (by omega)) (w2 := [ai E qq 4 (qfS C), ai E li 24 lf, aj E us 2 (bu (up (up (up (sU C) (b1 C) 1) (b2 C) 1) (b3 C) 1)), aj E c 64 (cc (sN C) 0), aj E d 64 (cc (sN C) 1), ai E w 9 W2_30]) rfl ?_
              refine g_lload F 6 dL_write_204 rfl ?_
              refine g_iload_n F 8 dL_write_206 rfl rfl ?_
              refine g_iconst (v := nI 4) F dL_write_207 (by decide) ?_
              refine g_iremN F dL_write_208 (by omega) (by decide) (by decide) ?_
              refine g_sipush (v := nI 256) F dL_write_209 (by decide) ?_
              refine g_iload F 2 dL_write_212 rfl ?_
              refine g_imulN F dL_write_214 ?_
              refine g_lload F 3 dL_write_215 rfl ?_
              refine g_callSiR (n := 1) F [] (c_L_sum l E (bk4 (wrT C l0 p x) 2) (by exact fun j _ => hTT _)) dL_write_217 rfl (by decide) rfl rfl rfl (Nat.le_of_ble_eq_true rfl) ⟨Nat.le_of_ble_eq_true rfl, Nat.le_of_ble_eq_true rfl⟩ rfl rfl ⟨Nat.le_of_ble_eq_true rfl, Nat.le_of_ble_eq_true rfl⟩ ggL_write_L_sum (by decide +kernel) (by decide +kernel) (by decide +kernel) (by decide +kernel) (fun r u hp => by obtain ⟨-, h⟩ := hp; exact h) ?_
              rintro r_217 u_217 ⟨rfl, -⟩
              refine g_iaddN F dL_write_220 ?_
              refine g_callSjR (n := 3) F [] (c_L_with l E (ccf (sN C) (wd (sN C) (sb C 0) (ss C 0) l0 1) (wb (sN C) (sb C 0) (ss C 0) l0 1)) (l0 % 4) ((256 * (b1 C)) + (sm (bk4 (wrT C l0 p x) 2) 0)) (by omega) (by omega)) dL_write_221 rfl (by decide) rfl rfl rfl (Nat.le_of_ble_eq_true rfl) ⟨Nat.le_of_ble_eq_true rfl, Nat.le_of_ble_eq_true rfl⟩ rfl rfl ⟨Nat.le_of_ble_eq_true rfl, Nat.le_of_ble_eq_true rfl⟩ ggL_write_L_with (by decide +kernel) (by decide +kernel) (by decide +kernel) (by decide +kernel) (fun r u hp => by obtain ⟨-, h⟩ := hp; exact h) ?_
              rintro r_221 u_221 ⟨rfl, -⟩
              refine g_topJ (pkN (up (ccf (sN C) (wd (sN C) (sb C 0) (ss C 0) l0 1) (wb (sN C) (sb C 0) (ss C 0) l0 1)) (l0 % 4) ((256 * (b1 C)) + (sm (bk4 (wrT C l0 p x) 2) 0)))) (pkN (bk4 (wrT C l0 p x) 1)) (by exact wr_up hl hp) ?_
              refine g_lstore (lv2 := [(21, .long (pkN (bk4 (wrT C l0 p x) 1))), (20, .int (nI (b3 C))), (19, .int (nI (b2 C))), (18, .int (nI (b1 C))), (16, .long (pkN (bk4 (wrT C l0 p x) 2))), (15, .int (nI (nu (sN C) (wd (sN C) (sb C 0) (ss C 0) l0 2) (wb (sN C) (sb C 0) (ss C 0) l0 2) p))), (13, .long (pkN (ccf (sN C) (wd (sN C) (sb C 0) (ss C 0) l0 2) (wb (sN C) (sb C 0) (ss C 0) l0 2)))), (11, .long (pkN (ccf (sN C) (wd (sN C) (sb C 0) (ss C 0) l0 1) (wb (sN C) (sb C 0) (ss C 0) l0 1)))), (9, .long (pkN (ccf (sN C) (wd (sN C) (sb C 0) (ss C 0) l0 0) (wb (sN C) (sb C 0) (ss C 0) l0 0)))), (0, .int (nI l0)), (1, .int (nI p)), (2, .int (nI x)), (3, .ref qq), (4, .ref li), (5, .ref us), (6, .ref c), (7, .ref d), (8, .ref w)]) F dL_write_224 (by decide) rfl ?_
              refine g_lload F 8 dL_write_226 rfl ?_
              refine g_iload_n F 9 dL_write_228 rfl rfl ?_
              refine g_iconst (v := nI 4) F dL_write_229 (by decide) ?_
              refine g_idivN F dL_write_230 (by omega) (by decide) (by decide) ?_
              refine g_sipush (v := nI 256) F dL_write_231 (by decide) ?_
              refine g_iload F 2 dL_write_234 rfl ?_
              refine g_imulN F dL_write_236 ?_
              refine g_lload F 0 dL_write_237 rfl ?_
              refine g_callSiR (n := 1) F [] (c_L_sum l E (bk4 (wrT C l0 p x) 1) (by exact fun j _ => hTT _)) dL_write_239 rfl (by decide) rfl rfl rfl (Nat.le_of_ble_eq_true rfl) ⟨Nat.le_of_ble_eq_true rfl, Nat.le_of_ble_eq_true rfl⟩ rfl rfl ⟨Nat.le_of_ble_eq_true rfl, Nat.le_of_ble_eq_true rfl⟩ ggL_write_L_sum (by decide +kernel) (by decide +kernel) (by decide +kernel) (by decide +kernel) (fun r u hp => by obtain ⟨-, h⟩ := hp; exact h) ?_
              rintro r_239 u_239 ⟨rfl, -⟩
              refine g_iaddN F dL_write_242 ?_
              refine g_callSjR (n := 3) F [] (c_L_with l E (ccf (sN C) (wd (sN C) (sb C 0) (ss C 0) l0 0) (wb (sN C) (sb C 0) (ss C 0) l0 0)) (l0 / 4) ((256 * (b2 C)) + (sm (bk4 (wrT C l0 p x) 1) 0)) (by omega) (by omega)) dL_write_243 rfl (by decide) rfl rfl rfl (Nat.le_of_ble_eq_true rfl) ⟨Nat.le_of_ble_eq_true rfl, Nat.le_of_ble_eq_true rfl⟩ rfl rfl ⟨Nat.le_of_ble_eq_true rfl, Nat.le_of_ble_eq_true rfl⟩ ggL_write_L_with (by decide +kernel) (by decide +kernel) (by decide +kernel) (by decide +kernel) (fun r u hp => by obtain ⟨-, h⟩ := hp; exact h) ?_
              rintro r_243 u_243 ⟨rfl, -⟩
              refine g_topJ (pkN (up (ccf (sN C) (wd (sN C) (sb C 0) (ss C 0) l0 0) (wb (sN C) (sb C 0) (ss C 0) l0 0)) (l0 / 4) ((256 * (b2 C)) + (sm (bk4 (wrT C l0 p x) 1) 0)))) (pkN (bk4 (wrT C l0 p x) 0)) (by exact wr_top hl) ?_
              refine g_lstore (lv2 := [(23, .long (pkN (bk4 (wrT C l0 p x) 0))), (21, .long (pkN (bk4 (wrT C l0 p x) 1))), (20, .int (nI (b3 C))), (19, .int (nI (b2 C))), (18, .int (nI (b1 C))), (16, .long (pkN (bk4 (wrT C l0 p x) 2))), (15, .int (nI (nu (sN C) (wd (sN C) (sb C 0) (ss C 0) l0 2) (wb (sN C) (sb C 0) (ss C 0) l0 2) p))), (13, .long (pkN (ccf (sN C) (wd (sN C) (sb C 0) (ss C 0) l0 2) (wb (sN C) (sb C 0) (ss C 0) l0 2)))), (11, .long (pkN (ccf (sN C) (wd (sN C) (sb C 0) (ss C 0) l0 1) (wb (sN C) (sb C 0) (ss C 0) l0 1)))), (9, .long (pkN (ccf (sN C) (wd (sN C) (sb C 0) (ss C 0) l0 0) (wb (sN C) (sb C 0) (ss C 0) l0 0)))), (0, .int (nI l0)), (1, .int (nI p)), (2, .int (nI x)), (3, .ref qq), (4, .ref li), (5, .ref us), (6, .ref c), (7, .ref d), (8, .ref w)]) F dL_write_246 (by decide) rfl ?_
              refine g_aload F 16 dL_write_248 rfl ?_
              refine g_iload F 4 dL_write_250 rfl ?_
              refine g_jald F 3 dL_write_252 rfl (by omega) (by decide) ?_
              refine g_lstore (lv2 := [(25, .long ((cc (sN C) 0) (b1 C))), (23, .long (pkN (bk4 (wrT C l0 p x) 0))), (21, .long (pkN (bk4 (wrT C l0 p x) 1))), (20, .int (nI (b3 C))), (19, .int (nI (b2 C))), (18, .int (nI (b1 C))), (16, .long (pkN (bk4 (wrT C l0 p x) 2))), (15, .int (nI (nu (sN C) (wd (sN C) (sb C 0) (ss C 0) l0 2) (wb (sN C) (sb C 0) (ss C 0) l0 2) p))), (13, .long (pkN (ccf (sN C) (wd (sN C) (sb C 0) (ss C 0) l0 2) (wb (sN C) (sb C 0) (ss C 0) l0 2)))), (11, .long (pkN (ccf (sN C) (wd (sN C) (sb C 0) (ss C 0) l0 1) (wb (sN C) (sb C 0) (ss C 0) l0 1)))), (9, .long (pkN (ccf (sN C) (wd (sN C) (sb C 0) (ss C 0) l0 0) (wb (sN C) (sb C 0) (ss C 0) l0 0)))), (0, .int (nI l0)), (1, .int (nI p)), (2, .int (nI x)), (3, .ref qq), (4, .ref li), (5, .ref us), (6, .ref c), (7, .ref d), (8, .ref w)]) F dL_write_253 (by decide) rfl ?_
              refine g_aload F 17 dL_write_255 rfl ?_
              refine g_iload F 4 dL_write_257 rfl ?_
              refine g_jald F 3 dL_write_259 rfl (by omega) (by decide) ?_
              refine g_lstore (lv2 := [(27, .long ((cc (sN C) 0) (b2 C))), (25, .long ((cc (sN C) 0) (b1 C))), (23, .long (pkN (bk4 (wrT C l0 p x) 0))), (21, .long (pkN (bk4 (wrT C l0 p x) 1))), (20, .int (nI (b3 C))), (19, .int (nI (b2 C))), (18, .int (nI (b1 C))), (16, .long (pkN (bk4 (wrT C l0 p x) 2))), (15, .int (nI (nu (sN C) (wd (sN C) (sb C 0) (ss C 0) l0 2) (wb (sN C) (sb C 0) (ss C 0) l0 2) p))), (13, .long (pkN (ccf (sN C) (wd (sN C) (sb C 0) (ss C 0) l0 2) (wb (sN C) (sb C 0) (ss C 0) l0 2)))), (11, .long (pkN (ccf (sN C) (wd (sN C) (sb C 0) (ss C 0) l0 1) (wb (sN C) (sb C 0) (ss C 0) l0 1)))), (9, .long (pkN (ccf (sN C) (wd (sN C) (sb C 0) (ss C 0) l0 0) (wb (sN C) (sb C 0) (ss C 0) l0 0)))), (0, .int (nI l0)), (1, .int (nI p)), (2, .int (nI x)), (3, .ref qq), (4, .ref li), (5, .ref us), (6, .ref c), (7, .ref d), (8, .ref w)]) F dL_write_260 (by decide) rfl ?_
              refine g_aload F 18 dL_write_262 rfl ?_
              refine g_iload F 6 dL_write_264 rfl ?_
              refine g_aload_n F 15 dL_write_266 rfl rfl ?_
              refine g_iconst (v := nI 2) F dL_write_267 (by decide) ?_
              refine g_iald F 0 dL_write_268 rfl (by omega) (by decide) ?_
              have hM := hI.2.2.2.2.1
              refine g_top (nI ((qfS C) 2)) (nI (sM C)) (by rfl) ?_
              refine g_iconst (v := nI 1) F dL_write_269 (by decide) ?_
              have kj303 : G Γ E (0) (0) 303 [(27, .long ((cc (sN C) 0) (b2 C))), (25, .long ((cc (sN C) 0) (b1 C))), (23, .long (pkN (bk4 (wrT C l0 p x) 0))), (21, .long (pkN (bk4 (wrT C l0 p x) 1))), (20, .int (nI (b3 C))), (19, .int (nI (b2 C))), (18, .int (nI (b1 C))), (16, .long (pkN (bk4 (wrT C l0 p x) 2))), (15, .int (nI (nu (sN C) (wd (sN C) (sb C 0) (ss C 0) l0 2) (wb (sN C) (sb C 0) (ss C 0) l0 2) p))), (13, .long (pkN (ccf (sN C) (wd (sN C) (sb C 0) (ss C 0) l0 2) (wb (sN C) (sb C 0) (ss C 0) l0 2)))), (11, .long (pkN (ccf (sN C) (wd (sN C) (sb C 0) (ss C 0) l0 1) (wb (sN C) (sb C 0) (ss C 0) l0 1)))), (9, .long (pkN (ccf (sN C) (wd (sN C) (sb C 0) (ss C 0) l0 0) (wb (sN C) (sb C 0) (ss C 0) l0 0)))), (0, .int (nI l0)), (1, .int (nI p)), (2, .int (nI x)), (3, .ref qq), (4, .ref li), (5, .ref us), (6, .ref c), (7, .ref d), (8, .ref w)] [.long (pkN (w1f (sM C) (sN C) (wrT C l0 p x) (b1 C))), .int (nI (b1 C)), .ref c] [ai E qq 4 (qfS C), ai E li 24 lf, aj E us 2 (bu (up (up (up (sU C) (b1 C) 1) (b2 C) 1) (b3 C) 1)), aj E c 64 (cc (sN C) 0), aj E d 64 (cc (sN C) 1), ai E w 9 W2_30] := by
                refine g_jast F 3 dL_write_303 rfl (by omega) (by decide) (w2 := [ai E qq 4 (qfS C), ai E li 24 lf, aj E us 2 (bu (up (up (up (sU C) (b1 C) 1) (b2 C) 1) (b3 C) 1)), aj E c 64 (vp_updL (cc (sN C) 0) (b1 C) (pkN (w1f (sM C) (sN C) (wrT C l0 p x) (b1 C)))), aj E d 64 (cc (sN C) 1), ai E w 9 W2_30]) rfl ?_
                refine g_aload F 18 dL_write_304 rfl ?_
                refine g_iload F 5 dL_write_306 rfl ?_
                refine g_aload_n F 15 dL_write_308 rfl rfl ?_
                refine g_iconst (v := nI 2) F dL_write_309 (by decide) ?_
                refine g_iald F 0 dL_write_310 rfl (by omega) (by decide) ?_
                refine g_top (nI ((qfS C) 2)) (nI (sM C)) (by rfl) ?_
                refine g_iconst (v := nI 2) F dL_write_311 (by decide) ?_
                have kj334 : G Γ E (0) (0) 334 [(27, .long ((cc (sN C) 0) (b2 C))), (25, .long ((cc (sN C) 0) (b1 C))), (23, .long (pkN (bk4 (wrT C l0 p x) 0))), (21, .long (pkN (bk4 (wrT C l0 p x) 1))), (20, .int (nI (b3 C))), (19, .int (nI (b2 C))), (18, .int (nI (b1 C))), (16, .long (pkN (bk4 (wrT C l0 p x) 2))), (15, .int (nI (nu (sN C) (wd (sN C) (sb C 0) (ss C 0) l0 2) (wb (sN C) (sb C 0) (ss C 0) l0 2) p))), (13, .long (pkN (ccf (sN C) (wd (sN C) (sb C 0) (ss C 0) l0 2) (wb (sN C) (sb C 0) (ss C 0) l0 2)))), (11, .long (pkN (ccf (sN C) (wd (sN C) (sb C 0) (ss C 0) l0 1) (wb (sN C) (sb C 0) (ss C 0) l0 1)))), (9, .long (pkN (ccf (sN C) (wd (sN C) (sb C 0) (ss C 0) l0 0) (wb (sN C) (sb C 0) (ss C 0) l0 0)))), (0, .int (nI l0)), (1, .int (nI p)), (2, .int (nI x)), (3, .ref qq), (4, .ref li), (5, .ref us), (6, .ref c), (7, .ref d), (8, .ref w)] [.long (pkN (w2f (sM C) (sN C) (wrT C l0 p x) (b2 C))), .int (nI (b2 C)), .ref c] [ai E qq 4 (qfS C), ai E li 24 lf, aj E us 2 (bu (up (up (up (sU C) (b1 C) 1) (b2 C) 1) (b3 C) 1)), aj E c 64 (vp_updL (cc (sN C) 0) (b1 C) (pkN (w1f (sM C) (sN C) (wrT C l0 p x) (b1 C)))), aj E d 64 (cc (sN C) 1), ai E w 9 W2_30] := by
                  refine g_jast F 3 dL_write_334 rfl (by omega) (by decide) (w2 := [ai E qq 4 (qfS C), ai E li 24 lf, aj E us 2 (bu (up (up (up (sU C) (b1 C) 1) (b2 C) 1) (b3 C) 1)), aj E c 64 (vp_updL (vp_updL (cc (sN C) 0) (b1 C) (pkN (w1f (sM C) (sN C) (wrT C l0 p x) (b1 C)))) (b2 C) (pkN (w2f (sM C) (sN C) (wrT C l0 p x) (b2 C)))), aj E d 64 (cc (sN C) 1), ai E w 9 W2_30]) rfl ?_
                  refine g_aload F 18 dL_write_335 rfl ?_
                  refine g_iload F 4 dL_write_337 rfl ?_
                  refine g_lload F 2 dL_write_339 rfl ?_
                  refine g_jast F 3 dL_write_341 rfl (by omega) (by decide) (w2 := [ai E qq 4 (qfS C), ai E li 24 lf, aj E us 2 (bu (up (up (up (sU C) (b1 C) 1) (b2 C) 1) (b3 C) 1)), aj E c 64 (vp_updL (vp_updL (vp_updL (cc (sN C) 0) (b1 C) (pkN (w1f (sM C) (sN C) (wrT C l0 p x) (b1 C)))) (b2 C) (pkN (w2f (sM C) (sN C) (wrT C l0 p x) (b2 C)))) (b3 C) (pkN (bk4 (wrT C l0 p x) 0))), aj E d 64 (cc (sN C) 1), ai E w 9 W2_30]) rfl ?_
                  refine g_aload F 19 dL_write_342 rfl ?_
                  refine g_iload F 6 dL_write_344 rfl ?_
                  refine g_lload F 7 dL_write_346 rfl ?_
                  refine g_jast F 4 dL_write_348 rfl (by omega) (by decide) (w2 := [ai E qq 4 (qfS C), ai E li 24 lf, aj E us 2 (bu (up (up (up (sU C) (b1 C) 1) (b2 C) 1) (b3 C) 1)), aj E c 64 (vp_updL (vp_updL (vp_updL (cc (sN C) 0) (b1 C) (pkN (w1f (sM C) (sN C) (wrT C l0 p x) (b1 C)))) (b2 C) (pkN (w2f (sM C) (sN C) (wrT C l0 p x) (b2 C)))) (b3 C) (pkN (bk4 (wrT C l0 p x) 0))), aj E d 64 (vp_updL (cc (sN C) 1) (b1 C) (pkN (bk4 (wrT C l0 p x) 2))), ai E w 9 W2_30]) rfl ?_
                  refine g_aload F 19 dL_write_349 rfl ?_
                  refine g_iload F 5 dL_write_351 rfl ?_
                  refine g_lload F 3 dL_write_353 rfl ?_
                  refine g_jast F 4 dL_write_355 rfl (by omega) (by decide) (w2 := [ai E qq 4 (qfS C), ai E li 24 lf, aj E us 2 (bu (up (up (up (sU C) (b1 C) 1) (b2 C) 1) (b3 C) 1)), aj E c 64 (vp_updL (vp_updL (vp_updL (cc (sN C) 0) (b1 C) (pkN (w1f (sM C) (sN C) (wrT C l0 p x) (b1 C)))) (b2 C) (pkN (w2f (sM C) (sN C) (wrT C l0 p x) (b2 C)))) (b3 C) (pkN (bk4 (wrT C l0 p x) 0))), aj E d 64 (vp_updL (vp_updL (cc (sN C) 1) (b1 C) (pkN (bk4 (wrT C l0 p x) 2))) (b2 C) (pkN (bk4 (wrT C l0 p x) 1))), ai E w 9 W2_30]) rfl ?_
                  refine g_aload F 19 dL_write_356 rfl ?_
                  refine g_iload F 4 dL_write_358 rfl ?_
                  refine g_lload F 2 dL_write_360 rfl ?_
                  refine g_jast F 4 dL_write_362 rfl (by omega) (by decide) (w2 := [ai E qq 4 (qfS C), ai E li 24 lf, aj E us 2 (bu (up (up (up (sU C) (b1 C) 1) (b2 C) 1) (b3 C) 1)), aj E c 64 (vp_updL (vp_updL (vp_updL (cc (sN C) 0) (b1 C) (pkN (w1f (sM C) (sN C) (wrT C l0 p x) (b1 C)))) (b2 C) (pkN (w2f (sM C) (sN C) (wrT C l0 p x) (b2 C)))) (b3 C) (pkN (bk4 (wrT C l0 p x) 0))), aj E d 64 (vp_updL (vp_updL (vp_updL (cc (sN C) 1) (b1 C) (pkN (bk4 (wrT C l0 p x) 2))) (b2 C) (pkN (bk4 (wrT C l0 p x) 1))) (b3 C) (pkN (bk4 (wrT C l0 p x) 0))), ai E w 9 W2_30]) rfl ?_
                  refine g_iconst (v := nI 3) F dL_write_363 (by decide) ?_
                  refine g_aload_n F 15 dL_write_364 rfl rfl ?_
                  refine g_iconst (v := nI 0) F dL_write_365 (by decide) ?_
                  refine g_iald F 0 dL_write_366 rfl (by omega) (by decide) ?_
                  refine g_top (nI ((qfS C) 0)) (nI (sZ C)) (by rfl) ?_
                  refine g_imulN F dL_write_367 ?_
                  refine g_iconst (v := nI 2) F dL_write_368 (by decide) ?_
                  refine g_iaddN F dL_write_369 ?_
                  refine g_istore (lv2 := [(29, .int (nI ((3 * (sZ C)) + 2))), (27, .long ((cc (sN C) 0) (b2 C))), (25, .long ((cc (sN C) 0) (b1 C))), (23, .long (pkN (bk4 (wrT C l0 p x) 0))), (21, .long (pkN (bk4 (wrT C l0 p x) 1))), (20, .int (nI (b3 C))), (19, .int (nI (b2 C))), (18, .int (nI (b1 C))), (16, .long (pkN (bk4 (wrT C l0 p x) 2))), (15, .int (nI (nu (sN C) (wd (sN C) (sb C 0) (ss C 0) l0 2) (wb (sN C) (sb C 0) (ss C 0) l0 2) p))), (13, .long (pkN (ccf (sN C) (wd (sN C) (sb C 0) (ss C 0) l0 2) (wb (sN C) (sb C 0) (ss C 0) l0 2)))), (11, .long (pkN (ccf (sN C) (wd (sN C) (sb C 0) (ss C 0) l0 1) (wb (sN C) (sb C 0) (ss C 0) l0 1)))), (9, .long (pkN (ccf (sN C) (wd (sN C) (sb C 0) (ss C 0) l0 0) (wb (sN C) (sb C 0) (ss C 0) l0 0)))), (0, .int (nI l0)), (1, .int (nI p)), (2, .int (nI x)), (3, .ref qq), (4, .ref li), (5, .ref us), (6, .ref c), (7, .ref d), (8, .ref w)]) F dL_write_370 (by decide) rfl ?_
                  have loop372 : ∀ (n : Nat) (k : Nat), k < n → (2 ≤ k) → (k ≤ 3 * sZ C + 2) → G Γ E (0) (0) 372 [(0, .int (nI l0)), (1, .int (nI p)), (2, .int (nI x)), (3, .ref qq), (4, .ref li), (5, .ref us), (6, .ref c), (7, .ref d), (8, .ref w), (9, .long (pkN (ccf (sN C) (wd (sN C) (sb C 0) (ss C 0) l0 0) (wb (sN C) (sb C 0) (ss C 0) l0 0)))), (11, .long (pkN (ccf (sN C) (wd (sN C) (sb C 0) (ss C 0) l0 1) (wb (sN C) (sb C 0) (ss C 0) l0 1)))), (13, .long (pkN (ccf (sN C) (wd (sN C) (sb C 0) (ss C 0) l0 2) (wb (sN C) (sb C 0) (ss C 0) l0 2)))), (15, .int (nI (nu (sN C) (wd (sN C) (sb C 0) (ss C 0) l0 2) (wb (sN C) (sb C 0) (ss C 0) l0 2) p))), (16, .long (pkN (bk4 (wrT C l0 p x) 2))), (18, .int (nI (b1 C))), (19, .int (nI (b2 C))), (20, .int (nI (b3 C))), (21, .long (pkN (bk4 (wrT C l0 p x) 1))), (23, .long (pkN (bk4 (wrT C l0 p x) 0))), (25, .long ((cc (sN C) 0) (b1 C))), (27, .long ((cc (sN C) 0) (b2 C))), (29, .int (nI k))] [] [ai E qq 4 (qfS C), ai E li 24 (shk lf k (sZ C)), aj E us 2 (bu (up (up (up (sU C) (b1 C) 1) (b2 C) 1) (b3 C) 1)), aj E c 64 (vp_updL (vp_updL (vp_updL (cc (sN C) 0) (b1 C) (pkN (w1f (sM C) (sN C) (wrT C l0 p x) (b1 C)))) (b2 C) (pkN (w2f (sM C) (sN C) (wrT C l0 p x) (b2 C)))) (b3 C) (pkN (bk4 (wrT C l0 p x) 0))), aj E d 64 (vp_updL (vp_updL (vp_updL (cc (sN C) 1) (b1 C) (pkN (bk4 (wrT C l0 p x) 2))) (b2 C) (pkN (bk4 (wrT C l0 p x) 1))) (b3 C) (pkN (bk4 (wrT C l0 p x) 0))), ai E w 9 W2_30] := by
                    intro n
                    induction n with
                    | zero => intro k hz; exact absurd hz (Nat.not_lt_zero _)
                    | succ n ih372 =>
                      intro k hz372 hk hk2
                      refine g_iload F 21 dL_write_372 rfl ?_
                      refine g_iconst (v := nI 2) F dL_write_374 (by decide) ?_
                      refine g_icmp_leN (tgt := 396) F dL_write_375 (by decide) (by omega) (by omega) (fun c375 => ?_) (fun c375 => ?_)
                      · skip
                        refine g_aiC 1 rfl (shk lf 2 (sZ C)) (by intro j hj; rw [show k = 2 by omega]) (w2 := [ai E qq 4 (qfS C), ai E li 24 (shk lf 2 (sZ C)), aj E us 2 (bu (up (up (up (sU C) (b1 C) 1) (b2 C) 1) (b3 C) 1)), aj E c 64 (vp_updL (vp_updL (vp_updL (cc (sN C) 0) (b1 C) (pkN (w1f (sM C) (sN C) (wrT C l0 p x) (b1 C)))) (b2 C) (pkN (w2f (sM C) (sN C) (wrT C l0 p x) (b2 C)))) (b3 C) (pkN (bk4 (wrT C l0 p x) 0))), aj E d 64 (vp_updL (vp_updL (vp_updL (cc (sN C) 1) (b1 C) (pkN (bk4 (wrT C l0 p x) 2))) (b2 C) (pkN (bk4 (wrT C l0 p x) 1))) (b3 C) (pkN (bk4 (wrT C l0 p x) 0))), ai E w 9 W2_30]) rfl ?_
                        refine g_aload F 4 dL_write_396 rfl ?_
                        refine g_iconst (v := nI 0) F dL_write_398 (by decide) ?_
                        refine g_aload_n F 3 dL_write_399 rfl rfl ?_
                        refine g_iconst (v := nI 1) F dL_write_400 (by decide) ?_
                        refine g_dup2 F dL_write_401 rfl rfl ?_
                        refine g_iald F 0 dL_write_402 rfl (by omega) (by decide) ?_
                        refine g_top (nI ((qfS C) 1)) (nI (sW C + 1)) (by rfl) ?_
                        refine g_dup_x2 F dL_write_403 rfl rfl rfl ?_
                        refine g_iconst (v := nI 1) F dL_write_404 (by decide) ?_
                        refine g_iaddN F dL_write_405 ?_
                        refine g_iast F 0 dL_write_406 rfl (by omega) (by decide) (w2 := [ai E qq 4 (up (qfS C) 1 ((sW C + 1) + 1)), ai E li 24 (shk lf 2 (sZ C)), aj E us 2 (bu (up (up (up (sU C) (b1 C) 1) (b2 C) 1) (b3 C) 1)), aj E c 64 (vp_updL (vp_updL (vp_updL (cc (sN C) 0) (b1 C) (pkN (w1f (sM C) (sN C) (wrT C l0 p x) (b1 C)))) (b2 C) (pkN (w2f (sM C) (sN C) (wrT C l0 p x) (b2 C)))) (b3 C) (pkN (bk4 (wrT C l0 p x) 0))), aj E d 64 (vp_updL (vp_updL (vp_updL (cc (sN C) 1) (b1 C) (pkN (bk4 (wrT C l0 p x) 2))) (b2 C) (pkN (bk4 (wrT C l0 p x) 1))) (b3 C) (pkN (bk4 (wrT C l0 p x) 0))), ai E w 9 W2_30]) rfl ?_
                        refine g_iast F 1 dL_write_407 rfl (by omega) (by decide) (w2 := [ai E qq 4 (up (qfS C) 1 ((sW C + 1) + 1)), ai E li 24 (up (shk lf 2 (sZ C)) 0 (sW C + 1)), aj E us 2 (bu (up (up (up (sU C) (b1 C) 1) (b2 C) 1) (b3 C) 1)), aj E c 64 (vp_updL (vp_updL (vp_updL (cc (sN C) 0) (b1 C) (pkN (w1f (sM C) (sN C) (wrT C l0 p x) (b1 C)))) (b2 C) (pkN (w2f (sM C) (sN C) (wrT C l0 p x) (b2 C)))) (b3 C) (pkN (bk4 (wrT C l0 p x) 0))), aj E d 64 (vp_updL (vp_updL (vp_updL (cc (sN C) 1) (b1 C) (pkN (bk4 (wrT C l0 p x) 2))) (b2 C) (pkN (bk4 (wrT C l0 p x) 1))) (b3 C) (pkN (bk4 (wrT C l0 p x) 0))), ai E w 9 W2_30]) rfl ?_
                        refine g_aload F 4 dL_write_408 rfl ?_
                        refine g_iconst (v := nI 1) F dL_write_410 (by decide) ?_
                        refine g_iload F 16 dL_write_411 rfl ?_
                        refine g_iast F 1 dL_write_413 rfl (by omega) (by decide) (w2 := [ai E qq 4 (up (qfS C) 1 ((sW C + 1) + 1)), ai E li 24 (up (up (shk lf 2 (sZ C)) 0 (sW C + 1)) 1 (b3 C)), aj E us 2 (bu (up (up (up (sU C) (b1 C) 1) (b2 C) 1) (b3 C) 1)), aj E c 64 (vp_updL (vp_updL (vp_updL (cc (sN C) 0) (b1 C) (pkN (w1f (sM C) (sN C) (wrT C l0 p x) (b1 C)))) (b2 C) (pkN (w2f (sM C) (sN C) (wrT C l0 p x) (b2 C)))) (b3 C) (pkN (bk4 (wrT C l0 p x) 0))), aj E d 64 (vp_updL (vp_updL (vp_updL (cc (sN C) 1) (b1 C) (pkN (bk4 (wrT C l0 p x) 2))) (b2 C) (pkN (bk4 (wrT C l0 p x) 1))) (b3 C) (pkN (bk4 (wrT C l0 p x) 0))), ai E w 9 W2_30]) rfl ?_
                        refine g_aload F 4 dL_write_414 rfl ?_
                        refine g_iconst (v := nI 2) F dL_write_416 (by decide) ?_
                        refine g_lload F 18 dL_write_417 rfl ?_
                        refine g_callSiR (n := 1) F [] (c_L_sum l E (bk4 (wrT C l0 p x) 0) (by exact fun j _ => hTT _)) dL_write_419 rfl (by decide) rfl rfl rfl (Nat.le_of_ble_eq_true rfl) ⟨Nat.le_of_ble_eq_true rfl, Nat.le_of_ble_eq_true rfl⟩ rfl rfl ⟨Nat.le_of_ble_eq_true rfl, Nat.le_of_ble_eq_true rfl⟩ ggL_write_L_sum (by decide +kernel) (by decide +kernel) (by decide +kernel) (by decide +kernel) (fun r u hp => by obtain ⟨-, h⟩ := hp; exact h) ?_
                        rintro r_419 u_419 ⟨rfl, -⟩
                        refine g_top (nI (sm (bk4 (wrT C l0 p x) 0) 0)) (nI (sm (wrT C l0 p x) (0 * 4))) (by rfl) ?_
                        refine g_iast F 1 dL_write_422 rfl (by omega) (by decide) (w2 := [ai E qq 4 (up (qfS C) 1 ((sW C + 1) + 1)), ai E li 24 (up (up (up (shk lf 2 (sZ C)) 0 (sW C + 1)) 1 (b3 C)) 2 (sm (wrT C l0 p x) (0 * 4))), aj E us 2 (bu (up (up (up (sU C) (b1 C) 1) (b2 C) 1) (b3 C) 1)), aj E c 64 (vp_updL (vp_updL (vp_updL (cc (sN C) 0) (b1 C) (pkN (w1f (sM C) (sN C) (wrT C l0 p x) (b1 C)))) (b2 C) (pkN (w2f (sM C) (sN C) (wrT C l0 p x) (b2 C)))) (b3 C) (pkN (bk4 (wrT C l0 p x) 0))), aj E d 64 (vp_updL (vp_updL (vp_updL (cc (sN C) 1) (b1 C) (pkN (bk4 (wrT C l0 p x) 2))) (b2 C) (pkN (bk4 (wrT C l0 p x) 1))) (b3 C) (pkN (bk4 (wrT C l0 p x) 0))), ai E w 9 W2_30]) rfl ?_
                        refine g_aload_n F 3 dL_write_423 rfl rfl ?_
                        refine g_iconst (v := nI 0) F dL_write_424 (by decide) ?_
                        refine g_dup2 F dL_write_425 rfl rfl ?_
                        refine g_iald F 0 dL_write_426 rfl (by omega) (by decide) ?_
                        refine g_top (nI ((up (qfS C) 1 ((sW C + 1) + 1)) 0)) (nI (sZ C)) (by rfl) ?_
                        refine g_iconst (v := nI 1) F dL_write_427 (by decide) ?_
                        refine g_iaddN F dL_write_428 ?_
                        refine g_iast F 0 dL_write_429 rfl (by omega) (by decide) (w2 := [ai E qq 4 (up (up (qfS C) 1 ((sW C + 1) + 1)) 0 ((sZ C) + 1)), ai E li 24 (up (up (up (shk lf 2 (sZ C)) 0 (sW C + 1)) 1 (b3 C)) 2 (sm (wrT C l0 p x) (0 * 4))), aj E us 2 (bu (up (up (up (sU C) (b1 C) 1) (b2 C) 1) (b3 C) 1)), aj E c 64 (vp_updL (vp_updL (vp_updL (cc (sN C) 0) (b1 C) (pkN (w1f (sM C) (sN C) (wrT C l0 p x) (b1 C)))) (b2 C) (pkN (w2f (sM C) (sN C) (wrT C l0 p x) (b2 C)))) (b3 C) (pkN (bk4 (wrT C l0 p x) 0))), aj E d 64 (vp_updL (vp_updL (vp_updL (cc (sN C) 1) (b1 C) (pkN (bk4 (wrT C l0 p x) 2))) (b2 C) (pkN (bk4 (wrT C l0 p x) 1))) (b3 C) (pkN (bk4 (wrT C l0 p x) 0))), ai E w 9 W2_30]) rfl ?_
                        refine g_aload_n F 3 dL_write_430 rfl rfl ?_
                        refine g_iconst (v := nI 2) F dL_write_431 (by decide) ?_
                        refine g_iconst (v := nI 0) F dL_write_432 (by decide) ?_
                        refine g_iast F 0 dL_write_433 rfl (by omega) (by decide) (w2 := [ai E qq 4 (up (up (up (qfS C) 1 ((sW C + 1) + 1)) 0 ((sZ C) + 1)) 2 0), ai E li 24 (up (up (up (shk lf 2 (sZ C)) 0 (sW C + 1)) 1 (b3 C)) 2 (sm (wrT C l0 p x) (0 * 4))), aj E us 2 (bu (up (up (up (sU C) (b1 C) 1) (b2 C) 1) (b3 C) 1)), aj E c 64 (vp_updL (vp_updL (vp_updL (cc (sN C) 0) (b1 C) (pkN (w1f (sM C) (sN C) (wrT C l0 p x) (b1 C)))) (b2 C) (pkN (w2f (sM C) (sN C) (wrT C l0 p x) (b2 C)))) (b3 C) (pkN (bk4 (wrT C l0 p x) 0))), aj E d 64 (vp_updL (vp_updL (vp_updL (cc (sN C) 1) (b1 C) (pkN (bk4 (wrT C l0 p x) 2))) (b2 C) (pkN (bk4 (wrT C l0 p x) 1))) (b3 C) (pkN (bk4 (wrT C l0 p x) 0))), ai E w 9 W2_30]) rfl ?_
                        refine g_aload_n F 3 dL_write_434 rfl rfl ?_
                        refine g_iconst (v := nI 3) F dL_write_435 (by decide) ?_
                        refine g_dup2 F dL_write_436 rfl rfl ?_
                        refine g_iald F 0 dL_write_437 rfl (by omega) (by decide) ?_
                        refine g_top (nI ((up (up (up (qfS C) 1 ((sW C + 1) + 1)) 0 ((sZ C) + 1)) 2 0) 3)) (nI (sW C)) (by rfl) ?_
                        refine g_iconst (v := nI 1) F dL_write_438 (by decide) ?_
                        refine g_iaddN F dL_write_439 ?_
                        refine g_iast F 0 dL_write_440 rfl (by omega) (by decide) (w2 := [ai E qq 4 (up (up (up (up (qfS C) 1 ((sW C + 1) + 1)) 0 ((sZ C) + 1)) 2 0) 3 ((sW C) + 1)), ai E li 24 (up (up (up (shk lf 2 (sZ C)) 0 (sW C + 1)) 1 (b3 C)) 2 (sm (wrT C l0 p x) (0 * 4))), aj E us 2 (bu (up (up (up (sU C) (b1 C) 1) (b2 C) 1) (b3 C) 1)), aj E c 64 (vp_updL (vp_updL (vp_updL (cc (sN C) 0) (b1 C) (pkN (w1f (sM C) (sN C) (wrT C l0 p x) (b1 C)))) (b2 C) (pkN (w2f (sM C) (sN C) (wrT C l0 p x) (b2 C)))) (b3 C) (pkN (bk4 (wrT C l0 p x) 0))), aj E d 64 (vp_updL (vp_updL (vp_updL (cc (sN C) 1) (b1 C) (pkN (bk4 (wrT C l0 p x) 2))) (b2 C) (pkN (bk4 (wrT C l0 p x) 1))) (b3 C) (pkN (bk4 (wrT C l0 p x) 0))), ai E w 9 W2_30]) rfl ?_
                        refine g_aiC 0 rfl (qfS (wrS C l0 p x)) (by intro j hj; rcases (show j = 0 ∨ j = 1 ∨ j = 2 ∨ j = 3 by omega) with rfl | rfl | rfl | rfl <;> rfl) (w2 := [ai E qq 4 (qfS (wrS C l0 p x)), ai E li 24 (up (up (up (shk lf 2 (sZ C)) 0 (sW C + 1)) 1 (b3 C)) 2 (sm (wrT C l0 p x) (0 * 4))), aj E us 2 (bu (up (up (up (sU C) (b1 C) 1) (b2 C) 1) (b3 C) 1)), aj E c 64 (vp_updL (vp_updL (vp_updL (cc (sN C) 0) (b1 C) (pkN (w1f (sM C) (sN C) (wrT C l0 p x) (b1 C)))) (b2 C) (pkN (w2f (sM C) (sN C) (wrT C l0 p x) (b2 C)))) (b3 C) (pkN (bk4 (wrT C l0 p x) 0))), aj E d 64 (vp_updL (vp_updL (vp_updL (cc (sN C) 1) (b1 C) (pkN (bk4 (wrT C l0 p x) 2))) (b2 C) (pkN (bk4 (wrT C l0 p x) 1))) (b3 C) (pkN (bk4 (wrT C l0 p x) 0))), ai E w 9 W2_30]) rfl ?_
                        refine g_ajC 2 rfl (bu (sU (wrS C l0 p x))) (by intro j hj; rfl) (w2 := [ai E qq 4 (qfS (wrS C l0 p x)), ai E li 24 (up (up (up (shk lf 2 (sZ C)) 0 (sW C + 1)) 1 (b3 C)) 2 (sm (wrT C l0 p x) (0 * 4))), aj E us 2 (bu (sU (wrS C l0 p x))), aj E c 64 (vp_updL (vp_updL (vp_updL (cc (sN C) 0) (b1 C) (pkN (w1f (sM C) (sN C) (wrT C l0 p x) (b1 C)))) (b2 C) (pkN (w2f (sM C) (sN C) (wrT C l0 p x) (b2 C)))) (b3 C) (pkN (bk4 (wrT C l0 p x) 0))), aj E d 64 (vp_updL (vp_updL (vp_updL (cc (sN C) 1) (b1 C) (pkN (bk4 (wrT C l0 p x) 2))) (b2 C) (pkN (bk4 (wrT C l0 p x) 1))) (b3 C) (pkN (bk4 (wrT C l0 p x) 0))), ai E w 9 W2_30]) rfl ?_
                        refine g_ajC 3 rfl (cc (sN (wrS C l0 p x)) 0) (by exact cc_w0 ha hb hd hbn.1 hbn.2.1 hbn.2.2) (w2 := [ai E qq 4 (qfS (wrS C l0 p x)), ai E li 24 (up (up (up (shk lf 2 (sZ C)) 0 (sW C + 1)) 1 (b3 C)) 2 (sm (wrT C l0 p x) (0 * 4))), aj E us 2 (bu (sU (wrS C l0 p x))), aj E c 64 (cc (sN (wrS C l0 p x)) 0), aj E d 64 (vp_updL (vp_updL (vp_updL (cc (sN C) 1) (b1 C) (pkN (bk4 (wrT C l0 p x) 2))) (b2 C) (pkN (bk4 (wrT C l0 p x) 1))) (b3 C) (pkN (bk4 (wrT C l0 p x) 0))), ai E w 9 W2_30]) rfl ?_
                        refine g_ajC 4 rfl (cc (sN (wrS C l0 p x)) 1) (by exact cc_w1 ha hb hd) (w2 := [ai E qq 4 (qfS (wrS C l0 p x)), ai E li 24 (up (up (up (shk lf 2 (sZ C)) 0 (sW C + 1)) 1 (b3 C)) 2 (sm (wrT C l0 p x) (0 * 4))), aj E us 2 (bu (sU (wrS C l0 p x))), aj E c 64 (cc (sN (wrS C l0 p x)) 0), aj E d 64 (cc (sN (wrS C l0 p x)) 1), ai E w 9 W2_30]) rfl ?_
                        refine g_iload F 12 dL_write_441 rfl ?_
                        exact hret _ _ _ _ dL_write_443 ⟨(up (up (up (shk lf 2 (sZ C)) 0 (sW C + 1)) 1 (b3 C)) 2 (sm (wrT C l0 p x) (0 * 4))), W2_30, (by exact LI_wr hli), (congrArg nI (by exact (wtc_at hp).symm)), (by rfl)⟩
                      · skip
                        refine g_aload F 4 dL_write_378 rfl ?_
                        refine g_iload F 21 dL_write_380 rfl ?_
                        refine g_aload F 4 dL_write_382 rfl ?_
                        refine g_iload F 21 dL_write_384 rfl ?_
                        refine g_iconst (v := nI 3) F dL_write_386 (by decide) ?_
                        refine g_isubN F dL_write_387 (by omega) ?_
                        refine g_iald F 1 dL_write_388 rfl (by omega) (by decide) ?_
                        refine g_iast F 1 dL_write_389 rfl (by omega) (by decide) (w2 := [ai E qq 4 (qfS C), ai E li 24 (up (shk lf k (sZ C)) k ((shk lf k (sZ C)) (k - 3))), aj E us 2 (bu (up (up (up (sU C) (b1 C) 1) (b2 C) 1) (b3 C) 1)), aj E c 64 (vp_updL (vp_updL (vp_updL (cc (sN C) 0) (b1 C) (pkN (w1f (sM C) (sN C) (wrT C l0 p x) (b1 C)))) (b2 C) (pkN (w2f (sM C) (sN C) (wrT C l0 p x) (b2 C)))) (b3 C) (pkN (bk4 (wrT C l0 p x) 0))), aj E d 64 (vp_updL (vp_updL (vp_updL (cc (sN C) 1) (b1 C) (pkN (bk4 (wrT C l0 p x) 2))) (b2 C) (pkN (bk4 (wrT C l0 p x) 1))) (b3 C) (pkN (bk4 (wrT C l0 p x) 0))), ai E w 9 W2_30]) rfl ?_
                        refine g_iinc (k := 21) (v := nI (k - 1)) (lv2 := [(29, .int (nI (k - 1))), (0, .int (nI l0)), (1, .int (nI p)), (2, .int (nI x)), (3, .ref qq), (4, .ref li), (5, .ref us), (6, .ref c), (7, .ref d), (8, .ref w), (9, .long (pkN (ccf (sN C) (wd (sN C) (sb C 0) (ss C 0) l0 0) (wb (sN C) (sb C 0) (ss C 0) l0 0)))), (11, .long (pkN (ccf (sN C) (wd (sN C) (sb C 0) (ss C 0) l0 1) (wb (sN C) (sb C 0) (ss C 0) l0 1)))), (13, .long (pkN (ccf (sN C) (wd (sN C) (sb C 0) (ss C 0) l0 2) (wb (sN C) (sb C 0) (ss C 0) l0 2)))), (15, .int (nI (nu (sN C) (wd (sN C) (sb C 0) (ss C 0) l0 2) (wb (sN C) (sb C 0) (ss C 0) l0 2) p))), (16, .long (pkN (bk4 (wrT C l0 p x) 2))), (18, .int (nI (b1 C))), (19, .int (nI (b2 C))), (20, .int (nI (b3 C))), (21, .long (pkN (bk4 (wrT C l0 p x) 1))), (23, .long (pkN (bk4 (wrT C l0 p x) 0))), (25, .long ((cc (sN C) 0) (b1 C))), (27, .long ((cc (sN C) 0) (b2 C)))]) F dL_write_390 rfl (pk_dec (by omega)) (by decide) rfl ?_
                        refine g_goto (tgt := 372) F dL_write_393 (by decide) ?_
                        refine g_aiC 1 rfl (shk lf (k - 1) (sZ C)) (by exact shk_s (by omega) (by omega)) (w2 := [ai E qq 4 (qfS C), ai E li 24 (shk lf (k - 1) (sZ C)), aj E us 2 (bu (up (up (up (sU C) (b1 C) 1) (b2 C) 1) (b3 C) 1)), aj E c 64 (vp_updL (vp_updL (vp_updL (cc (sN C) 0) (b1 C) (pkN (w1f (sM C) (sN C) (wrT C l0 p x) (b1 C)))) (b2 C) (pkN (w2f (sM C) (sN C) (wrT C l0 p x) (b2 C)))) (b3 C) (pkN (bk4 (wrT C l0 p x) 0))), aj E d 64 (vp_updL (vp_updL (vp_updL (cc (sN C) 1) (b1 C) (pkN (bk4 (wrT C l0 p x) 2))) (b2 C) (pkN (bk4 (wrT C l0 p x) 1))) (b3 C) (pkN (bk4 (wrT C l0 p x) 0))), ai E w 9 W2_30]) rfl ?_
                        refine g_lv [1, 2, 3, 4, 5, 6, 7, 8, 9, 10, 11, 12, 13, 14, 15, 16, 17, 18, 19, 20, 21, 0] rfl ?_
                        exact ih372 (k - 1) (by omega) (by omega) (by omega)
                  refine g_aiC 1 rfl (shk lf ((3 * (sZ C)) + 2) (sZ C)) (by intro j hj; unfold shk; rw [if_neg (by omega)]) (w2 := [ai E qq 4 (qfS C), ai E li 24 (shk lf ((3 * (sZ C)) + 2) (sZ C)), aj E us 2 (bu (up (up (up (sU C) (b1 C) 1) (b2 C) 1) (b3 C) 1)), aj E c 64 (vp_updL (vp_updL (vp_updL (cc (sN C) 0) (b1 C) (pkN (w1f (sM C) (sN C) (wrT C l0 p x) (b1 C)))) (b2 C) (pkN (w2f (sM C) (sN C) (wrT C l0 p x) (b2 C)))) (b3 C) (pkN (bk4 (wrT C l0 p x) 0))), aj E d 64 (vp_updL (vp_updL (vp_updL (cc (sN C) 1) (b1 C) (pkN (bk4 (wrT C l0 p x) 2))) (b2 C) (pkN (bk4 (wrT C l0 p x) 1))) (b3 C) (pkN (bk4 (wrT C l0 p x) 0))), ai E w 9 W2_30]) rfl ?_
                  refine g_lv [13, 14, 15, 16, 17, 18, 19, 20, 21, 12, 11, 10, 9, 8, 7, 6, 5, 4, 3, 2, 1, 0] rfl ?_
                  exact loop372 (((3 * (sZ C)) + 2) + 1) ((3 * (sZ C)) + 2) (Nat.lt_succ_self _) (by omega) (by omega)
                refine g_icmp_neN (tgt := 320) F dL_write_312 (by decide) (by omega) (by omega) (fun c312 => ?_) (fun c312 => ?_)
                · skip
                  refine g_aload_n F 15 dL_write_320 rfl rfl ?_
                  refine g_iconst (v := nI 2) F dL_write_321 (by decide) ?_
                  refine g_iald F 0 dL_write_322 rfl (by omega) (by decide) ?_
                  refine g_top (nI ((qfS C) 2)) (nI (sM C)) (by rfl) ?_
                  refine g_iconst (v := nI 3) F dL_write_323 (by decide) ?_
                  refine g_icmp_neN (tgt := 332) F dL_write_324 (by decide) (by omega) (by omega) (fun c324 => ?_) (fun c324 => ?_)
                  · skip
                    refine g_lload F 3 dL_write_332 rfl ?_
                    refine g_topJ (pkN (bk4 (wrT C l0 p x) 1)) (pkN (w2f (sM C) (sN C) (wrT C l0 p x) (b2 C))) (by unfold w2f; rw [if_neg c312, if_neg c324]) ?_
                    exact kj334
                  · skip
                    refine g_lload F 7 dL_write_327 rfl ?_
                    refine g_goto (tgt := 334) F dL_write_329 (by decide) ?_
                    refine g_topJ (pkN (bk4 (wrT C l0 p x) 2)) (pkN (w2f (sM C) (sN C) (wrT C l0 p x) (b2 C))) (by unfold w2f; rw [if_neg c312, if_pos c324]) ?_
                    exact kj334
                · skip
                  refine g_lload F 0 dL_write_315 rfl ?_
                  refine g_goto (tgt := 334) F dL_write_317 (by decide) ?_
                  refine g_topJ ((cc (sN C) 0) (b2 C)) (pkN (w2f (sM C) (sN C) (wrT C l0 p x) (b2 C))) (by unfold w2f; rw [if_pos c312]; rfl) ?_
                  exact kj334
              refine g_icmp_neN (tgt := 289) F dL_write_270 (by decide) (by omega) (by omega) (fun c270 => ?_) (fun c270 => ?_)
              · skip
                refine g_aload_n F 15 dL_write_289 rfl rfl ?_
                refine g_iconst (v := nI 2) F dL_write_290 (by decide) ?_
                refine g_iald F 0 dL_write_291 rfl (by omega) (by decide) ?_
                refine g_top (nI ((qfS C) 2)) (nI (sM C)) (by rfl) ?_
                refine g_iconst (v := nI 3) F dL_write_292 (by decide) ?_
                refine g_icmp_neN (tgt := 301) F dL_write_293 (by decide) (by omega) (by omega) (fun c293 => ?_) (fun c293 => ?_)
                · skip
                  refine g_lload F 7 dL_write_301 rfl ?_
                  refine g_topJ (pkN (bk4 (wrT C l0 p x) 2)) (pkN (w1f (sM C) (sN C) (wrT C l0 p x) (b1 C))) (by unfold w1f; rw [if_neg c270, if_neg c293]) ?_
                  exact kj303
                · skip
                  refine g_lload F 3 dL_write_296 rfl ?_
                  refine g_goto (tgt := 303) F dL_write_298 (by decide) ?_
                  refine g_topJ (pkN (bk4 (wrT C l0 p x) 1)) (pkN (w1f (sM C) (sN C) (wrT C l0 p x) (b1 C))) (by unfold w1f; rw [if_neg c270, if_pos c293]) ?_
                  exact kj303
              · skip
                refine g_lload F 7 dL_write_273 rfl ?_
                refine g_ldc2 (v := 4294967295) F dL_write_275 (by decide +kernel) ?_
                refine g_land F dL_write_278 ?_
                refine g_lload F 1 dL_write_279 rfl ?_
                refine g_ldc2 (v := (-4294967296)) F dL_write_281 (by decide +kernel) ?_
                refine g_land F dL_write_284 ?_
                refine g_lor F dL_write_285 ?_
                refine g_goto (tgt := 303) F dL_write_286 (by decide) ?_
                refine g_topJ (((pkN (bk4 (wrT C l0 p x) 2)) &&& 4294967295) ||| (((cc (sN C) 0) (b1 C)) &&& (-4294967296))) (pkN (w1f (sM C) (sN C) (wrT C l0 p x) (b1 C))) (by rw [cc_eq, pk_torn]; unfold w1f; rw [if_pos c270]; rfl) ?_
                exact kj303
            refine g_top (nI (W2_30 8)) (nI (wd (sN C) (sb C 0) (ss C 0) l0 2)) (by rw [← hw2.2.2]) ?_
            refine g_if_neN (tgt := 105) F dL_write_97 (by decide) (by omega) (fun c97 => ?_) (fun c97 => ?_)
            · skip
              refine g_aload F 9 dL_write_105 rfl ?_
              refine g_callSjR (n := 2) F [4] (c_L_content l E d (sN C) 1 (wb (sN C) (sb C 0) (ss C 0) l0 2) (by decide) (by exact hgb 2 (by decide)) (by exact hZ)) dL_write_107 rfl (by decide) rfl rfl rfl (Nat.le_of_ble_eq_true rfl) ⟨Nat.le_of_ble_eq_true rfl, Nat.le_of_ble_eq_true rfl⟩ rfl rfl ⟨Nat.le_of_ble_eq_true rfl, Nat.le_of_ble_eq_true rfl⟩ ggL_write_L_content (by decide +kernel) (by decide +kernel) (by decide +kernel) (by decide +kernel) (fun r u hp => by obtain ⟨-, h⟩ := hp; exact h) ?_
              rintro r_107 u_107 ⟨rfl, -⟩
              refine g_topJ (pkN (ccf (sN C) 1 (wb (sN C) (sb C 0) (ss C 0) l0 2))) (pkN (ccf (sN C) (wd (sN C) (sb C 0) (ss C 0) l0 2) (wb (sN C) (sb C 0) (ss C 0) l0 2))) (by rw [show wd (sN C) (sb C 0) (ss C 0) l0 2 = 1 by have := hgd 2 (by decide); omega]) ?_
              exact kj110
            · skip
              refine g_aload F 8 dL_write_100 rfl ?_
              refine g_goto (tgt := 107) F dL_write_102 (by decide) ?_
              refine g_callSjR (n := 2) F [3] (c_L_content l E c (sN C) 0 (wb (sN C) (sb C 0) (ss C 0) l0 2) (by decide) (by exact hgb 2 (by decide)) (by exact hZ)) dL_write_107 rfl (by decide) rfl rfl rfl (Nat.le_of_ble_eq_true rfl) ⟨Nat.le_of_ble_eq_true rfl, Nat.le_of_ble_eq_true rfl⟩ rfl rfl ⟨Nat.le_of_ble_eq_true rfl, Nat.le_of_ble_eq_true rfl⟩ ggL_write_L_content (by decide +kernel) (by decide +kernel) (by decide +kernel) (by decide +kernel) (fun r u hp => by obtain ⟨-, h⟩ := hp; exact h) ?_
              rintro r_107 u_107 ⟨rfl, -⟩
              refine g_topJ (pkN (ccf (sN C) 0 (wb (sN C) (sb C 0) (ss C 0) l0 2))) (pkN (ccf (sN C) (wd (sN C) (sb C 0) (ss C 0) l0 2) (wb (sN C) (sb C 0) (ss C 0) l0 2))) (by rw [c97]) ?_
              exact kj110
          refine g_top (nI (W2_30 7)) (nI (wd (sN C) (sb C 0) (ss C 0) l0 1)) (by rw [← hw1.2.2]) ?_
          refine g_if_neN (tgt := 81) F dL_write_73 (by decide) (by omega) (fun c73 => ?_) (fun c73 => ?_)
          · skip
            refine g_aload F 8 dL_write_81 rfl ?_
            refine g_callSjR (n := 2) F [4] (c_L_content l E d (sN C) 1 (wb (sN C) (sb C 0) (ss C 0) l0 1) (by decide) (by exact hgb 1 (by decide)) (by exact hZ)) dL_write_83 rfl (by decide) rfl rfl rfl (Nat.le_of_ble_eq_true rfl) ⟨Nat.le_of_ble_eq_true rfl, Nat.le_of_ble_eq_true rfl⟩ rfl rfl ⟨Nat.le_of_ble_eq_true rfl, Nat.le_of_ble_eq_true rfl⟩ ggL_write_L_content (by decide +kernel) (by decide +kernel) (by decide +kernel) (by decide +kernel) (fun r u hp => by obtain ⟨-, h⟩ := hp; exact h) ?_
            rintro r_83 u_83 ⟨rfl, -⟩
            refine g_topJ (pkN (ccf (sN C) 1 (wb (sN C) (sb C 0) (ss C 0) l0 1))) (pkN (ccf (sN C) (wd (sN C) (sb C 0) (ss C 0) l0 1) (wb (sN C) (sb C 0) (ss C 0) l0 1))) (by rw [show wd (sN C) (sb C 0) (ss C 0) l0 1 = 1 by have := hgd 1 (by decide); omega]) ?_
            exact kj86
          · skip
            refine g_aload F 7 dL_write_76 rfl ?_
            refine g_goto (tgt := 83) F dL_write_78 (by decide) ?_
            refine g_callSjR (n := 2) F [3] (c_L_content l E c (sN C) 0 (wb (sN C) (sb C 0) (ss C 0) l0 1) (by decide) (by exact hgb 1 (by decide)) (by exact hZ)) dL_write_83 rfl (by decide) rfl rfl rfl (Nat.le_of_ble_eq_true rfl) ⟨Nat.le_of_ble_eq_true rfl, Nat.le_of_ble_eq_true rfl⟩ rfl rfl ⟨Nat.le_of_ble_eq_true rfl, Nat.le_of_ble_eq_true rfl⟩ ggL_write_L_content (by decide +kernel) (by decide +kernel) (by decide +kernel) (by decide +kernel) (fun r u hp => by obtain ⟨-, h⟩ := hp; exact h) ?_
            rintro r_83 u_83 ⟨rfl, -⟩
            refine g_topJ (pkN (ccf (sN C) 0 (wb (sN C) (sb C 0) (ss C 0) l0 1))) (pkN (ccf (sN C) (wd (sN C) (sb C 0) (ss C 0) l0 1) (wb (sN C) (sb C 0) (ss C 0) l0 1))) (by rw [c73]) ?_
            exact kj86
        refine g_top (nI (W2_30 6)) (nI (wd (sN C) (sb C 0) (ss C 0) l0 0)) (by rw [← hw0.2.2]) ?_
        refine g_if_neN (tgt := 57) F dL_write_49 (by decide) (by omega) (fun c49 => ?_) (fun c49 => ?_)
        · skip
          refine g_aload F 7 dL_write_57 rfl ?_
          refine g_callSjR (n := 2) F [4] (c_L_content l E d (sN C) 1 (wb (sN C) (sb C 0) (ss C 0) l0 0) (by decide) (by exact hgb 0 (by decide)) (by exact hZ)) dL_write_59 rfl (by decide) rfl rfl rfl (Nat.le_of_ble_eq_true rfl) ⟨Nat.le_of_ble_eq_true rfl, Nat.le_of_ble_eq_true rfl⟩ rfl rfl ⟨Nat.le_of_ble_eq_true rfl, Nat.le_of_ble_eq_true rfl⟩ ggL_write_L_content (by decide +kernel) (by decide +kernel) (by decide +kernel) (by decide +kernel) (fun r u hp => by obtain ⟨-, h⟩ := hp; exact h) ?_
          rintro r_59 u_59 ⟨rfl, -⟩
          refine g_topJ (pkN (ccf (sN C) 1 (wb (sN C) (sb C 0) (ss C 0) l0 0))) (pkN (ccf (sN C) (wd (sN C) (sb C 0) (ss C 0) l0 0) (wb (sN C) (sb C 0) (ss C 0) l0 0))) (by rw [show wd (sN C) (sb C 0) (ss C 0) l0 0 = 1 by have := hgd 0 (by decide); omega]) ?_
          exact kj62
        · skip
          refine g_aload F 6 dL_write_52 rfl ?_
          refine g_goto (tgt := 59) F dL_write_54 (by decide) ?_
          refine g_callSjR (n := 2) F [3] (c_L_content l E c (sN C) 0 (wb (sN C) (sb C 0) (ss C 0) l0 0) (by decide) (by exact hgb 0 (by decide)) (by exact hZ)) dL_write_59 rfl (by decide) rfl rfl rfl (Nat.le_of_ble_eq_true rfl) ⟨Nat.le_of_ble_eq_true rfl, Nat.le_of_ble_eq_true rfl⟩ rfl rfl ⟨Nat.le_of_ble_eq_true rfl, Nat.le_of_ble_eq_true rfl⟩ ggL_write_L_content (by decide +kernel) (by decide +kernel) (by decide +kernel) (by decide +kernel) (fun r u hp => by obtain ⟨-, h⟩ := hp; exact h) ?_
          rintro r_59 u_59 ⟨rfl, -⟩
          refine g_topJ (pkN (ccf (sN C) 0 (wb (sN C) (sb C 0) (ss C 0) l0 0))) (pkN (ccf (sN C) (wd (sN C) (sb C 0) (ss C 0) l0 0) (wb (sN C) (sb C 0) (ss C 0) l0 0))) (by rw [c49]) ?_
          exact kj62
      · skip
        exact absurd c34 (by omega)
    · skip
      exact absurd c14 (by omega)
