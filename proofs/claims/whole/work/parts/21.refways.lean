/-! the reference's ways -/
theorem gl_s {N : Nat → Nat} {b s l v : Nat} (hv : v < 3) (hg : v ≤ gl N b s l) : wd N b s l v = 2 ↔ gl N b s l = v := by
  unfold gl at hg ⊢
  rcases (show v = 0 ∨ v = 1 ∨ v = 2 by omega) with rfl | rfl | rfl
  · by_cases h0 : wd N b s l 0 = 2
    · rw [if_pos h0]; exact ⟨fun _ => rfl, fun _ => h0⟩
    · rw [if_neg h0]; (repeat' split) <;> omega
  · by_cases h0 : wd N b s l 0 = 2
    · rw [if_pos h0] at hg; omega
    · rw [if_neg h0] at hg ⊢
      by_cases h1 : wd N b s l 1 = 2
      · rw [if_pos h1]; exact ⟨fun _ => rfl, fun _ => h1⟩
      · rw [if_neg h1]; (repeat' split) <;> omega
  · by_cases h0 : wd N b s l 0 = 2
    · rw [if_pos h0] at hg; omega
    · rw [if_neg h0] at hg ⊢
      by_cases h1 : wd N b s l 1 = 2
      · rw [if_pos h1] at hg; omega
      · rw [if_neg h1] at hg ⊢
        by_cases h2 : wd N b s l 2 = 2
        · rw [if_pos h2]; exact ⟨fun _ => rfl, fun _ => h2⟩
        · rw [if_neg h2]; omega
theorem sp_gl {N : Nat → Nat} {b s l : Nat} : sp N b s l = 0 ↔ gl N b s l = 3 := by
  unfold sp gl
  (repeat' split) <;> omega
/-- what the reference's ways hold: as far as they are told -/
def WR9 (C : CS) (r l : Nat) (n : Nat) (B Q : Nat → Nat) (K : Nat → Int32) : Prop := ∀ u : Nat, u < n → (u ≤ glC C r l → B u = wBC C r l u ∧ Q u = wQC C r l u ∧ K u = nI (wDC C r l u)) ∧ (glC C r l < u → K u = -1)
theorem rng_m1 {n : Nat} : ¬ rng (-1) n := fun h => h.1 (by decide)
theorem WR9.told {C : CS} {r l n v : Nat} {B Q : Nat → Nat} {K : Nat → Int32} (h : WR9 C r l n B Q K) (hv : v < n) (h3 : v < 3) : rng (K v) (1 + 1) ↔ v + 1 ≤ glC C r l := by
  have h6 : wDC C r l v ≤ 2 := wd_le _ _ _ _ _
  by_cases hg : v ≤ glC C r l
  · have h5 : wDC C r l v = 2 ↔ glC C r l = v := gl_s h3 hg
    rw [((h v hv).1 hg).2.2, rng_nI (by decide) (by omega)]
    by_cases z : wDC C r l v = 2
    · have := h5.mp z
      omega
    · have h7 : ¬ glC C r l = v := fun y => z (h5.mpr y)
      omega
  · rw [(h v hv).2 (by omega)]
    exact ⟨fun z => absurd z rng_m1, fun z => by omega⟩
theorem WR9.nxt {C : CS} {r l v : Nat} {B Q : Nat → Nat} {K : Nat → Int32} (h : WR9 C r l v B Q K) {x y : Nat} {k : Int32} (hg : v ≤ glC C r l → x = wBC C r l v ∧ y = wQC C r l v ∧ k = nI (wDC C r l v)) (hn : glC C r l < v → k = -1) {B2 Q2 : Nat → Nat} (hB : B2 v = x ∧ ∀ u, u < v → B2 u = B u) (hQ : Q2 v = y ∧ ∀ u, u < v → Q2 u = Q u) : WR9 C r l (v + 1) B2 Q2 (upd K v k) := by
  intro u hu
  by_cases z : u = v
  · subst z
    refine ⟨fun q => ?_, fun q => ?_⟩
    · rw [hB.1, hQ.1, pk_us]; exact hg q
    · rw [pk_us]; exact hn q
  · have h1 := h u (by omega)
    rw [hB.2 u (by omega), hQ.2 u (by omega), pk_un z]
    exact h1
set_option maxHeartbeats 4000000 in
set_option maxRecDepth 100000 in
theorem c_X9_findWay (l : Launch) (E : En) (q : Nat) (r : Nat → Nat) (rc : Nat) (tl : Nat) (at9 : Nat) (lf9 : Int32) (pl9 : Int32) (vl9 : Int32) (fa : Nat) (rs9 : Nat) (cs : Int32) (dn : Nat) (S : Nat → Nat) (C : CS) (B : Nat → Nat) (Q : Nat → Nat) (K : Nat → Int32) (r1 : Nat) (l1 : Nat) (hR : Rel S C) (hI : IC C) (hr : r1 < sZ C) (hl : l1 < 16) : CtI l yX9_findWay wsX9_findWay ({ frames := 3, cells := 0, slots := 0, locals := 67 } : Room) E [.ref q, .int (nI r1), .int (nI l1)] [ob 9 q [.ref (r 0), .ref (r 1), .ref (r 2), .int (nI rc), .ref (r 3), .int (nI tl), .ref (r 4), .ref (r 5), .ref (r 6), .ref (r 7), .ref (r 8), .ref (r 9), .ref (r 10), .ref (r 11), .ref (r 12), .int (nI at9), .int (lf9), .int (pl9), .int (vl9), .int (nI fa), .int (nI rs9), .int (cs), .int (nI dn)], ai E (r 0) 892 S, ai E (r 4) 3 B, ai E (r 5) 3 Q, ax E (r 6) 3 K] (fun rr uu => ∃ (B2 : Nat → Nat), ∃ (Q2 : Nat → Nat), ∃ (K2 : Nat → Int32), (WR9 C r1 l1 3 B2 Q2 K2) ∧ rr = (bi (spC C r1 l1 = 0)) ∧ uu = [ob 9 q [.ref (r 0), .ref (r 1), .ref (r 2), .int (nI rc), .ref (r 3), .int (nI tl), .ref (r 4), .ref (r 5), .ref (r 6), .ref (r 7), .ref (r 8), .ref (r 9), .ref (r 10), .ref (r 11), .ref (r 12), .int (nI at9), .int (lf9), .int (pl9), .int (vl9), .int (nI fa), .int (nI rs9), .int (cs), .int (nI dn)], ai E (r 0) 892 S, ai E (r 4) 3 B2, ai E (r 5) 3 Q2, ax E (r 6) 3 K2]) := by
  refine CtI.of cX9_findWay 6 RX9 .boolean rfl (by decide) rfl (Or.inr rfl) (Nat.le_of_ble_eq_true rfl) (fun _ r u hp => by obtain ⟨_, _, _, -, rfl, -⟩ := hp; exact bi_narrow _) ?_
  intro Γ F hret
  show G Γ E 0 0 0 [(0, .ref q), (1, .int (nI r1)), (2, .int (nI l1))] [] [ob 9 q [.ref (r 0), .ref (r 1), .ref (r 2), .int (nI rc), .ref (r 3), .int (nI tl), .ref (r 4), .ref (r 5), .ref (r 6), .ref (r 7), .ref (r 8), .ref (r 9), .ref (r 10), .ref (r 11), .ref (r 12), .int (nI at9), .int (lf9), .int (pl9), .int (vl9), .int (nI fa), .int (nI rs9), .int (cs), .int (nI dn)], ai E (r 0) 892 S, ai E (r 4) 3 B, ai E (r 5) 3 Q, ax E (r 6) 3 K]
  have hz8 := hI.2.2.2.1
  have hrb := hI.rb hr
  have hrs := hI.rs hr
  have hr7 := hR.2.2.2.2.2.2 r1 hr
  refine g_aload_n F 0 dX9_findWay_0 rfl rfl ?_
  refine g_get F 0 6 dX9_findWay_1 rfl rfl (by decide) (by decide +kernel) (by decide +kernel) rfl ?_
  refine g_iconst (v := nI 0) F dX9_findWay_4 (by decide) ?_
  refine g_aload_n F 0 dX9_findWay_5 rfl rfl ?_
  refine g_iload_n F 1 dX9_findWay_6 rfl rfl ?_
  refine g_iconst (v := nI 1) F dX9_findWay_7 (by decide) ?_
  refine g_callViR (n := 2) F [0, 1] (c_X9_rootPart l E q r rc tl at9 lf9 pl9 vl9 fa rs9 cs dn S C r1 1 (by omega) (by omega)) dX9_findWay_8 rfl (by decide) rfl rfl rfl (Nat.le_of_ble_eq_true rfl) ⟨Nat.le_of_ble_eq_true rfl, Nat.le_of_ble_eq_true rfl⟩ rfl rfl ⟨Nat.le_of_ble_eq_true rfl, Nat.le_of_ble_eq_true rfl⟩ 0 rfl rfl gX9_findWay_X9_rootPart (by decide +kernel) (fun r u hp => by obtain ⟨-, h⟩ := hp; exact h) ?_
  rintro r_8 u_8 ⟨rfl, -⟩
  refine g_top (nI (S (868 + 3 * r1 + 1))) (nI (sb C r1)) (by rw [hr7.2.1]) ?_
  refine g_iast F 2 dX9_findWay_11 rfl (by omega) (by decide) (w2 := [ob 9 q [.ref (r 0), .ref (r 1), .ref (r 2), .int (nI rc), .ref (r 3), .int (nI tl), .ref (r 4), .ref (r 5), .ref (r 6), .ref (r 7), .ref (r 8), .ref (r 9), .ref (r 10), .ref (r 11), .ref (r 12), .int (nI at9), .int (lf9), .int (pl9), .int (vl9), .int (nI fa), .int (nI rs9), .int (cs), .int (nI dn)], ai E (r 0) 892 S, ai E (r 4) 3 (up B 0 (sb C r1)), ai E (r 5) 3 Q, ax E (r 6) 3 K]) rfl ?_
  refine g_aload_n F 0 dX9_findWay_12 rfl rfl ?_
  refine g_get F 0 7 dX9_findWay_13 rfl rfl (by decide) (by decide +kernel) (by decide +kernel) rfl ?_
  refine g_iconst (v := nI 0) F dX9_findWay_16 (by decide) ?_
  refine g_aload_n F 0 dX9_findWay_17 rfl rfl ?_
  refine g_iload_n F 1 dX9_findWay_18 rfl rfl ?_
  refine g_iconst (v := nI 2) F dX9_findWay_19 (by decide) ?_
  refine g_callViR (n := 2) F [0, 1] (c_X9_rootPart l E q r rc tl at9 lf9 pl9 vl9 fa rs9 cs dn S C r1 2 (by omega) (by omega)) dX9_findWay_20 rfl (by decide) rfl rfl rfl (Nat.le_of_ble_eq_true rfl) ⟨Nat.le_of_ble_eq_true rfl, Nat.le_of_ble_eq_true rfl⟩ rfl rfl ⟨Nat.le_of_ble_eq_true rfl, Nat.le_of_ble_eq_true rfl⟩ 0 rfl rfl gX9_findWay_X9_rootPart (by decide +kernel) (fun r u hp => by obtain ⟨-, h⟩ := hp; exact h) ?_
  rintro r_20 u_20 ⟨rfl, -⟩
  refine g_top (nI (S (868 + 3 * r1 + 2))) (nI (ss C r1)) (by rw [hr7.2.2]) ?_
  refine g_iast F 3 dX9_findWay_23 rfl (by omega) (by decide) (w2 := [ob 9 q [.ref (r 0), .ref (r 1), .ref (r 2), .int (nI rc), .ref (r 3), .int (nI tl), .ref (r 4), .ref (r 5), .ref (r 6), .ref (r 7), .ref (r 8), .ref (r 9), .ref (r 10), .ref (r 11), .ref (r 12), .int (nI at9), .int (lf9), .int (pl9), .int (vl9), .int (nI fa), .int (nI rs9), .int (cs), .int (nI dn)], ai E (r 0) 892 S, ai E (r 4) 3 (up B 0 (sb C r1)), ai E (r 5) 3 (up Q 0 (ss C r1)), ax E (r 6) 3 K]) rfl ?_
  refine g_iconst (v := nI 0) F dX9_findWay_24 (by decide) ?_
  refine g_istore_n (lv2 := [(3, .int (nI 0)), (0, .ref q), (1, .int (nI r1)), (2, .int (nI l1))]) F dX9_findWay_25 rfl (by decide) rfl ?_
  have loop26 : ∀ (n : Nat) (v : Nat) (Bv : Nat → Nat) (Qv : Nat → Nat) (Kv : Nat → Int32), 3 - v < n → (v ≤ 3) → (WR9 C r1 l1 v Bv Qv Kv) → (v = 0 → Bv 0 = sb C r1 ∧ Qv 0 = ss C r1) → G Γ E 0 0 26 [(0, .ref q), (1, .int (nI r1)), (2, .int (nI l1)), (3, .int (nI v))] [] [ob 9 q [.ref (r 0), .ref (r 1), .ref (r 2), .int (nI rc), .ref (r 3), .int (nI tl), .ref (r 4), .ref (r 5), .ref (r 6), .ref (r 7), .ref (r 8), .ref (r 9), .ref (r 10), .ref (r 11), .ref (r 12), .int (nI at9), .int (lf9), .int (pl9), .int (vl9), .int (nI fa), .int (nI rs9), .int (cs), .int (nI dn)], ai E (r 0) 892 S, ai E (r 4) 3 Bv, ai E (r 5) 3 Qv, ax E (r 6) 3 Kv] := by
    intro n
    induction n with
    | zero => intro v Bv Qv Kv hz; exact absurd hz (Nat.not_lt_zero _)
    | succ n ih26 =>
      intro v Bv Qv Kv hz26 hv hW h0
      refine g_iload_n F 3 dX9_findWay_26 rfl rfl ?_
      refine g_iconst (v := nI 3) F dX9_findWay_27 (by decide) ?_
      refine g_icmp_geN (tgt := 164) F dX9_findWay_28 (by decide) (by omega) (by omega) (fun c28 => ?_) (fun c28 => ?_)
      · skip
        refine g_aload_n F 0 dX9_findWay_164 rfl rfl ?_
        refine g_get F 0 8 dX9_findWay_165 rfl rfl (by decide) (by decide +kernel) (by decide +kernel) rfl ?_
        refine g_iconst (v := nI 2) F dX9_findWay_168 (by decide) ?_
        refine g_xald F 4 dX9_findWay_169 rfl (by omega) (by decide) ?_
        refine g_iconst (v := nI 0) F dX9_findWay_170 (by decide) ?_
        refine g_iconst (v := nI 1) F dX9_findWay_171 (by decide) ?_
        refine g_callSiR (n := 3) F [] (c_X9_within_x l E (Kv 2) 1 (by omega)) dX9_findWay_172 rfl (by decide) rfl rfl rfl (Nat.le_of_ble_eq_true rfl) ⟨Nat.le_of_ble_eq_true rfl, Nat.le_of_ble_eq_true rfl⟩ rfl rfl ⟨Nat.le_of_ble_eq_true rfl, Nat.le_of_ble_eq_true rfl⟩ ggX9_findWay_X9_within (by decide +kernel) (by decide +kernel) (by decide +kernel) (by decide +kernel) (fun r u hp => by obtain ⟨-, h⟩ := hp; exact h) ?_
        rintro r_172 u_172 ⟨rfl, -⟩
        refine g_top (bi (rng (Kv 2) (1 + 1))) (bi (spC C r1 l1 = 0)) (by have h1 := hW.told (v := 2) (by omega) (by omega); have h2 : spC C r1 l1 = 0 ↔ glC C r1 l1 = 3 := sp_gl; have h3 : glC C r1 l1 ≤ 3 := gl_le _ _ _ _; exact bi_congr ⟨fun h => h2.mpr (by have := h1.mp h; omega), fun h => h1.mpr (by have := h2.mp h; omega)⟩) ?_
        exact hret _ _ _ _ dX9_findWay_175 ⟨Bv, Qv, Kv, (by have e9 : v = 3 := (by omega); rw [e9] at hW; exact hW), rfl, (by rfl)⟩
      · skip
        refine g_iload_n F 3 dX9_findWay_31 rfl rfl ?_
        refine g_if_eqN (tgt := 51) F dX9_findWay_32 (by decide) (by omega) (fun c32 => ?_) (fun c32 => ?_)
        · skip
          refine g_iconst (v := nI 1) F dX9_findWay_51 (by decide) ?_
          refine g_goto (tgt := 56) F dX9_findWay_52 (by decide) ?_
          refine g_istore (lv2 := [(4, .int (nI 1)), (0, .ref q), (1, .int (nI r1)), (2, .int (nI l1)), (3, .int (nI v))]) F dX9_findWay_56 (by decide) rfl ?_
          refine g_iload F 0 dX9_findWay_58 rfl ?_
          refine g_if_eqN (tgt := 127) F dX9_findWay_60 (by decide) (by decide) (fun c60 => absurd c60 (by decide)) (fun c60 => ?_)
          refine g_iload_n F 4 dX9_findWay_63 rfl rfl ?_
          refine g_if_leN (tgt := 127) F dX9_findWay_64 (by decide) (by omega) (fun c64 => ?_) (fun c64 => ?_)
          · skip
            refine g_aload_n F 1 dX9_findWay_127 rfl rfl ?_
            refine g_get F 0 8 dX9_findWay_128 rfl rfl (by decide) (by decide +kernel) (by decide +kernel) rfl ?_
            refine g_iload_n F 4 dX9_findWay_131 rfl rfl ?_
            refine g_iload F 0 dX9_findWay_132 rfl ?_
            refine g_if_eqN (tgt := 156) F dX9_findWay_134 (by decide) (by decide) (fun c134 => absurd c134 (by decide)) (fun c134 => ?_)
            refine g_aload_n F 1 dX9_findWay_137 rfl rfl ?_
            refine g_aload_n F 1 dX9_findWay_138 rfl rfl ?_
            refine g_get F 0 6 dX9_findWay_139 rfl rfl (by decide) (by decide +kernel) (by decide +kernel) rfl ?_
            refine g_iload_n F 4 dX9_findWay_142 rfl rfl ?_
            refine g_iald F 2 dX9_findWay_143 rfl (by omega) (by decide) ?_
            refine g_aload_n F 1 dX9_findWay_144 rfl rfl ?_
            refine g_get F 0 7 dX9_findWay_145 rfl rfl (by decide) (by decide +kernel) (by decide +kernel) rfl ?_
            refine g_iload_n F 4 dX9_findWay_148 rfl rfl ?_
            refine g_iald F 3 dX9_findWay_149 rfl (by omega) (by decide) ?_
            refine g_callViR (n := 2) F [0, 1] (c_X9_takenFrom l E q r rc tl at9 lf9 pl9 vl9 fa rs9 cs dn S C (Bv v) (Qv v) (by assumption) (by assumption) (by rw [c32, (h0 c32).1]; omega) (by rw [c32, (h0 c32).2]; omega)) dX9_findWay_150 rfl (by decide) rfl rfl rfl (Nat.le_of_ble_eq_true rfl) ⟨Nat.le_of_ble_eq_true rfl, Nat.le_of_ble_eq_true rfl⟩ rfl rfl ⟨Nat.le_of_ble_eq_true rfl, Nat.le_of_ble_eq_true rfl⟩ 0 rfl rfl gX9_findWay_X9_takenFrom (by decide +kernel) (fun r u hp => by obtain ⟨-, h⟩ := hp; exact h) ?_
            rintro r_150 u_150 ⟨rfl, -⟩
            refine g_goto (tgt := 157) F dX9_findWay_153 (by decide) ?_
            refine g_xast F 4 dX9_findWay_157 rfl (by omega) (by decide) (w2 := [ob 9 q [.ref (r 0), .ref (r 1), .ref (r 2), .int (nI rc), .ref (r 3), .int (nI tl), .ref (r 4), .ref (r 5), .ref (r 6), .ref (r 7), .ref (r 8), .ref (r 9), .ref (r 10), .ref (r 11), .ref (r 12), .int (nI at9), .int (lf9), .int (pl9), .int (vl9), .int (nI fa), .int (nI rs9), .int (cs), .int (nI dn)], ai E (r 0) 892 S, ai E (r 4) 3 Bv, ai E (r 5) 3 Qv, ax E (r 6) 3 (upd Kv v (nI (tk (sN C) (Bv v) (Qv v))))]) rfl ?_
            refine g_iinc (k := 4) (v := nI (v + 1)) (lv2 := [(3, .int (nI (v + 1))), (4, .int (nI 1)), (0, .ref q), (1, .int (nI r1)), (2, .int (nI l1))]) F dX9_findWay_158 rfl (nI_1 _) (by decide) rfl ?_
            refine g_goto (tgt := 26) F dX9_findWay_161 (by decide) ?_
            refine g_lv [2, 3, 4, 0] rfl ?_
            exact ih26 (v + 1) Bv Qv (upd Kv v (nI (tk (sN C) (Bv v) (Qv v)))) (by omega) (by omega) (by exact hW.nxt (x := Bv v) (y := Qv v) (fun _ => ⟨by rw [c32, (h0 c32).1]; rfl, by rw [c32, (h0 c32).2]; rfl, by rw [c32, (h0 c32).1, (h0 c32).2]; rfl⟩) (fun h => by omega) ⟨rfl, fun _ _ => rfl⟩ ⟨rfl, fun _ _ => rfl⟩) (by intro h; omega)
          · skip
            exact absurd c64 (by omega)
        · skip
          refine g_aload_n F 0 dX9_findWay_35 rfl rfl ?_
          refine g_get F 0 8 dX9_findWay_36 rfl rfl (by decide) (by decide +kernel) (by decide +kernel) rfl ?_
          refine g_iload_n F 3 dX9_findWay_39 rfl rfl ?_
          refine g_iconst (v := nI 1) F dX9_findWay_40 (by decide) ?_
          refine g_isubN F dX9_findWay_41 (by omega) ?_
          refine g_xald F 4 dX9_findWay_42 rfl (by omega) (by decide) ?_
          refine g_iconst (v := nI 0) F dX9_findWay_43 (by decide) ?_
          refine g_iconst (v := nI 1) F dX9_findWay_44 (by decide) ?_
          refine g_callSiR (n := 3) F [] (c_X9_within_x l E (Kv (v - 1)) 1 (by omega)) dX9_findWay_45 rfl (by decide) rfl rfl rfl (Nat.le_of_ble_eq_true rfl) ⟨Nat.le_of_ble_eq_true rfl, Nat.le_of_ble_eq_true rfl⟩ rfl rfl ⟨Nat.le_of_ble_eq_true rfl, Nat.le_of_ble_eq_true rfl⟩ ggX9_findWay_X9_within (by decide +kernel) (by decide +kernel) (by decide +kernel) (by decide +kernel) (fun r u hp => by obtain ⟨-, h⟩ := hp; exact h) ?_
          rintro r_45 u_45 ⟨rfl, -⟩
          refine g_if_eqB (tgt := 55) F dX9_findWay_48 (by decide) (fun c48 => ?_) (fun c48 => ?_)
          · skip
            refine g_iconst (v := nI 0) F dX9_findWay_55 (by decide) ?_
            refine g_istore (lv2 := [(4, .int (nI 0)), (0, .ref q), (1, .int (nI r1)), (2, .int (nI l1)), (3, .int (nI v))]) F dX9_findWay_56 (by decide) rfl ?_
            refine g_iload F 0 dX9_findWay_58 rfl ?_
            refine g_if_eqN (tgt := 127) F dX9_findWay_60 (by decide) (by decide) (fun c60 => ?_) (fun c60 => absurd c60 (by decide))
            refine g_aload_n F 1 dX9_findWay_127 rfl rfl ?_
            refine g_get F 0 8 dX9_findWay_128 rfl rfl (by decide) (by decide +kernel) (by decide +kernel) rfl ?_
            refine g_iload_n F 4 dX9_findWay_131 rfl rfl ?_
            refine g_iload F 0 dX9_findWay_132 rfl ?_
            refine g_if_eqN (tgt := 156) F dX9_findWay_134 (by decide) (by decide) (fun c134 => ?_) (fun c134 => absurd c134 (by decide))
            refine g_iconst (v := (-1)) F dX9_findWay_156 (by decide) ?_
            refine g_xast F 4 dX9_findWay_157 rfl (by omega) (by decide) (w2 := [ob 9 q [.ref (r 0), .ref (r 1), .ref (r 2), .int (nI rc), .ref (r 3), .int (nI tl), .ref (r 4), .ref (r 5), .ref (r 6), .ref (r 7), .ref (r 8), .ref (r 9), .ref (r 10), .ref (r 11), .ref (r 12), .int (nI at9), .int (lf9), .int (pl9), .int (vl9), .int (nI fa), .int (nI rs9), .int (cs), .int (nI dn)], ai E (r 0) 892 S, ai E (r 4) 3 Bv, ai E (r 5) 3 Qv, ax E (r 6) 3 (upd Kv v (-1))]) rfl ?_
            refine g_iinc (k := 4) (v := nI (v + 1)) (lv2 := [(3, .int (nI (v + 1))), (4, .int (nI 0)), (0, .ref q), (1, .int (nI r1)), (2, .int (nI l1))]) F dX9_findWay_158 rfl (nI_1 _) (by decide) rfl ?_
            refine g_goto (tgt := 26) F dX9_findWay_161 (by decide) ?_
            refine g_lv [2, 3, 4, 0] rfl ?_
            exact ih26 (v + 1) Bv Qv (upd Kv v (-1)) (by omega) (by omega) (by exact hW.nxt (x := Bv v) (y := Qv v) (fun h => absurd ((hW.told (v := v - 1) (by omega) (by omega)).mpr (by omega)) c48) (fun _ => rfl) ⟨rfl, fun _ _ => rfl⟩ ⟨rfl, fun _ _ => rfl⟩) (by intro h; omega)
          · skip
            refine g_iconst (v := nI 1) F dX9_findWay_51 (by decide) ?_
            refine g_goto (tgt := 56) F dX9_findWay_52 (by decide) ?_
            refine g_istore (lv2 := [(4, .int (nI 1)), (0, .ref q), (1, .int (nI r1)), (2, .int (nI l1)), (3, .int (nI v))]) F dX9_findWay_56 (by decide) rfl ?_
            refine g_iload F 0 dX9_findWay_58 rfl ?_
            refine g_if_eqN (tgt := 127) F dX9_findWay_60 (by decide) (by decide) (fun c60 => absurd c60 (by decide)) (fun c60 => ?_)
            refine g_iload_n F 4 dX9_findWay_63 rfl rfl ?_
            refine g_if_leN (tgt := 127) F dX9_findWay_64 (by decide) (by omega) (fun c64 => ?_) (fun c64 => ?_)
            · skip
              exact absurd c64 (by omega)
            · skip
              refine g_aload_n F 1 dX9_findWay_67 rfl rfl ?_
              refine g_aload_n F 1 dX9_findWay_68 rfl rfl ?_
              refine g_get F 0 8 dX9_findWay_69 rfl rfl (by decide) (by decide +kernel) (by decide +kernel) rfl ?_
              refine g_iload_n F 4 dX9_findWay_72 rfl rfl ?_
              refine g_iconst (v := nI 1) F dX9_findWay_73 (by decide) ?_
              refine g_isubN F dX9_findWay_74 (by omega) ?_
              refine g_xald F 4 dX9_findWay_75 rfl (by omega) (by decide) ?_
              have hg1 : v ≤ glC C r1 l1 := by
                have := (hW.told (v := v - 1) (by omega) (by omega)).mp c48
                omega
              have hw1 := (hW (v - 1) (by omega)).1 (by omega)
              have hd1 : wDC C r1 l1 (v - 1) < 2 := by
                have h6 : wDC C r1 l1 (v - 1) ≤ 2 := wd_le _ _ _ _ _
                have h5 : wDC C r1 l1 (v - 1) = 2 ↔ glC C r1 l1 = v - 1 := gl_s (by omega) (show v - 1 ≤ glC C r1 l1 by omega)
                by_cases z : wDC C r1 l1 (v - 1) = 2
                · have := h5.mp z; omega
                · omega
              have hb1 : wBC C r1 l1 (v - 1) < 96 := tk_in (N := sN C) (s := wQC C r1 l1 (v - 1)) (Nat.ne_of_lt hd1)
              refine g_top (Kv (v - 1)) (nI (wDC C r1 l1 (v - 1))) (by exact hw1.2.2) ?_
              refine g_aload_n F 1 dX9_findWay_76 rfl rfl ?_
              refine g_get F 0 6 dX9_findWay_77 rfl rfl (by decide) (by decide +kernel) (by decide +kernel) rfl ?_
              refine g_iload_n F 4 dX9_findWay_80 rfl rfl ?_
              refine g_iconst (v := nI 1) F dX9_findWay_81 (by decide) ?_
              refine g_isubN F dX9_findWay_82 (by omega) ?_
              refine g_iald F 2 dX9_findWay_83 rfl (by omega) (by decide) ?_
              refine g_top (nI (Bv (v - 1))) (nI (wBC C r1 l1 (v - 1))) (by rw [hw1.1]) ?_
              refine g_iload_n F 4 dX9_findWay_84 rfl rfl ?_
              refine g_iconst (v := nI 1) F dX9_findWay_85 (by decide) ?_
              refine g_icmp_neN (tgt := 95) F dX9_findWay_86 (by decide) (by omega) (by omega) (fun c86 => ?_) (fun c86 => ?_)
              · skip
                refine g_iload_n F 3 dX9_findWay_95 rfl rfl ?_
                refine g_iconst (v := nI 4) F dX9_findWay_96 (by decide) ?_
                refine g_iremN F dX9_findWay_97 (by omega) (by decide) (by decide) ?_
                refine g_callViR (n := 3) F [0, 1] (c_X9_contentOf l E q r rc tl at9 lf9 pl9 vl9 fa rs9 cs dn S C (wDC C r1 l1 (v - 1)) (wBC C r1 l1 (v - 1)) (l1 % 4) (by assumption) (by exact hd1) (by exact hb1) (by omega)) dX9_findWay_98 rfl (by decide) rfl rfl rfl (Nat.le_of_ble_eq_true rfl) ⟨Nat.le_of_ble_eq_true rfl, Nat.le_of_ble_eq_true rfl⟩ rfl rfl ⟨Nat.le_of_ble_eq_true rfl, Nat.le_of_ble_eq_true rfl⟩ 0 rfl rfl gX9_findWay_X9_contentOf (by decide +kernel) (fun r u hp => by obtain ⟨-, h⟩ := hp; exact h) ?_
                rintro r_98 u_98 ⟨rfl, -⟩
                refine g_istore (lv2 := [(5, .int (nI (nu (sN C) (wDC C r1 l1 (v - 1)) (wBC C r1 l1 (v - 1)) (l1 % 4)))), (4, .int (nI 1)), (0, .ref q), (1, .int (nI r1)), (2, .int (nI l1)), (3, .int (nI v))]) F dX9_findWay_101 (by decide) rfl ?_
                have hk1 : nu (sN C) (wDC C r1 l1 (v - 1)) (wBC C r1 l1 (v - 1)) (l1 % 4) < 65536 := hI.1 _
                have hc9 : ch l1 (v - 1) = l1 % 4 := if_neg (by omega)
                have hx1 : nu (sN C) (wDC C r1 l1 (v - 1)) (wBC C r1 l1 (v - 1)) (l1 % 4) / 256 = wBC C r1 l1 v := by
                  rw [← hc9]
                  obtain ⟨n9, hn9⟩ : ∃ n9, v = n9 + 1 := ⟨v - 1, by omega⟩
                  clear hW
                  subst hn9
                  rfl
                have hx2 : nu (sN C) (wDC C r1 l1 (v - 1)) (wBC C r1 l1 (v - 1)) (l1 % 4) % 256 = wQC C r1 l1 v := by
                  rw [← hc9]
                  obtain ⟨n9, hn9⟩ : ∃ n9, v = n9 + 1 := ⟨v - 1, by omega⟩
                  clear hW
                  subst hn9
                  rfl
                refine g_aload_n F 2 dX9_findWay_103 rfl rfl ?_
                refine g_get F 0 6 dX9_findWay_104 rfl rfl (by decide) (by decide +kernel) (by decide +kernel) rfl ?_
                refine g_iload_n F 5 dX9_findWay_107 rfl rfl ?_
                refine g_iload F 0 dX9_findWay_108 rfl ?_
                refine g_sipush (v := nI 256) F dX9_findWay_110 (by decide) ?_
                refine g_idivN F dX9_findWay_113 (by omega) (by decide) (by decide) ?_
                refine g_iast F 2 dX9_findWay_114 rfl (by omega) (by decide) (w2 := [ob 9 q [.ref (r 0), .ref (r 1), .ref (r 2), .int (nI rc), .ref (r 3), .int (nI tl), .ref (r 4), .ref (r 5), .ref (r 6), .ref (r 7), .ref (r 8), .ref (r 9), .ref (r 10), .ref (r 11), .ref (r 12), .int (nI at9), .int (lf9), .int (pl9), .int (vl9), .int (nI fa), .int (nI rs9), .int (cs), .int (nI dn)], ai E (r 0) 892 S, ai E (r 4) 3 (up Bv v ((nu (sN C) (wDC C r1 l1 (v - 1)) (wBC C r1 l1 (v - 1)) (l1 % 4)) / 256)), ai E (r 5) 3 Qv, ax E (r 6) 3 Kv]) rfl ?_
                refine g_aload_n F 2 dX9_findWay_115 rfl rfl ?_
                refine g_get F 0 7 dX9_findWay_116 rfl rfl (by decide) (by decide +kernel) (by decide +kernel) rfl ?_
                refine g_iload_n F 5 dX9_findWay_119 rfl rfl ?_
                refine g_iload F 0 dX9_findWay_120 rfl ?_
                refine g_sipush (v := nI 256) F dX9_findWay_122 (by decide) ?_
                refine g_iremN F dX9_findWay_125 (by omega) (by decide) (by decide) ?_
                refine g_iast F 3 dX9_findWay_126 rfl (by omega) (by decide) (w2 := [ob 9 q [.ref (r 0), .ref (r 1), .ref (r 2), .int (nI rc), .ref (r 3), .int (nI tl), .ref (r 4), .ref (r 5), .ref (r 6), .ref (r 7), .ref (r 8), .ref (r 9), .ref (r 10), .ref (r 11), .ref (r 12), .int (nI at9), .int (lf9), .int (pl9), .int (vl9), .int (nI fa), .int (nI rs9), .int (cs), .int (nI dn)], ai E (r 0) 892 S, ai E (r 4) 3 (up Bv v ((nu (sN C) (wDC C r1 l1 (v - 1)) (wBC C r1 l1 (v - 1)) (l1 % 4)) / 256)), ai E (r 5) 3 (up Qv v ((nu (sN C) (wDC C r1 l1 (v - 1)) (wBC C r1 l1 (v - 1)) (l1 % 4)) % 256)), ax E (r 6) 3 Kv]) rfl ?_
                refine g_aload_n F 2 dX9_findWay_127 rfl rfl ?_
                refine g_get F 0 8 dX9_findWay_128 rfl rfl (by decide) (by decide +kernel) (by decide +kernel) rfl ?_
                refine g_iload_n F 5 dX9_findWay_131 rfl rfl ?_
                refine g_iload F 1 dX9_findWay_132 rfl ?_
                refine g_if_eqN (tgt := 156) F dX9_findWay_134 (by decide) (by decide) (fun c134 => absurd c134 (by decide)) (fun c134 => ?_)
                refine g_aload_n F 2 dX9_findWay_137 rfl rfl ?_
                refine g_aload_n F 2 dX9_findWay_138 rfl rfl ?_
                refine g_get F 0 6 dX9_findWay_139 rfl rfl (by decide) (by decide +kernel) (by decide +kernel) rfl ?_
                refine g_iload_n F 5 dX9_findWay_142 rfl rfl ?_
                refine g_iald F 2 dX9_findWay_143 rfl (by omega) (by decide) ?_
                refine g_aload_n F 2 dX9_findWay_144 rfl rfl ?_
                refine g_get F 0 7 dX9_findWay_145 rfl rfl (by decide) (by decide +kernel) (by decide +kernel) rfl ?_
                refine g_iload_n F 5 dX9_findWay_148 rfl rfl ?_
                refine g_iald F 3 dX9_findWay_149 rfl (by omega) (by decide) ?_
                refine g_callViR (n := 2) F [0, 1] (c_X9_takenFrom l E q r rc tl at9 lf9 pl9 vl9 fa rs9 cs dn S C ((up Bv v ((nu (sN C) (wDC C r1 l1 (v - 1)) (wBC C r1 l1 (v - 1)) (l1 % 4)) / 256)) v) ((up Qv v ((nu (sN C) (wDC C r1 l1 (v - 1)) (wBC C r1 l1 (v - 1)) (l1 % 4)) % 256)) v) (by assumption) (by assumption) (by rw [up_s]; omega) (by rw [up_s]; omega)) dX9_findWay_150 rfl (by decide) rfl rfl rfl (Nat.le_of_ble_eq_true rfl) ⟨Nat.le_of_ble_eq_true rfl, Nat.le_of_ble_eq_true rfl⟩ rfl rfl ⟨Nat.le_of_ble_eq_true rfl, Nat.le_of_ble_eq_true rfl⟩ 0 rfl rfl gX9_findWay_X9_takenFrom (by decide +kernel) (fun r u hp => by obtain ⟨-, h⟩ := hp; exact h) ?_
                rintro r_150 u_150 ⟨rfl, -⟩
                refine g_goto (tgt := 157) F dX9_findWay_153 (by decide) ?_
                refine g_xast F 4 dX9_findWay_157 rfl (by omega) (by decide) (w2 := [ob 9 q [.ref (r 0), .ref (r 1), .ref (r 2), .int (nI rc), .ref (r 3), .int (nI tl), .ref (r 4), .ref (r 5), .ref (r 6), .ref (r 7), .ref (r 8), .ref (r 9), .ref (r 10), .ref (r 11), .ref (r 12), .int (nI at9), .int (lf9), .int (pl9), .int (vl9), .int (nI fa), .int (nI rs9), .int (cs), .int (nI dn)], ai E (r 0) 892 S, ai E (r 4) 3 (up Bv v ((nu (sN C) (wDC C r1 l1 (v - 1)) (wBC C r1 l1 (v - 1)) (l1 % 4)) / 256)), ai E (r 5) 3 (up Qv v ((nu (sN C) (wDC C r1 l1 (v - 1)) (wBC C r1 l1 (v - 1)) (l1 % 4)) % 256)), ax E (r 6) 3 (upd Kv v (nI (tk (sN C) ((up Bv v ((nu (sN C) (wDC C r1 l1 (v - 1)) (wBC C r1 l1 (v - 1)) (l1 % 4)) / 256)) v) ((up Qv v ((nu (sN C) (wDC C r1 l1 (v - 1)) (wBC C r1 l1 (v - 1)) (l1 % 4)) % 256)) v))))]) rfl ?_
                refine g_iinc (k := 5) (v := nI (v + 1)) (lv2 := [(3, .int (nI (v + 1))), (5, .int (nI (nu (sN C) (wDC C r1 l1 (v - 1)) (wBC C r1 l1 (v - 1)) (l1 % 4)))), (4, .int (nI 1)), (0, .ref q), (1, .int (nI r1)), (2, .int (nI l1))]) F dX9_findWay_158 rfl (nI_1 _) (by decide) rfl ?_
                refine g_goto (tgt := 26) F dX9_findWay_161 (by decide) ?_
                refine g_lv [3, 4, 5, 0] rfl ?_
                exact ih26 (v + 1) (up Bv v ((nu (sN C) (wDC C r1 l1 (v - 1)) (wBC C r1 l1 (v - 1)) (l1 % 4)) / 256)) (up Qv v ((nu (sN C) (wDC C r1 l1 (v - 1)) (wBC C r1 l1 (v - 1)) (l1 % 4)) % 256)) (upd Kv v (nI (tk (sN C) ((up Bv v ((nu (sN C) (wDC C r1 l1 (v - 1)) (wBC C r1 l1 (v - 1)) (l1 % 4)) / 256)) v) ((up Qv v ((nu (sN C) (wDC C r1 l1 (v - 1)) (wBC C r1 l1 (v - 1)) (l1 % 4)) % 256)) v)))) (by omega) (by omega) (by exact hW.nxt (fun _ => ⟨hx1, hx2, by rw [up_s, up_s, hx1, hx2]; rfl⟩) (fun h => by omega) ⟨up_s _ _ _, fun u hu => up_n _ _ (by omega)⟩ ⟨up_s _ _ _, fun u hu => up_n _ _ (by omega)⟩) (by intro h; omega)
              · skip
                refine g_iload_n F 3 dX9_findWay_89 rfl rfl ?_
                refine g_iconst (v := nI 4) F dX9_findWay_90 (by decide) ?_
                refine g_idivN F dX9_findWay_91 (by omega) (by decide) (by decide) ?_
                refine g_goto (tgt := 98) F dX9_findWay_92 (by decide) ?_
                refine g_callViR (n := 3) F [0, 1] (c_X9_contentOf l E q r rc tl at9 lf9 pl9 vl9 fa rs9 cs dn S C (wDC C r1 l1 (v - 1)) (wBC C r1 l1 (v - 1)) (l1 / 4) (by assumption) (by exact hd1) (by exact hb1) (by omega)) dX9_findWay_98 rfl (by decide) rfl rfl rfl (Nat.le_of_ble_eq_true rfl) ⟨Nat.le_of_ble_eq_true rfl, Nat.le_of_ble_eq_true rfl⟩ rfl rfl ⟨Nat.le_of_ble_eq_true rfl, Nat.le_of_ble_eq_true rfl⟩ 0 rfl rfl gX9_findWay_X9_contentOf (by decide +kernel) (fun r u hp => by obtain ⟨-, h⟩ := hp; exact h) ?_
                rintro r_98 u_98 ⟨rfl, -⟩
                refine g_istore (lv2 := [(5, .int (nI (nu (sN C) (wDC C r1 l1 (v - 1)) (wBC C r1 l1 (v - 1)) (l1 / 4)))), (4, .int (nI 1)), (0, .ref q), (1, .int (nI r1)), (2, .int (nI l1)), (3, .int (nI v))]) F dX9_findWay_101 (by decide) rfl ?_
                have hk1 : nu (sN C) (wDC C r1 l1 (v - 1)) (wBC C r1 l1 (v - 1)) (l1 / 4) < 65536 := hI.1 _
                have hc9 : ch l1 (v - 1) = l1 / 4 := if_pos (by omega)
                have hx1 : nu (sN C) (wDC C r1 l1 (v - 1)) (wBC C r1 l1 (v - 1)) (l1 / 4) / 256 = wBC C r1 l1 v := by
                  rw [← hc9]
                  obtain ⟨n9, hn9⟩ : ∃ n9, v = n9 + 1 := ⟨v - 1, by omega⟩
                  clear hW
                  subst hn9
                  rfl
                have hx2 : nu (sN C) (wDC C r1 l1 (v - 1)) (wBC C r1 l1 (v - 1)) (l1 / 4) % 256 = wQC C r1 l1 v := by
                  rw [← hc9]
                  obtain ⟨n9, hn9⟩ : ∃ n9, v = n9 + 1 := ⟨v - 1, by omega⟩
                  clear hW
                  subst hn9
                  rfl
                refine g_aload_n F 2 dX9_findWay_103 rfl rfl ?_
                refine g_get F 0 6 dX9_findWay_104 rfl rfl (by decide) (by decide +kernel) (by decide +kernel) rfl ?_
                refine g_iload_n F 5 dX9_findWay_107 rfl rfl ?_
                refine g_iload F 0 dX9_findWay_108 rfl ?_
                refine g_sipush (v := nI 256) F dX9_findWay_110 (by decide) ?_
                refine g_idivN F dX9_findWay_113 (by omega) (by decide) (by decide) ?_
                refine g_iast F 2 dX9_findWay_114 rfl (by omega) (by decide) (w2 := [ob 9 q [.ref (r 0), .ref (r 1), .ref (r 2), .int (nI rc), .ref (r 3), .int (nI tl), .ref (r 4), .ref (r 5), .ref (r 6), .ref (r 7), .ref (r 8), .ref (r 9), .ref (r 10), .ref (r 11), .ref (r 12), .int (nI at9), .int (lf9), .int (pl9), .int (vl9), .int (nI fa), .int (nI rs9), .int (cs), .int (nI dn)], ai E (r 0) 892 S, ai E (r 4) 3 (up Bv v ((nu (sN C) (wDC C r1 l1 (v - 1)) (wBC C r1 l1 (v - 1)) (l1 / 4)) / 256)), ai E (r 5) 3 Qv, ax E (r 6) 3 Kv]) rfl ?_
                refine g_aload_n F 2 dX9_findWay_115 rfl rfl ?_
                refine g_get F 0 7 dX9_findWay_116 rfl rfl (by decide) (by decide +kernel) (by decide +kernel) rfl ?_
                refine g_iload_n F 5 dX9_findWay_119 rfl rfl ?_
                refine g_iload F 0 dX9_findWay_120 rfl ?_
                refine g_sipush (v := nI 256) F dX9_findWay_122 (by decide) ?_
                refine g_iremN F dX9_findWay_125 (by omega) (by decide) (by decide) ?_
                refine g_iast F 3 dX9_findWay_126 rfl (by omega) (by decide) (w2 := [ob 9 q [.ref (r 0), .ref (r 1), .ref (r 2), .int (nI rc), .ref (r 3), .int (nI tl), .ref (r 4), .ref (r 5), .ref (r 6), .ref (r 7), .ref (r 8), .ref (r 9), .ref (r 10), .ref (r 11), .ref (r 12), .int (nI at9), .int (lf9), .int (pl9), .int (vl9), .int (nI fa), .int (nI rs9), .int (cs), .int (nI dn)], ai E (r 0) 892 S, ai E (r 4) 3 (up Bv v ((nu (sN C) (wDC C r1 l1 (v - 1)) (wBC C r1 l1 (v - 1)) (l1 / 4)) / 256)), ai E (r 5) 3 (up Qv v ((nu (sN C) (wDC C r1 l1 (v - 1)) (wBC C r1 l1 (v - 1)) (l1 / 4)) % 256)), ax E (r 6) 3 Kv]) rfl ?_
                refine g_aload_n F 2 dX9_findWay_127 rfl rfl ?_
                refine g_get F 0 8 dX9_findWay_128 rfl rfl (by decide) (by decide +kernel) (by decide +kernel) rfl ?_
                refine g_iload_n F 5 dX9_findWay_131 rfl rfl ?_
                refine g_iload F 1 dX9_findWay_132 rfl ?_
                refine g_if_eqN (tgt := 156) F dX9_findWay_134 (by decide) (by decide) (fun c134 => absurd c134 (by decide)) (fun c134 => ?_)
                refine g_aload_n F 2 dX9_findWay_137 rfl rfl ?_
                refine g_aload_n F 2 dX9_findWay_138 rfl rfl ?_
                refine g_get F 0 6 dX9_findWay_139 rfl rfl (by decide) (by decide +kernel) (by decide +kernel) rfl ?_
                refine g_iload_n F 5 dX9_findWay_142 rfl rfl ?_
                refine g_iald F 2 dX9_findWay_143 rfl (by omega) (by decide) ?_
                refine g_aload_n F 2 dX9_findWay_144 rfl rfl ?_
                refine g_get F 0 7 dX9_findWay_145 rfl rfl (by decide) (by decide +kernel) (by decide +kernel) rfl ?_
                refine g_iload_n F 5 dX9_findWay_148 rfl rfl ?_
                refine g_iald F 3 dX9_findWay_149 rfl (by omega) (by decide) ?_
                refine g_callViR (n := 2) F [0, 1] (c_X9_takenFrom l E q r rc tl at9 lf9 pl9 vl9 fa rs9 cs dn S C ((up Bv v ((nu (sN C) (wDC C r1 l1 (v - 1)) (wBC C r1 l1 (v - 1)) (l1 / 4)) / 256)) v) ((up Qv v ((nu (sN C) (wDC C r1 l1 (v - 1)) (wBC C r1 l1 (v - 1)) (l1 / 4)) % 256)) v) (by assumption) (by assumption) (by rw [up_s]; omega) (by rw [up_s]; omega)) dX9_findWay_150 rfl (by decide) rfl rfl rfl (Nat.le_of_ble_eq_true rfl) ⟨Nat.le_of_ble_eq_true rfl, Nat.le_of_ble_eq_true rfl⟩ rfl rfl ⟨Nat.le_of_ble_eq_true rfl, Nat.le_of_ble_eq_true rfl⟩ 0 rfl rfl gX9_findWay_X9_takenFrom (by decide +kernel) (fun r u hp => by obtain ⟨-, h⟩ := hp; exact h) ?_
                rintro r_150 u_150 ⟨rfl, -⟩
                refine g_goto (tgt := 157) F dX9_findWay_153 (by decide) ?_
                refine g_xast F 4 dX9_findWay_157 rfl (by omega) (by decide) (w2 := [ob 9 q [.ref (r 0), .ref (r 1), .ref (r 2), .int (nI rc), .ref (r 3), .int (nI tl), .ref (r 4), .ref (r 5), .ref (r 6), .ref (r 7), .ref (r 8), .ref (r 9), .ref (r 10), .ref (r 11), .ref (r 12), .int (nI at9), .int (lf9), .int (pl9), .int (vl9), .int (nI fa), .int (nI rs9), .int (cs), .int (nI dn)], ai E (r 0) 892 S, ai E (r 4) 3 (up Bv v ((nu (sN C) (wDC C r1 l1 (v - 1)) (wBC C r1 l1 (v - 1)) (l1 / 4)) / 256)), ai E (r 5) 3 (up Qv v ((nu (sN C) (wDC C r1 l1 (v - 1)) (wBC C r1 l1 (v - 1)) (l1 / 4)) % 256)), ax E (r 6) 3 (upd Kv v (nI (tk (sN C) ((up Bv v ((nu (sN C) (wDC C r1 l1 (v - 1)) (wBC C r1 l1 (v - 1)) (l1 / 4)) / 256)) v) ((up Qv v ((nu (sN C) (wDC C r1 l1 (v - 1)) (wBC C r1 l1 (v - 1)) (l1 / 4)) % 256)) v))))]) rfl ?_
                refine g_iinc (k := 5) (v := nI (v + 1)) (lv2 := [(3, .int (nI (v + 1))), (5, .int (nI (nu (sN C) (wDC C r1 l1 (v - 1)) (wBC C r1 l1 (v - 1)) (l1 / 4)))), (4, .int (nI 1)), (0, .ref q), (1, .int (nI r1)), (2, .int (nI l1))]) F dX9_findWay_158 rfl (nI_1 _) (by decide) rfl ?_
                refine g_goto (tgt := 26) F dX9_findWay_161 (by decide) ?_
                refine g_lv [3, 4, 5, 0] rfl ?_
                exact ih26 (v + 1) (up Bv v ((nu (sN C) (wDC C r1 l1 (v - 1)) (wBC C r1 l1 (v - 1)) (l1 / 4)) / 256)) (up Qv v ((nu (sN C) (wDC C r1 l1 (v - 1)) (wBC C r1 l1 (v - 1)) (l1 / 4)) % 256)) (upd Kv v (nI (tk (sN C) ((up Bv v ((nu (sN C) (wDC C r1 l1 (v - 1)) (wBC C r1 l1 (v - 1)) (l1 / 4)) / 256)) v) ((up Qv v ((nu (sN C) (wDC C r1 l1 (v - 1)) (wBC C r1 l1 (v - 1)) (l1 / 4)) % 256)) v)))) (by omega) (by omega) (by exact hW.nxt (fun _ => ⟨hx1, hx2, by rw [up_s, up_s, hx1, hx2]; rfl⟩) (fun h => by omega) ⟨up_s _ _ _, fun u hu => up_n _ _ (by omega)⟩ ⟨up_s _ _ _, fun u hu => up_n _ _ (by omega)⟩) (by intro h; omega)
  refine g_lv [1, 2, 3, 0] rfl ?_
  exact loop26 ((3 - 0) + 1) 0 (up B 0 (sb C r1)) (up Q 0 (ss C r1)) K (Nat.lt_succ_self _) (by omega) (by intro u hu; omega) (by intro _; exact ⟨up_s _ _ _, up_s _ _ _⟩)
