/-! the reference mends and writes -/
theorem Rel.congr {S : Nat → Nat} {C D : CS} (h : Rel S C) (hN : ∀ j : Nat, j < 768 → sN C j = sN D j) (hU : ∀ j : Nat, j < 96 → sU C j = sU D j) (hZ : sZ C = sZ D) (hM : sM C = sM D) (hW : sW C = sW D) (hr : ∀ i : Nat, i < sZ C → sn C i = sn D i ∧ sb C i = sb D i ∧ ss C i = ss D i) : Rel S D := by
  obtain ⟨h1, h2, h3, h4, h5, h6, h7⟩ := h
  refine ⟨fun j hj => by rw [h1 j hj, hN j hj], fun j hj => by rw [h2 j hj, hU j hj], by rw [h3, hZ], by rw [h4, hW], by rw [h5, hM], by rw [h6, hW], fun i hi => ?_⟩
  have hi2 : i < sZ C := by rw [hZ]; exact hi
  obtain ⟨a, b, c⟩ := h7 i hi2
  obtain ⟨e, f, g⟩ := hr i hi2
  exact ⟨by rw [a, e], by rw [b, f], by rw [c, g]⟩
theorem IC_nS {C : CS} (h : IC C) {N : Nat → Nat} (hN : BN N) : IC (nS C N) := ⟨hN, h.2⟩
theorem up_comm (S : Nat → Nat) {i j : Nat} (h : i ≠ j) (x y : Nat) : up (up S i x) j y = up (up S j y) i x := by
  funext k
  unfold up
  by_cases h1 : k = i
  · rw [if_neg (by omega), if_pos h1, if_pos h1]
  · by_cases h2 : k = j
    · rw [if_pos h2, if_neg h1, if_pos h2]
    · rw [if_neg h2, if_neg h1, if_neg h1, if_neg h2]
theorem ly_comm (A T : Nat → Nat) {b k v : Nat} (x : Nat) (hk : k < 4) : ∀ m, ly (pn A 0 b k x) 1 b T v m = pn (ly A 1 b T v m) 0 b k x
  | 0 => rfl
  | m + 1 => by
    show pn (ly (pn A 0 b k x) 1 b T v m) 1 b m (wn T v m) = pn (pn (ly A 1 b T v m) 1 b m (wn T v m)) 0 b k x
    rw [ly_comm A T x hk m]
    exact up_comm _ (by omega) _ _
def lyb (N : Nat → Nat) (b : Nat) (T : Nat → Nat) (v k : Nat) : Nat → Nat := ly (ly N 0 b T v k) 1 b T v k
theorem lyb_s {N T : Nat → Nat} {b v k : Nat} (hk : k < 4) : pn (pn (lyb N b T v k) 0 b k (wn T v k)) 1 b k (wn T v k) = lyb N b T v (k + 1) := by
  show pn (pn (ly (ly N 0 b T v k) 1 b T v k) 0 b k (wn T v k)) 1 b k (wn T v k) = pn (ly (pn (ly N 0 b T v k) 0 b k (wn T v k)) 1 b T v k) 1 b k (wn T v k)
  rw [ly_comm _ _ _ hk]
theorem WR9.good {C : CS} {r l n v : Nat} {B Q : Nat → Nat} {K : Nat → Int32} (h : WR9 C r l n B Q K) (hv : v < n) (h3 : v < 3) (hg : v < glC C r l) : K v = nI (wDC C r l v) ∧ B v = wBC C r l v ∧ Q v = wQC C r l v ∧ wDC C r l v < 2 ∧ wBC C r l v < 96 := by
  have h1 := (h v hv).1 (by omega)
  have h6 : wDC C r l v ≤ 2 := wd_le _ _ _ _ _
  have h5 : wDC C r l v = 2 ↔ glC C r l = v := gl_s h3 (show v ≤ glC C r l by omega)
  have h7 : wDC C r l v < 2 := by
    by_cases z : wDC C r l v = 2
    · have := h5.mp z
      omega
    · omega
  exact ⟨h1.2.2, h1.1, h1.2.1, h7, tk_in (N := sN C) (s := wQC C r l v) (Nat.ne_of_lt h7)⟩
noncomputable def mdC (C : CS) (r l v : Nat) : Nat × (Nat → Nat) := md (sN C) (wb (sN C) (sb C r) (ss C r) l) (wtc (sN C) (sb C r) (ss C r) l) v
theorem mdC_BN {C : CS} (h : IC C) (r l v : Nat) : BN (mdC C r l v).2 := md_BN h.1 v (fun _ _ _ _ => wtc_lt h.1 _ _ _ _)
theorem mdC_X (C : CS) (r l : Nat) : mdX (sN C) (sb C) (ss C) r l = mdC C r l (glC C r l) := rfl
theorem mdC_2 (C : CS) (r l v : Nat) : (mdC C r l (v + 1)).2 = ly2 (mdC C r l v).2 (wBC C r l v) (wtc (sN C) (sb C r) (ss C r) l) v := rfl
theorem mdC_a {C : CS} {r l v : Nat} (h : al (mdC C r l v).2 (wBC C r l v)) : (mdC C r l (v + 1)).1 = (mdC C r l v).1 := md_a h
theorem mdC_b {C : CS} {r l v : Nat} (h : ¬ al (mdC C r l v).2 (wBC C r l v)) : (mdC C r l (v + 1)).1 = (mdC C r l v).1 + 1 := md_b h
/-- the copy 0 of a block as it was, from one of its numbers on -/
def bb (N M : Nat → Nat) (b f k : Nat) : Nat → Nat := fun j => if b * 4 + f ≤ j ∧ j < b * 4 + k then M j else N j
theorem bb_s {N M : Nat → Nat} {b f k : Nat} (hf : f ≤ k) : pn (bb N M b f k) 0 b k (nu M 0 b k) = bb N M b f (k + 1) := by
  funext j
  show (if j = (0 * 96 + b) * 4 + k then M ((0 * 96 + b) * 4 + k) else if b * 4 + f ≤ j ∧ j < b * 4 + k then M j else N j) = if b * 4 + f ≤ j ∧ j < b * 4 + (k + 1) then M j else N j
  by_cases h1 : j = (0 * 96 + b) * 4 + k
  · rw [if_pos h1, if_pos (by omega), h1]
  · rw [if_neg h1]
    by_cases h2 : b * 4 + f ≤ j ∧ j < b * 4 + k
    · rw [if_pos h2, if_pos (by omega)]
    · rw [if_neg h2, if_neg (by omega)]
theorem bb_0 {N M : Nat → Nat} {b f : Nat} : bb N M b f f = N := by
  funext j
  exact if_neg (by omega)
theorem wtC_at {C : CS} {l v k : Nat} (hk : k < 4) : wtC C l (v * 4 + k) = nu (sN C) (wDC C 0 l v) (wBC C 0 l v) k := by
  show nu (sN C) (wd (sN C) (sb C 0) (ss C 0) l ((v * 4 + k) / 4)) (wb (sN C) (sb C 0) (ss C 0) l ((v * 4 + k) / 4)) ((v * 4 + k) % 4) = _
  rw [show (v * 4 + k) / 4 = v by omega, show (v * 4 + k) % 4 = k by omega]
theorem wtr_at {C : CS} {r l j : Nat} : wtc (sN C) (sb C r) (ss C r) l j = nu (sN C) (wDC C r l (j / 4)) (wBC C r l (j / 4)) (j % 4) := rfl
set_option maxHeartbeats 4000000 in
set_option maxRecDepth 100000 in
theorem c_X9_mendAt (l : Launch) (E : En) (q : Nat) (r : Nat → Nat) (rc : Nat) (tl : Nat) (at9 : Nat) (lf9 : Int32) (pl9 : Int32) (vl9 : Int32) (fa : Nat) (rs9 : Nat) (cs : Int32) (dn : Nat) (S : Nat → Nat) (C : CS) (B : Nat → Nat) (F0 : Nat → Nat) (T : Nat → Nat) (v : Nat) (hR : Rel S C) (hv : v < 3) (hb : B v < 96) (hF : ∀ k : Nat, k < 4 → F0 (4 * v + k) = T (v * 4 + k)) : CtV l yX9_mendAt wsX9_mendAt ({ frames := 2, cells := 0, slots := 0, locals := 47 } : Room) E [.ref q, .int (nI v)] [ob 9 q [.ref (r 0), .ref (r 1), .ref (r 2), .int (nI rc), .ref (r 3), .int (nI tl), .ref (r 4), .ref (r 5), .ref (r 6), .ref (r 7), .ref (r 8), .ref (r 9), .ref (r 10), .ref (r 11), .ref (r 12), .int (nI at9), .int (lf9), .int (pl9), .int (vl9), .int (nI fa), .int (nI rs9), .int (cs), .int (nI dn)], ai E (r 0) 892 S, ai E (r 4) 3 B, ai E (r 7) 12 F0] (fun uu => ∃ (S2 : Nat → Nat), (Rel S2 (nS C (ly2 (sN C) (B v) T v))) ∧ uu = [ob 9 q [.ref (r 0), .ref (r 1), .ref (r 2), .int (nI rc), .ref (r 3), .int (nI tl), .ref (r 4), .ref (r 5), .ref (r 6), .ref (r 7), .ref (r 8), .ref (r 9), .ref (r 10), .ref (r 11), .ref (r 12), .int (nI at9), .int (lf9), .int (pl9), .int (vl9), .int (nI fa), .int (nI rs9), .int (cs), .int (nI dn)], ai E (r 0) 892 S2, ai E (r 4) 3 B, ai E (r 7) 12 F0]) := by
  refine CtV.of cX9_mendAt 3 RX9 rfl (by decide) rfl (Nat.le_of_ble_eq_true rfl) ?_
  intro Γ F hin0 hret
  show G Γ E 0 0 0 [(0, .ref q), (1, .int (nI v))] [] [ob 9 q [.ref (r 0), .ref (r 1), .ref (r 2), .int (nI rc), .ref (r 3), .int (nI tl), .ref (r 4), .ref (r 5), .ref (r 6), .ref (r 7), .ref (r 8), .ref (r 9), .ref (r 10), .ref (r 11), .ref (r 12), .int (nI at9), .int (lf9), .int (pl9), .int (vl9), .int (nI fa), .int (nI rs9), .int (cs), .int (nI dn)], ai E (r 0) 892 S, ai E (r 4) 3 B, ai E (r 7) 12 F0]
  refine g_iconst (v := nI 0) F dX9_mendAt_0 (by decide) ?_
  refine g_istore_n (lv2 := [(2, .int (nI 0)), (0, .ref q), (1, .int (nI v))]) F dX9_mendAt_1 rfl (by decide) rfl ?_
  have loop2 : ∀ (n : Nat) (k : Nat) (Sv : Nat → Nat), 4 - k < n → (k ≤ 4) → (Rel Sv (nS C (lyb (sN C) (B v) T v k))) → G Γ E 0 0 2 [(0, .ref q), (1, .int (nI v)), (2, .int (nI k))] [] [ob 9 q [.ref (r 0), .ref (r 1), .ref (r 2), .int (nI rc), .ref (r 3), .int (nI tl), .ref (r 4), .ref (r 5), .ref (r 6), .ref (r 7), .ref (r 8), .ref (r 9), .ref (r 10), .ref (r 11), .ref (r 12), .int (nI at9), .int (lf9), .int (pl9), .int (vl9), .int (nI fa), .int (nI rs9), .int (cs), .int (nI dn)], ai E (r 0) 892 Sv, ai E (r 4) 3 B, ai E (r 7) 12 F0] := by
    intro n
    induction n with
    | zero => intro k Sv hz; exact absurd hz (Nat.not_lt_zero _)
    | succ n ih2 =>
      intro k Sv hz2 hk hS
      refine g_iload_n F 2 dX9_mendAt_2 rfl rfl ?_
      refine g_iconst (v := nI 4) F dX9_mendAt_3 (by decide) ?_
      refine g_icmp_geN (tgt := 34) F dX9_mendAt_4 (by decide) (by omega) (by omega) (fun c4 => ?_) (fun c4 => ?_)
      · skip
        exact hret _ _ _ dX9_mendAt_34 ⟨Sv, (by have e9 : k = 4 := (by omega); rw [e9] at hS; exact hS), (by rfl)⟩
      · skip
        refine g_aload_n F 0 dX9_mendAt_7 rfl rfl ?_
        refine g_aload_n F 0 dX9_mendAt_8 rfl rfl ?_
        refine g_get F 0 6 dX9_mendAt_9 rfl rfl (by decide) (by decide +kernel) (by decide +kernel) rfl ?_
        refine g_iload_n F 1 dX9_mendAt_12 rfl rfl ?_
        refine g_iald F 2 dX9_mendAt_13 rfl (by omega) (by decide) ?_
        refine g_iload_n F 2 dX9_mendAt_14 rfl rfl ?_
        refine g_aload_n F 0 dX9_mendAt_15 rfl rfl ?_
        refine g_get F 0 9 dX9_mendAt_16 rfl rfl (by decide) (by decide +kernel) (by decide +kernel) rfl ?_
        refine g_iconst (v := nI 4) F dX9_mendAt_19 (by decide) ?_
        refine g_iload_n F 1 dX9_mendAt_20 rfl rfl ?_
        refine g_imulN F dX9_mendAt_21 ?_
        refine g_iload_n F 2 dX9_mendAt_22 rfl rfl ?_
        refine g_iaddN F dX9_mendAt_23 ?_
        refine g_iald F 3 dX9_mendAt_24 rfl (by omega) (by decide) ?_
        refine g_callVvW (n := 3) F [0, 1] (c_X9_setBoth l E q r rc tl at9 lf9 pl9 vl9 fa rs9 cs dn Sv (nS C (lyb (sN C) (B v) T v k)) (B v) k (F0 ((4 * v) + k)) (by exact hS) (by exact hb) (by omega)) dX9_mendAt_25 rfl (by decide) rfl rfl rfl (Nat.le_of_ble_eq_true rfl) ⟨Nat.le_of_ble_eq_true rfl, Nat.le_of_ble_eq_true rfl⟩ rfl rfl ⟨Nat.le_of_ble_eq_true rfl, Nat.le_of_ble_eq_true rfl⟩ 0 rfl rfl gX9_mendAt_X9_setBoth (by decide +kernel) (fun u hp => by obtain ⟨_, -, rfl⟩ := hp; rfl) ?_
        rintro u_25 ⟨S2_25, hR2_25, rfl⟩
        refine g_ws (w2 := [ob 9 q [.ref (r 0), .ref (r 1), .ref (r 2), .int (nI rc), .ref (r 3), .int (nI tl), .ref (r 4), .ref (r 5), .ref (r 6), .ref (r 7), .ref (r 8), .ref (r 9), .ref (r 10), .ref (r 11), .ref (r 12), .int (nI at9), .int (lf9), .int (pl9), .int (vl9), .int (nI fa), .int (nI rs9), .int (cs), .int (nI dn)], ai E (r 0) 892 S2_25, ai E (r 4) 3 B, ai E (r 7) 12 F0]) rfl ?_
        refine g_iinc (k := 2) (v := nI (k + 1)) (lv2 := [(2, .int (nI (k + 1))), (0, .ref q), (1, .int (nI v))]) F dX9_mendAt_28 rfl (nI_1 _) (by decide) rfl ?_
        refine g_goto (tgt := 2) F dX9_mendAt_31 (by decide) ?_
        refine g_lv [1, 2, 0] rfl ?_
        exact ih2 (k + 1) S2_25 (by omega) (by omega) (by have h : Rel S2_25 (nS C (pn (pn (lyb (sN C) (B v) T v k) 0 (B v) k (F0 (4 * v + k))) 1 (B v) k (F0 (4 * v + k)))) := hR2_25; rw [hF k (by omega), show T (v * 4 + k) = wn T v k from rfl, lyb_s (by omega)] at h; exact h)
  refine g_lv [1, 2, 0] rfl ?_
  exact loop2 ((4 - 0) + 1) 0 S (Nat.lt_succ_self _) (by omega) (by exact hR)
set_option maxHeartbeats 4000000 in
set_option maxRecDepth 100000 in
theorem c_X9_mendWay (l : Launch) (E : En) (q : Nat) (r : Nat → Nat) (rc : Nat) (tl : Nat) (at9 : Nat) (lf9 : Int32) (pl9 : Int32) (vl9 : Int32) (fa : Nat) (rs9 : Nat) (cs : Int32) (dn : Nat) (S : Nat → Nat) (C : CS) (B : Nat → Nat) (Q : Nat → Nat) (K : Nat → Int32) (F0 : Nat → Nat) (r1 : Nat) (l1 : Nat) (hR : Rel S C) (hI : IC C) (hr : r1 < sZ C) (hl : l1 < 16) : CtI l yX9_mendWay wsX9_mendWay ({ frames := 4, cells := 0, slots := 0, locals := 92 } : Room) E [.ref q, .int (nI r1), .int (nI l1)] [ob 9 q [.ref (r 0), .ref (r 1), .ref (r 2), .int (nI rc), .ref (r 3), .int (nI tl), .ref (r 4), .ref (r 5), .ref (r 6), .ref (r 7), .ref (r 8), .ref (r 9), .ref (r 10), .ref (r 11), .ref (r 12), .int (nI at9), .int (lf9), .int (pl9), .int (vl9), .int (nI fa), .int (nI rs9), .int (cs), .int (nI dn)], ai E (r 0) 892 S, ai E (r 4) 3 B, ai E (r 5) 3 Q, ax E (r 6) 3 K, ai E (r 7) 12 F0] (fun rr uu => ∃ (S2 : Nat → Nat), ∃ (B2 : Nat → Nat), ∃ (Q2 : Nat → Nat), ∃ (K2 : Nat → Int32), ∃ (F2 : Nat → Nat), (Rel S2 (nS C (mdX (sN C) (sb C) (ss C) r1 l1).2)) ∧ rr = (nI ((mdX (sN C) (sb C) (ss C) r1 l1).1)) ∧ uu = [ob 9 q [.ref (r 0), .ref (r 1), .ref (r 2), .int (nI rc), .ref (r 3), .int (nI tl), .ref (r 4), .ref (r 5), .ref (r 6), .ref (r 7), .ref (r 8), .ref (r 9), .ref (r 10), .ref (r 11), .ref (r 12), .int (nI at9), .int (lf9), .int (pl9), .int (vl9), .int (nI fa), .int (nI rs9), .int (cs), .int (nI dn)], ai E (r 0) 892 S2, ai E (r 4) 3 B2, ai E (r 5) 3 Q2, ax E (r 6) 3 K2, ai E (r 7) 12 F2]) := by
  refine CtI.of cX9_mendWay 5 RX9 .int rfl (by decide) rfl (Or.inl rfl) (Nat.le_of_ble_eq_true rfl) (fun h => by cases h) ?_
  intro Γ F hret
  show G Γ E 0 0 0 [(0, .ref q), (1, .int (nI r1)), (2, .int (nI l1))] [] [ob 9 q [.ref (r 0), .ref (r 1), .ref (r 2), .int (nI rc), .ref (r 3), .int (nI tl), .ref (r 4), .ref (r 5), .ref (r 6), .ref (r 7), .ref (r 8), .ref (r 9), .ref (r 10), .ref (r 11), .ref (r 12), .int (nI at9), .int (lf9), .int (pl9), .int (vl9), .int (nI fa), .int (nI rs9), .int (cs), .int (nI dn)], ai E (r 0) 892 S, ai E (r 4) 3 B, ai E (r 5) 3 Q, ax E (r 6) 3 K, ai E (r 7) 12 F0]
  refine g_aload_n F 0 dX9_mendWay_0 rfl rfl ?_
  refine g_iload_n F 1 dX9_mendWay_1 rfl rfl ?_
  refine g_iload_n F 2 dX9_mendWay_2 rfl rfl ?_
  refine g_callViW (n := 2) F [0, 1, 2, 3, 4] (c_X9_findWay l E q r rc tl at9 lf9 pl9 vl9 fa rs9 cs dn S C B Q K r1 l1 (by assumption) (by assumption) (by omega) (by omega)) dX9_mendWay_3 rfl (by decide) rfl rfl rfl (Nat.le_of_ble_eq_true rfl) ⟨Nat.le_of_ble_eq_true rfl, Nat.le_of_ble_eq_true rfl⟩ rfl rfl ⟨Nat.le_of_ble_eq_true rfl, Nat.le_of_ble_eq_true rfl⟩ 0 rfl rfl gX9_mendWay_X9_findWay (by decide +kernel) (fun r u hp => by obtain ⟨_, _, _, -, -, rfl⟩ := hp; rfl) ?_
  rintro r_3 u_3 ⟨B2_3, Q2_3, K2_3, hW_3, rfl, rfl⟩
  refine g_ws (w2 := [ob 9 q [.ref (r 0), .ref (r 1), .ref (r 2), .int (nI rc), .ref (r 3), .int (nI tl), .ref (r 4), .ref (r 5), .ref (r 6), .ref (r 7), .ref (r 8), .ref (r 9), .ref (r 10), .ref (r 11), .ref (r 12), .int (nI at9), .int (lf9), .int (pl9), .int (vl9), .int (nI fa), .int (nI rs9), .int (cs), .int (nI dn)], ai E (r 0) 892 S, ai E (r 4) 3 B2_3, ai E (r 5) 3 Q2_3, ax E (r 6) 3 K2_3, ai E (r 7) 12 F0]) rfl ?_
  have hz8 := hI.2.2.2.1
  refine g_pop F dX9_mendWay_6 rfl ?_
  refine g_iconst (v := nI 0) F dX9_mendWay_7 (by decide) ?_
  refine g_istore_n (lv2 := [(3, .int (nI 0)), (0, .ref q), (1, .int (nI r1)), (2, .int (nI l1))]) F dX9_mendWay_8 rfl (by decide) rfl ?_
  have loop9 : ∀ (n : Nat) (i : Nat) (Fv : Nat → Nat), 12 - i < n → (i ≤ 12) → (∀ j : Nat, j < i → j / 4 < glC C r1 l1 → Fv j = wtc (sN C) (sb C r1) (ss C r1) l1 j) → G Γ E 0 0 9 [(0, .ref q), (1, .int (nI r1)), (2, .int (nI l1)), (3, .int (nI i))] [] [ob 9 q [.ref (r 0), .ref (r 1), .ref (r 2), .int (nI rc), .ref (r 3), .int (nI tl), .ref (r 4), .ref (r 5), .ref (r 6), .ref (r 7), .ref (r 8), .ref (r 9), .ref (r 10), .ref (r 11), .ref (r 12), .int (nI at9), .int (lf9), .int (pl9), .int (vl9), .int (nI fa), .int (nI rs9), .int (cs), .int (nI dn)], ai E (r 0) 892 S, ai E (r 4) 3 B2_3, ai E (r 5) 3 Q2_3, ax E (r 6) 3 K2_3, ai E (r 7) 12 Fv] := by
    intro n
    induction n with
    | zero => intro i Fv hz; exact absurd hz (Nat.not_lt_zero _)
    | succ n ih9 =>
      intro i Fv hz9 hi hF
      refine g_iload_n F 3 dX9_mendWay_9 rfl rfl ?_
      refine g_bipush (v := nI 12) F dX9_mendWay_10 (by decide) ?_
      refine g_icmp_geN (tgt := 70) F dX9_mendWay_12 (by decide) (by omega) (by omega) (fun c12 => ?_) (fun c12 => ?_)
      · skip
        refine g_iconst (v := nI 0) F dX9_mendWay_70 (by decide) ?_
        refine g_istore_n (lv2 := [(3, .int (nI 0)), (0, .ref q), (1, .int (nI r1)), (2, .int (nI l1))]) F dX9_mendWay_71 rfl (by decide) rfl ?_
        refine g_iconst (v := nI 0) F dX9_mendWay_72 (by decide) ?_
        refine g_istore (lv2 := [(4, .int (nI 0)), (3, .int (nI 0)), (0, .ref q), (1, .int (nI r1)), (2, .int (nI l1))]) F dX9_mendWay_73 (by decide) rfl ?_
        have loop75 : ∀ (n : Nat) (v : Nat) (y : Nat) (Sv : Nat → Nat), 3 - v < n → (v ≤ 3) → (y = (mdC C r1 l1 (min v (glC C r1 l1))).1) → (Rel Sv (nS C (mdC C r1 l1 (min v (glC C r1 l1))).2)) → G Γ E 0 0 75 [(0, .ref q), (1, .int (nI r1)), (2, .int (nI l1)), (3, .int (nI y)), (4, .int (nI v))] [] [ob 9 q [.ref (r 0), .ref (r 1), .ref (r 2), .int (nI rc), .ref (r 3), .int (nI tl), .ref (r 4), .ref (r 5), .ref (r 6), .ref (r 7), .ref (r 8), .ref (r 9), .ref (r 10), .ref (r 11), .ref (r 12), .int (nI at9), .int (lf9), .int (pl9), .int (vl9), .int (nI fa), .int (nI rs9), .int (cs), .int (nI dn)], ai E (r 0) 892 Sv, ai E (r 4) 3 B2_3, ai E (r 5) 3 Q2_3, ax E (r 6) 3 K2_3, ai E (r 7) 12 Fv] := by
          intro n
          induction n with
          | zero => intro v y Sv hz; exact absurd hz (Nat.not_lt_zero _)
          | succ n ih75 =>
            intro v y Sv hz75 hv hy hS
            refine g_iload F 4 dX9_mendWay_75 rfl ?_
            refine g_iconst (v := nI 3) F dX9_mendWay_77 (by decide) ?_
            refine g_icmp_geN (tgt := 130) F dX9_mendWay_78 (by decide) (by omega) (by omega) (fun c78 => ?_) (fun c78 => ?_)
            · skip
              refine g_iload_n F 3 dX9_mendWay_130 rfl rfl ?_
              exact hret _ _ _ _ dX9_mendWay_131 ⟨Sv, B2_3, Q2_3, K2_3, Fv, (by rw [mdC_X, ← show min v (glC C r1 l1) = glC C r1 l1 by have := gl_le (sN C) (sb C r1) (ss C r1) l1; have h7 : glC C r1 l1 ≤ 3 := this; omega]; exact hS), (congrArg nI (by rw [mdC_X, ← show min v (glC C r1 l1) = glC C r1 l1 by have := gl_le (sN C) (sb C r1) (ss C r1) l1; have h7 : glC C r1 l1 ≤ 3 := this; omega]; exact hy)), (by rfl)⟩
            · skip
              refine g_aload_n F 0 dX9_mendWay_81 rfl rfl ?_
              refine g_get F 0 8 dX9_mendWay_82 rfl rfl (by decide) (by decide +kernel) (by decide +kernel) rfl ?_
              refine g_iload F 4 dX9_mendWay_85 rfl ?_
              refine g_xald F 4 dX9_mendWay_87 rfl (by omega) (by decide) ?_
              refine g_iconst (v := nI 0) F dX9_mendWay_88 (by decide) ?_
              refine g_iconst (v := nI 1) F dX9_mendWay_89 (by decide) ?_
              refine g_callSiR (n := 3) F [] (c_X9_within_x l E (K2_3 v) 1 (by omega)) dX9_mendWay_90 rfl (by decide) rfl rfl rfl (Nat.le_of_ble_eq_true rfl) ⟨Nat.le_of_ble_eq_true rfl, Nat.le_of_ble_eq_true rfl⟩ rfl rfl ⟨Nat.le_of_ble_eq_true rfl, Nat.le_of_ble_eq_true rfl⟩ ggX9_mendWay_X9_within (by decide +kernel) (by decide +kernel) (by decide +kernel) (by decide +kernel) (fun r u hp => by obtain ⟨-, h⟩ := hp; exact h) ?_
              rintro r_90 u_90 ⟨rfl, -⟩
              have htl := hW_3.told (v := v) (by omega) (by omega)
              refine g_if_eqB (tgt := 124) F dX9_mendWay_93 (by decide) (fun c93 => ?_) (fun c93 => ?_)
              · skip
                have hnt : ¬ v + 1 ≤ glC C r1 l1 := fun h => c93 (htl.mpr h)
                refine g_iinc (k := 4) (v := nI (v + 1)) (lv2 := [(4, .int (nI (v + 1))), (0, .ref q), (1, .int (nI r1)), (2, .int (nI l1)), (3, .int (nI y))]) F dX9_mendWay_124 rfl (nI_1 _) (by decide) rfl ?_
                refine g_goto (tgt := 75) F dX9_mendWay_127 (by decide) ?_
                refine g_lv [1, 2, 3, 4, 0] rfl ?_
                exact ih75 (v + 1) y Sv (by omega) (by omega) (by rw [hy, show min (v + 1) (glC C r1 l1) = min v (glC C r1 l1) by omega]) (by rw [show min (v + 1) (glC C r1 l1) = min v (glC C r1 l1) by omega]; exact hS)
              · skip
                have hg : v < glC C r1 l1 := by
                  have := htl.mp c93; omega
                have hgd := hW_3.good (v := v) (by omega) (by omega) hg
                have hmn : min v (glC C r1 l1) = v := by omega
                have hmn2 : min (v + 1) (glC C r1 l1) = v + 1 := by omega
                refine g_iload_n F 3 dX9_mendWay_96 rfl rfl ?_
                refine g_aload_n F 0 dX9_mendWay_97 rfl rfl ?_
                refine g_aload_n F 0 dX9_mendWay_98 rfl rfl ?_
                refine g_get F 0 6 dX9_mendWay_99 rfl rfl (by decide) (by decide +kernel) (by decide +kernel) rfl ?_
                refine g_iload F 4 dX9_mendWay_102 rfl ?_
                refine g_iald F 2 dX9_mendWay_104 rfl (by omega) (by decide) ?_
                refine g_top (nI (B2_3 v)) (nI (wBC C r1 l1 v)) (by rw [hgd.2.1]) ?_
                refine g_callViR (n := 1) F [0, 1] (c_X9_areUnlike l E q r rc tl at9 lf9 pl9 vl9 fa rs9 cs dn Sv (nS C (mdC C r1 l1 (min v (glC C r1 l1))).2) (wBC C r1 l1 v) (by exact hS) (by exact IC_nS hI (mdC_BN hI _ _ _)) (by exact hgd.2.2.2.2)) dX9_mendWay_105 rfl (by decide) rfl rfl rfl (Nat.le_of_ble_eq_true rfl) ⟨Nat.le_of_ble_eq_true rfl, Nat.le_of_ble_eq_true rfl⟩ rfl rfl ⟨Nat.le_of_ble_eq_true rfl, Nat.le_of_ble_eq_true rfl⟩ 0 rfl rfl gX9_mendWay_X9_areUnlike (by decide +kernel) (fun r u hp => by obtain ⟨-, h⟩ := hp; exact h) ?_
                rintro r_105 u_105 ⟨rfl, -⟩
                refine g_top (bi (¬ al (sN (nS C (mdC C r1 l1 (min v (glC C r1 l1))).2)) (wBC C r1 l1 v))) (bi (¬ al (mdC C r1 l1 v).2 (wBC C r1 l1 v))) (by rw [hmn]; rfl) ?_
                refine g_if_eqB (tgt := 115) F dX9_mendWay_108 (by decide) (fun c108 => ?_) (fun c108 => ?_)
                · skip
                  refine g_iconst (v := nI 0) F dX9_mendWay_115 (by decide) ?_
                  refine g_iaddN F dX9_mendWay_116 ?_
                  refine g_istore_n (lv2 := [(3, .int (nI (y + 0))), (0, .ref q), (1, .int (nI r1)), (2, .int (nI l1)), (4, .int (nI v))]) F dX9_mendWay_117 rfl (by decide) rfl ?_
                  refine g_aload_n F 1 dX9_mendWay_118 rfl rfl ?_
                  refine g_iload F 4 dX9_mendWay_119 rfl ?_
                  refine g_callVvW (n := 1) F [0, 1, 2, 5] (c_X9_mendAt l E q r rc tl at9 lf9 pl9 vl9 fa rs9 cs dn Sv (nS C (mdC C r1 l1 (min v (glC C r1 l1))).2) B2_3 Fv (wtc (sN C) (sb C r1) (ss C r1) l1) v (by exact hS) (by omega) (by rw [hgd.2.1]; exact hgd.2.2.2.2) (by intro k hk; rw [hF (4 * v + k) (by omega) (by omega), show 4 * v + k = v * 4 + k by omega])) dX9_mendWay_121 rfl (by decide) rfl rfl rfl (Nat.le_of_ble_eq_true rfl) ⟨Nat.le_of_ble_eq_true rfl, Nat.le_of_ble_eq_true rfl⟩ rfl rfl ⟨Nat.le_of_ble_eq_true rfl, Nat.le_of_ble_eq_true rfl⟩ 0 rfl rfl gX9_mendWay_X9_mendAt (by decide +kernel) (fun u hp => by obtain ⟨_, -, rfl⟩ := hp; rfl) ?_
                  rintro u_121 ⟨S2_121, hR2_121, rfl⟩
                  refine g_ws (w2 := [ob 9 q [.ref (r 0), .ref (r 1), .ref (r 2), .int (nI rc), .ref (r 3), .int (nI tl), .ref (r 4), .ref (r 5), .ref (r 6), .ref (r 7), .ref (r 8), .ref (r 9), .ref (r 10), .ref (r 11), .ref (r 12), .int (nI at9), .int (lf9), .int (pl9), .int (vl9), .int (nI fa), .int (nI rs9), .int (cs), .int (nI dn)], ai E (r 0) 892 S2_121, ai E (r 4) 3 B2_3, ai E (r 5) 3 Q2_3, ax E (r 6) 3 K2_3, ai E (r 7) 12 Fv]) rfl ?_
                  skip
                  refine g_iinc (k := 4) (v := nI (v + 1)) (lv2 := [(4, .int (nI (v + 1))), (3, .int (nI (y + 0))), (0, .ref q), (1, .int (nI r1)), (2, .int (nI l1))]) F dX9_mendWay_124 rfl (nI_1 _) (by decide) rfl ?_
                  refine g_goto (tgt := 75) F dX9_mendWay_127 (by decide) ?_
                  refine g_lv [2, 3, 4, 1, 0] rfl ?_
                  exact ih75 (v + 1) (y + 0) S2_121 (by omega) (by omega) (by rw [hy, hmn, hmn2, mdC_a (Classical.not_not.mp c108), Nat.add_zero]) (by have h : Rel S2_121 (nS C (ly2 (mdC C r1 l1 (min v (glC C r1 l1))).2 (B2_3 v) (wtc (sN C) (sb C r1) (ss C r1) l1) v)) := hR2_121; rw [hgd.2.1, hmn] at h; rw [hmn2, mdC_2]; exact h)
                · skip
                  refine g_iconst (v := nI 1) F dX9_mendWay_111 (by decide) ?_
                  refine g_goto (tgt := 116) F dX9_mendWay_112 (by decide) ?_
                  refine g_iaddN F dX9_mendWay_116 ?_
                  refine g_istore_n (lv2 := [(3, .int (nI (y + 1))), (0, .ref q), (1, .int (nI r1)), (2, .int (nI l1)), (4, .int (nI v))]) F dX9_mendWay_117 rfl (by decide) rfl ?_
                  refine g_aload_n F 1 dX9_mendWay_118 rfl rfl ?_
                  refine g_iload F 4 dX9_mendWay_119 rfl ?_
                  refine g_callVvW (n := 1) F [0, 1, 2, 5] (c_X9_mendAt l E q r rc tl at9 lf9 pl9 vl9 fa rs9 cs dn Sv (nS C (mdC C r1 l1 (min v (glC C r1 l1))).2) B2_3 Fv (wtc (sN C) (sb C r1) (ss C r1) l1) v (by exact hS) (by omega) (by rw [hgd.2.1]; exact hgd.2.2.2.2) (by intro k hk; rw [hF (4 * v + k) (by omega) (by omega), show 4 * v + k = v * 4 + k by omega])) dX9_mendWay_121 rfl (by decide) rfl rfl rfl (Nat.le_of_ble_eq_true rfl) ⟨Nat.le_of_ble_eq_true rfl, Nat.le_of_ble_eq_true rfl⟩ rfl rfl ⟨Nat.le_of_ble_eq_true rfl, Nat.le_of_ble_eq_true rfl⟩ 0 rfl rfl gX9_mendWay_X9_mendAt (by decide +kernel) (fun u hp => by obtain ⟨_, -, rfl⟩ := hp; rfl) ?_
                  rintro u_121 ⟨S2_121, hR2_121, rfl⟩
                  refine g_ws (w2 := [ob 9 q [.ref (r 0), .ref (r 1), .ref (r 2), .int (nI rc), .ref (r 3), .int (nI tl), .ref (r 4), .ref (r 5), .ref (r 6), .ref (r 7), .ref (r 8), .ref (r 9), .ref (r 10), .ref (r 11), .ref (r 12), .int (nI at9), .int (lf9), .int (pl9), .int (vl9), .int (nI fa), .int (nI rs9), .int (cs), .int (nI dn)], ai E (r 0) 892 S2_121, ai E (r 4) 3 B2_3, ai E (r 5) 3 Q2_3, ax E (r 6) 3 K2_3, ai E (r 7) 12 Fv]) rfl ?_
                  skip
                  refine g_iinc (k := 4) (v := nI (v + 1)) (lv2 := [(4, .int (nI (v + 1))), (3, .int (nI (y + 1))), (0, .ref q), (1, .int (nI r1)), (2, .int (nI l1))]) F dX9_mendWay_124 rfl (nI_1 _) (by decide) rfl ?_
                  refine g_goto (tgt := 75) F dX9_mendWay_127 (by decide) ?_
                  refine g_lv [2, 3, 4, 1, 0] rfl ?_
                  exact ih75 (v + 1) (y + 1) S2_121 (by omega) (by omega) (by rw [hy, hmn, hmn2, mdC_b c108]) (by have h : Rel S2_121 (nS C (ly2 (mdC C r1 l1 (min v (glC C r1 l1))).2 (B2_3 v) (wtc (sN C) (sb C r1) (ss C r1) l1) v)) := hR2_121; rw [hgd.2.1, hmn] at h; rw [hmn2, mdC_2]; exact h)
        refine g_lv [2, 3, 4, 1, 0] rfl ?_
        exact loop75 ((3 - 0) + 1) 0 0 S (Nat.lt_succ_self _) (by omega) (by rw [Nat.zero_min]; rfl) (by rw [Nat.zero_min]; exact hR)
      · skip
        refine g_aload_n F 0 dX9_mendWay_15 rfl rfl ?_
        refine g_get F 0 9 dX9_mendWay_16 rfl rfl (by decide) (by decide +kernel) (by decide +kernel) rfl ?_
        refine g_iload_n F 3 dX9_mendWay_19 rfl rfl ?_
        refine g_aload_n F 0 dX9_mendWay_20 rfl rfl ?_
        refine g_get F 0 8 dX9_mendWay_21 rfl rfl (by decide) (by decide +kernel) (by decide +kernel) rfl ?_
        refine g_iload_n F 3 dX9_mendWay_24 rfl rfl ?_
        refine g_iconst (v := nI 4) F dX9_mendWay_25 (by decide) ?_
        refine g_idivN F dX9_mendWay_26 (by omega) (by decide) (by decide) ?_
        refine g_xald F 4 dX9_mendWay_27 rfl (by omega) (by decide) ?_
        refine g_iconst (v := nI 0) F dX9_mendWay_28 (by decide) ?_
        refine g_iconst (v := nI 1) F dX9_mendWay_29 (by decide) ?_
        refine g_callSiR (n := 3) F [] (c_X9_within_x l E (K2_3 (i / 4)) 1 (by omega)) dX9_mendWay_30 rfl (by decide) rfl rfl rfl (Nat.le_of_ble_eq_true rfl) ⟨Nat.le_of_ble_eq_true rfl, Nat.le_of_ble_eq_true rfl⟩ rfl rfl ⟨Nat.le_of_ble_eq_true rfl, Nat.le_of_ble_eq_true rfl⟩ ggX9_mendWay_X9_within (by decide +kernel) (by decide +kernel) (by decide +kernel) (by decide +kernel) (fun r u hp => by obtain ⟨-, h⟩ := hp; exact h) ?_
        rintro r_30 u_30 ⟨rfl, -⟩
        have htl := hW_3.told (v := i / 4) (by omega) (by omega)
        refine g_if_eqB (tgt := 62) F dX9_mendWay_33 (by decide) (fun c33 => ?_) (fun c33 => ?_)
        · skip
          refine g_iconst (v := nI 0) F dX9_mendWay_62 (by decide) ?_
          refine g_iast F 5 dX9_mendWay_63 rfl (by omega) (by decide) (w2 := [ob 9 q [.ref (r 0), .ref (r 1), .ref (r 2), .int (nI rc), .ref (r 3), .int (nI tl), .ref (r 4), .ref (r 5), .ref (r 6), .ref (r 7), .ref (r 8), .ref (r 9), .ref (r 10), .ref (r 11), .ref (r 12), .int (nI at9), .int (lf9), .int (pl9), .int (vl9), .int (nI fa), .int (nI rs9), .int (cs), .int (nI dn)], ai E (r 0) 892 S, ai E (r 4) 3 B2_3, ai E (r 5) 3 Q2_3, ax E (r 6) 3 K2_3, ai E (r 7) 12 (up Fv i 0)]) rfl ?_
          refine g_iinc (k := 3) (v := nI (i + 1)) (lv2 := [(3, .int (nI (i + 1))), (0, .ref q), (1, .int (nI r1)), (2, .int (nI l1))]) F dX9_mendWay_64 rfl (nI_1 _) (by decide) rfl ?_
          refine g_goto (tgt := 9) F dX9_mendWay_67 (by decide) ?_
          refine g_lv [1, 2, 3, 0] rfl ?_
          exact ih9 (i + 1) (up Fv i 0) (by omega) (by omega) (by intro j hj hg; by_cases z : j = i; (exact absurd (htl.mpr (by rw [← z]; omega)) c33); (rw [up_n _ _ z]; exact hF j (by omega) hg))
        · skip
          refine g_aload_n F 0 dX9_mendWay_36 rfl rfl ?_
          refine g_aload_n F 0 dX9_mendWay_37 rfl rfl ?_
          refine g_get F 0 8 dX9_mendWay_38 rfl rfl (by decide) (by decide +kernel) (by decide +kernel) rfl ?_
          refine g_iload_n F 3 dX9_mendWay_41 rfl rfl ?_
          refine g_iconst (v := nI 4) F dX9_mendWay_42 (by decide) ?_
          refine g_idivN F dX9_mendWay_43 (by omega) (by decide) (by decide) ?_
          refine g_xald F 4 dX9_mendWay_44 rfl (by omega) (by decide) ?_
          have hgd := hW_3.good (v := i / 4) (by omega) (by omega) (by have := htl.mp c33; omega)
          refine g_top (K2_3 (i / 4)) (nI (wDC C r1 l1 (i / 4))) (by rw [hgd.1]) ?_
          refine g_aload_n F 0 dX9_mendWay_45 rfl rfl ?_
          refine g_get F 0 6 dX9_mendWay_46 rfl rfl (by decide) (by decide +kernel) (by decide +kernel) rfl ?_
          refine g_iload_n F 3 dX9_mendWay_49 rfl rfl ?_
          refine g_iconst (v := nI 4) F dX9_mendWay_50 (by decide) ?_
          refine g_idivN F dX9_mendWay_51 (by omega) (by decide) (by decide) ?_
          refine g_iald F 2 dX9_mendWay_52 rfl (by omega) (by decide) ?_
          refine g_top (nI (B2_3 (i / 4))) (nI (wBC C r1 l1 (i / 4))) (by rw [hgd.2.1]) ?_
          refine g_iload_n F 3 dX9_mendWay_53 rfl rfl ?_
          refine g_iconst (v := nI 4) F dX9_mendWay_54 (by decide) ?_
          refine g_iremN F dX9_mendWay_55 (by omega) (by decide) (by decide) ?_
          refine g_callViR (n := 3) F [0, 1] (c_X9_contentOf l E q r rc tl at9 lf9 pl9 vl9 fa rs9 cs dn S C (wDC C r1 l1 (i / 4)) (wBC C r1 l1 (i / 4)) (i % 4) (by exact hR) (by exact hgd.2.2.2.1) (by exact hgd.2.2.2.2) (by omega)) dX9_mendWay_56 rfl (by decide) rfl rfl rfl (Nat.le_of_ble_eq_true rfl) ⟨Nat.le_of_ble_eq_true rfl, Nat.le_of_ble_eq_true rfl⟩ rfl rfl ⟨Nat.le_of_ble_eq_true rfl, Nat.le_of_ble_eq_true rfl⟩ 0 rfl rfl gX9_mendWay_X9_contentOf (by decide +kernel) (fun r u hp => by obtain ⟨-, h⟩ := hp; exact h) ?_
          rintro r_56 u_56 ⟨rfl, -⟩
          refine g_goto (tgt := 63) F dX9_mendWay_59 (by decide) ?_
          refine g_iast F 5 dX9_mendWay_63 rfl (by omega) (by decide) (w2 := [ob 9 q [.ref (r 0), .ref (r 1), .ref (r 2), .int (nI rc), .ref (r 3), .int (nI tl), .ref (r 4), .ref (r 5), .ref (r 6), .ref (r 7), .ref (r 8), .ref (r 9), .ref (r 10), .ref (r 11), .ref (r 12), .int (nI at9), .int (lf9), .int (pl9), .int (vl9), .int (nI fa), .int (nI rs9), .int (cs), .int (nI dn)], ai E (r 0) 892 S, ai E (r 4) 3 B2_3, ai E (r 5) 3 Q2_3, ax E (r 6) 3 K2_3, ai E (r 7) 12 (up Fv i (nu (sN C) (wDC C r1 l1 (i / 4)) (wBC C r1 l1 (i / 4)) (i % 4)))]) rfl ?_
          refine g_iinc (k := 3) (v := nI (i + 1)) (lv2 := [(3, .int (nI (i + 1))), (0, .ref q), (1, .int (nI r1)), (2, .int (nI l1))]) F dX9_mendWay_64 rfl (nI_1 _) (by decide) rfl ?_
          refine g_goto (tgt := 9) F dX9_mendWay_67 (by decide) ?_
          refine g_lv [1, 2, 3, 0] rfl ?_
          exact ih9 (i + 1) (up Fv i (nu (sN C) (wDC C r1 l1 (i / 4)) (wBC C r1 l1 (i / 4)) (i % 4))) (by omega) (by omega) (by intro j hj hg; by_cases z : j = i; (rw [z, up_s]; rfl); (rw [up_n _ _ z]; exact hF j (by omega) hg))
  refine g_lv [1, 2, 3, 0] rfl ?_
  exact loop9 ((12 - 0) + 1) 0 F0 (Nat.lt_succ_self _) (by omega) (by intro j hj; omega)
set_option maxHeartbeats 4000000 in
set_option maxRecDepth 100000 in
theorem c_X9_lays (l : Launch) (E : En) (q : Nat) (r : Nat → Nat) (rc : Nat) (tl : Nat) (at9 : Nat) (lf9 : Int32) (pl9 : Int32) (vl9 : Int32) (fa : Nat) (rs9 : Nat) (cs : Int32) (dn : Nat) (S : Nat → Nat) (C : CS) (qa : Nat) (X : Nat → Nat) (T : Nat → Nat) (v : Nat) (b : Nat) (hR : Rel S C) (hb : b < 96) (hX : ∀ k : Nat, k < 4 → X k = T (v * 4 + k)) : CtV l yX9_lays wsX9_lays ({ frames := 2, cells := 0, slots := 0, locals := 47 } : Room) E [.ref q, .int (nI b), .ref qa] [ob 9 q [.ref (r 0), .ref (r 1), .ref (r 2), .int (nI rc), .ref (r 3), .int (nI tl), .ref (r 4), .ref (r 5), .ref (r 6), .ref (r 7), .ref (r 8), .ref (r 9), .ref (r 10), .ref (r 11), .ref (r 12), .int (nI at9), .int (lf9), .int (pl9), .int (vl9), .int (nI fa), .int (nI rs9), .int (cs), .int (nI dn)], ai E (r 0) 892 S, ai E qa 4 X] (fun uu => ∃ (S2 : Nat → Nat), (Rel S2 (nS C (lyb (sN C) b T v 4))) ∧ uu = [ob 9 q [.ref (r 0), .ref (r 1), .ref (r 2), .int (nI rc), .ref (r 3), .int (nI tl), .ref (r 4), .ref (r 5), .ref (r 6), .ref (r 7), .ref (r 8), .ref (r 9), .ref (r 10), .ref (r 11), .ref (r 12), .int (nI at9), .int (lf9), .int (pl9), .int (vl9), .int (nI fa), .int (nI rs9), .int (cs), .int (nI dn)], ai E (r 0) 892 S2, ai E qa 4 X]) := by
  refine CtV.of cX9_lays 4 RX9 rfl (by decide) rfl (Nat.le_of_ble_eq_true rfl) ?_
  intro Γ F hin0 hret
  show G Γ E 0 0 0 [(0, .ref q), (1, .int (nI b)), (2, .ref qa)] [] [ob 9 q [.ref (r 0), .ref (r 1), .ref (r 2), .int (nI rc), .ref (r 3), .int (nI tl), .ref (r 4), .ref (r 5), .ref (r 6), .ref (r 7), .ref (r 8), .ref (r 9), .ref (r 10), .ref (r 11), .ref (r 12), .int (nI at9), .int (lf9), .int (pl9), .int (vl9), .int (nI fa), .int (nI rs9), .int (cs), .int (nI dn)], ai E (r 0) 892 S, ai E qa 4 X]
  refine g_iconst (v := nI 0) F dX9_lays_0 (by decide) ?_
  refine g_istore_n (lv2 := [(3, .int (nI 0)), (0, .ref q), (1, .int (nI b)), (2, .ref qa)]) F dX9_lays_1 rfl (by decide) rfl ?_
  have loop2 : ∀ (n : Nat) (k : Nat) (Sv : Nat → Nat), 4 - k < n → (k ≤ 4) → (Rel Sv (nS C (lyb (sN C) b T v k))) → G Γ E 0 0 2 [(0, .ref q), (1, .int (nI b)), (2, .ref qa), (3, .int (nI k))] [] [ob 9 q [.ref (r 0), .ref (r 1), .ref (r 2), .int (nI rc), .ref (r 3), .int (nI tl), .ref (r 4), .ref (r 5), .ref (r 6), .ref (r 7), .ref (r 8), .ref (r 9), .ref (r 10), .ref (r 11), .ref (r 12), .int (nI at9), .int (lf9), .int (pl9), .int (vl9), .int (nI fa), .int (nI rs9), .int (cs), .int (nI dn)], ai E (r 0) 892 Sv, ai E qa 4 X] := by
    intro n
    induction n with
    | zero => intro k Sv hz; exact absurd hz (Nat.not_lt_zero _)
    | succ n ih2 =>
      intro k Sv hz2 hk hS
      refine g_iload_n F 3 dX9_lays_2 rfl rfl ?_
      refine g_iconst (v := nI 4) F dX9_lays_3 (by decide) ?_
      refine g_icmp_geN (tgt := 22) F dX9_lays_4 (by decide) (by omega) (by omega) (fun c4 => ?_) (fun c4 => ?_)
      · skip
        exact hret _ _ _ dX9_lays_22 ⟨Sv, (by have e9 : k = 4 := (by omega); rw [e9] at hS; exact hS), (by rfl)⟩
      · skip
        refine g_aload_n F 0 dX9_lays_7 rfl rfl ?_
        refine g_iload_n F 1 dX9_lays_8 rfl rfl ?_
        refine g_iload_n F 3 dX9_lays_9 rfl rfl ?_
        refine g_aload_n F 2 dX9_lays_10 rfl rfl ?_
        refine g_iload_n F 3 dX9_lays_11 rfl rfl ?_
        refine g_iald F 2 dX9_lays_12 rfl (by omega) (by decide) ?_
        refine g_callVvW (n := 3) F [0, 1] (c_X9_setBoth l E q r rc tl at9 lf9 pl9 vl9 fa rs9 cs dn Sv (nS C (lyb (sN C) b T v k)) b k (X k) (by exact hS) (by exact hb) (by omega)) dX9_lays_13 rfl (by decide) rfl rfl rfl (Nat.le_of_ble_eq_true rfl) ⟨Nat.le_of_ble_eq_true rfl, Nat.le_of_ble_eq_true rfl⟩ rfl rfl ⟨Nat.le_of_ble_eq_true rfl, Nat.le_of_ble_eq_true rfl⟩ 0 rfl rfl gX9_lays_X9_setBoth (by decide +kernel) (fun u hp => by obtain ⟨_, -, rfl⟩ := hp; rfl) ?_
        rintro u_13 ⟨S2_13, hR2_13, rfl⟩
        refine g_ws (w2 := [ob 9 q [.ref (r 0), .ref (r 1), .ref (r 2), .int (nI rc), .ref (r 3), .int (nI tl), .ref (r 4), .ref (r 5), .ref (r 6), .ref (r 7), .ref (r 8), .ref (r 9), .ref (r 10), .ref (r 11), .ref (r 12), .int (nI at9), .int (lf9), .int (pl9), .int (vl9), .int (nI fa), .int (nI rs9), .int (cs), .int (nI dn)], ai E (r 0) 892 S2_13, ai E qa 4 X]) rfl ?_
        refine g_iinc (k := 3) (v := nI (k + 1)) (lv2 := [(3, .int (nI (k + 1))), (0, .ref q), (1, .int (nI b)), (2, .ref qa)]) F dX9_lays_16 rfl (nI_1 _) (by decide) rfl ?_
        refine g_goto (tgt := 2) F dX9_lays_19 (by decide) ?_
        refine g_lv [1, 2, 3, 0] rfl ?_
        exact ih2 (k + 1) S2_13 (by omega) (by omega) (by have h : Rel S2_13 (nS C (pn (pn (lyb (sN C) b T v k) 0 b k (X k)) 1 b k (X k))) := hR2_13; rw [hX k (by omega), show T (v * 4 + k) = wn T v k from rfl, lyb_s (by omega)] at h; exact h)
  refine g_lv [1, 2, 3, 0] rfl ?_
  exact loop2 ((4 - 0) + 1) 0 S (Nat.lt_succ_self _) (by omega) (by exact hR)
set_option maxHeartbeats 4000000 in
set_option maxRecDepth 100000 in
theorem c_X9_sumIn (l : Launch) (E : En) (qa : Nat) (X : Nat → Nat) (hX : ∀ k : Nat, k < 4 → X k < 65536) : CtI l yX9_sumIn wsX9_sumIn ({ frames := 1, cells := 0, slots := 0, locals := 23 } : Room) E [.ref qa] [ai E qa 4 X] (fun rr uu => rr = (nI (sm X 0)) ∧ uu = [ai E qa 4 X]) := by
  refine CtI.of cX9_sumIn 1 RX9 .int rfl (by decide) rfl (Or.inl rfl) (Nat.le_of_ble_eq_true rfl) (fun h => by cases h) ?_
  intro Γ F hret
  show G Γ E 0 0 0 [(0, .ref qa)] [] [ai E qa 4 X]
  refine g_aload_n F 0 dX9_sumIn_0 rfl rfl ?_
  refine g_iconst (v := nI 0) F dX9_sumIn_1 (by decide) ?_
  refine g_iald F 0 dX9_sumIn_2 rfl (by omega) (by decide) ?_
  refine g_aload_n F 0 dX9_sumIn_3 rfl rfl ?_
  refine g_iconst (v := nI 1) F dX9_sumIn_4 (by decide) ?_
  refine g_iald F 0 dX9_sumIn_5 rfl (by omega) (by decide) ?_
  refine g_aload_n F 0 dX9_sumIn_6 rfl rfl ?_
  refine g_iconst (v := nI 2) F dX9_sumIn_7 (by decide) ?_
  refine g_iald F 0 dX9_sumIn_8 rfl (by omega) (by decide) ?_
  refine g_aload_n F 0 dX9_sumIn_9 rfl rfl ?_
  refine g_iconst (v := nI 3) F dX9_sumIn_10 (by decide) ?_
  refine g_iald F 0 dX9_sumIn_11 rfl (by omega) (by decide) ?_
  refine g_callSiR (n := 4) F [] (c_X9_sumFrom l E (X 0) (X 1) (X 2) (X 3) (by exact hX _ (by decide)) (by exact hX _ (by decide)) (by exact hX _ (by decide)) (by exact hX _ (by decide))) dX9_sumIn_12 rfl (by decide) rfl rfl rfl (Nat.le_of_ble_eq_true rfl) ⟨Nat.le_of_ble_eq_true rfl, Nat.le_of_ble_eq_true rfl⟩ rfl rfl ⟨Nat.le_of_ble_eq_true rfl, Nat.le_of_ble_eq_true rfl⟩ ggX9_sumIn_X9_sumFrom (by decide +kernel) (by decide +kernel) (by decide +kernel) (by decide +kernel) (fun r u hp => by obtain ⟨-, h⟩ := hp; exact h) ?_
  rintro r_12 u_12 ⟨rfl, -⟩
  exact hret _ _ _ _ dX9_sumIn_15 ⟨(congrArg nI (by rfl)), rfl⟩
set_option maxHeartbeats 4000000 in
set_option maxRecDepth 100000 in
theorem c_X9_remembers (l : Launch) (E : En) (q : Nat) (r : Nat → Nat) (rc : Nat) (tl : Nat) (at9 : Nat) (lf9 : Int32) (pl9 : Int32) (vl9 : Int32) (fa : Nat) (rs9 : Nat) (cs : Int32) (dn : Nat) (S : Nat → Nat) (C : CS) (Mo : Nat → Nat) (b : Nat) (hR : Rel S C) (hb : b < 96) : CtV l yX9_remembers wsX9_remembers ({ frames := 1, cells := 0, slots := 0, locals := 23 } : Room) E [.ref q, .int (nI b)] [ob 9 q [.ref (r 0), .ref (r 1), .ref (r 2), .int (nI rc), .ref (r 3), .int (nI tl), .ref (r 4), .ref (r 5), .ref (r 6), .ref (r 7), .ref (r 8), .ref (r 9), .ref (r 10), .ref (r 11), .ref (r 12), .int (nI at9), .int (lf9), .int (pl9), .int (vl9), .int (nI fa), .int (nI rs9), .int (cs), .int (nI dn)], ai E (r 0) 892 S, ai E (r 11) 4 Mo] (fun uu => ∃ (M2 : Nat → Nat), (∀ k : Nat, k < 4 → M2 k = nu (sN C) 0 b k) ∧ uu = [ob 9 q [.ref (r 0), .ref (r 1), .ref (r 2), .int (nI rc), .ref (r 3), .int (nI tl), .ref (r 4), .ref (r 5), .ref (r 6), .ref (r 7), .ref (r 8), .ref (r 9), .ref (r 10), .ref (r 11), .ref (r 12), .int (nI at9), .int (lf9), .int (pl9), .int (vl9), .int (nI fa), .int (nI rs9), .int (cs), .int (nI dn)], ai E (r 0) 892 S, ai E (r 11) 4 M2]) := by
  refine CtV.of cX9_remembers 3 RX9 rfl (by decide) rfl (Nat.le_of_ble_eq_true rfl) ?_
  intro Γ F hin0 hret
  show G Γ E 0 0 0 [(0, .ref q), (1, .int (nI b))] [] [ob 9 q [.ref (r 0), .ref (r 1), .ref (r 2), .int (nI rc), .ref (r 3), .int (nI tl), .ref (r 4), .ref (r 5), .ref (r 6), .ref (r 7), .ref (r 8), .ref (r 9), .ref (r 10), .ref (r 11), .ref (r 12), .int (nI at9), .int (lf9), .int (pl9), .int (vl9), .int (nI fa), .int (nI rs9), .int (cs), .int (nI dn)], ai E (r 0) 892 S, ai E (r 11) 4 Mo]
  refine g_iconst (v := nI 0) F dX9_remembers_0 (by decide) ?_
  refine g_istore_n (lv2 := [(2, .int (nI 0)), (0, .ref q), (1, .int (nI b))]) F dX9_remembers_1 rfl (by decide) rfl ?_
  have loop2 : ∀ (n : Nat) (k : Nat) (Mv : Nat → Nat), 4 - k < n → (k ≤ 4) → (∀ j : Nat, j < k → Mv j = nu (sN C) 0 b j) → G Γ E 0 0 2 [(0, .ref q), (1, .int (nI b)), (2, .int (nI k))] [] [ob 9 q [.ref (r 0), .ref (r 1), .ref (r 2), .int (nI rc), .ref (r 3), .int (nI tl), .ref (r 4), .ref (r 5), .ref (r 6), .ref (r 7), .ref (r 8), .ref (r 9), .ref (r 10), .ref (r 11), .ref (r 12), .int (nI at9), .int (lf9), .int (pl9), .int (vl9), .int (nI fa), .int (nI rs9), .int (cs), .int (nI dn)], ai E (r 0) 892 S, ai E (r 11) 4 Mv] := by
    intro n
    induction n with
    | zero => intro k Mv hz; exact absurd hz (Nat.not_lt_zero _)
    | succ n ih2 =>
      intro k Mv hz2 hk hM
      refine g_iload_n F 2 dX9_remembers_2 rfl rfl ?_
      refine g_iconst (v := nI 4) F dX9_remembers_3 (by decide) ?_
      refine g_icmp_geN (tgt := 26) F dX9_remembers_4 (by decide) (by omega) (by omega) (fun c4 => ?_) (fun c4 => ?_)
      · skip
        exact hret _ _ _ dX9_remembers_26 ⟨Mv, (by have e9 : k = 4 := (by omega); rw [e9] at hM; exact hM), (by rfl)⟩
      · skip
        refine g_aload_n F 0 dX9_remembers_7 rfl rfl ?_
        refine g_get F 0 13 dX9_remembers_8 rfl rfl (by decide) (by decide +kernel) (by decide +kernel) rfl ?_
        refine g_iload_n F 2 dX9_remembers_11 rfl rfl ?_
        refine g_aload_n F 0 dX9_remembers_12 rfl rfl ?_
        refine g_iconst (v := nI 0) F dX9_remembers_13 (by decide) ?_
        refine g_iload_n F 1 dX9_remembers_14 rfl rfl ?_
        refine g_iload_n F 2 dX9_remembers_15 rfl rfl ?_
        refine g_callViR (n := 3) F [0, 1] (c_X9_contentOf l E q r rc tl at9 lf9 pl9 vl9 fa rs9 cs dn S C 0 b k (by assumption) (by omega) (by omega) (by omega)) dX9_remembers_16 rfl (by decide) rfl rfl rfl (Nat.le_of_ble_eq_true rfl) ⟨Nat.le_of_ble_eq_true rfl, Nat.le_of_ble_eq_true rfl⟩ rfl rfl ⟨Nat.le_of_ble_eq_true rfl, Nat.le_of_ble_eq_true rfl⟩ 0 rfl rfl gX9_remembers_X9_contentOf (by decide +kernel) (fun r u hp => by obtain ⟨-, h⟩ := hp; exact h) ?_
        rintro r_16 u_16 ⟨rfl, -⟩
        refine g_iast F 2 dX9_remembers_19 rfl (by omega) (by decide) (w2 := [ob 9 q [.ref (r 0), .ref (r 1), .ref (r 2), .int (nI rc), .ref (r 3), .int (nI tl), .ref (r 4), .ref (r 5), .ref (r 6), .ref (r 7), .ref (r 8), .ref (r 9), .ref (r 10), .ref (r 11), .ref (r 12), .int (nI at9), .int (lf9), .int (pl9), .int (vl9), .int (nI fa), .int (nI rs9), .int (cs), .int (nI dn)], ai E (r 0) 892 S, ai E (r 11) 4 (up Mv k (nu (sN C) 0 b k))]) rfl ?_
        refine g_iinc (k := 2) (v := nI (k + 1)) (lv2 := [(2, .int (nI (k + 1))), (0, .ref q), (1, .int (nI b))]) F dX9_remembers_20 rfl (nI_1 _) (by decide) rfl ?_
        refine g_goto (tgt := 2) F dX9_remembers_23 (by decide) ?_
        refine g_lv [1, 2, 0] rfl ?_
        exact ih2 (k + 1) (up Mv k (nu (sN C) 0 b k)) (by omega) (by omega) (by intro j hj; by_cases z : j = k; (rw [z, up_s]); (rw [up_n _ _ z]; exact hM j (by omega)))
  refine g_lv [1, 2, 0] rfl ?_
  exact loop2 ((4 - 0) + 1) 0 Mo (Nat.lt_succ_self _) (by omega) (by intro j hj; omega)
set_option maxHeartbeats 4000000 in
set_option maxRecDepth 100000 in
theorem c_X9_bringsBack (l : Launch) (E : En) (q : Nat) (r : Nat → Nat) (rc : Nat) (tl : Nat) (at9 : Nat) (lf9 : Int32) (pl9 : Int32) (vl9 : Int32) (fa : Nat) (rs9 : Nat) (cs : Int32) (dn : Nat) (S : Nat → Nat) (C : CS) (Mo : Nat → Nat) (M : Nat → Nat) (b : Nat) (f : Nat) (hR : Rel S C) (hb : b < 96) (hf : f ≤ 4) (hM : ∀ k : Nat, k < 4 → Mo k = nu M 0 b k) : CtV l yX9_bringsBack wsX9_bringsBack ({ frames := 1, cells := 0, slots := 0, locals := 24 } : Room) E [.ref q, .int (nI b), .int (nI f)] [ob 9 q [.ref (r 0), .ref (r 1), .ref (r 2), .int (nI rc), .ref (r 3), .int (nI tl), .ref (r 4), .ref (r 5), .ref (r 6), .ref (r 7), .ref (r 8), .ref (r 9), .ref (r 10), .ref (r 11), .ref (r 12), .int (nI at9), .int (lf9), .int (pl9), .int (vl9), .int (nI fa), .int (nI rs9), .int (cs), .int (nI dn)], ai E (r 0) 892 S, ai E (r 11) 4 Mo] (fun uu => ∃ (S2 : Nat → Nat), (Rel S2 (nS C (bb (sN C) M b f 4))) ∧ uu = [ob 9 q [.ref (r 0), .ref (r 1), .ref (r 2), .int (nI rc), .ref (r 3), .int (nI tl), .ref (r 4), .ref (r 5), .ref (r 6), .ref (r 7), .ref (r 8), .ref (r 9), .ref (r 10), .ref (r 11), .ref (r 12), .int (nI at9), .int (lf9), .int (pl9), .int (vl9), .int (nI fa), .int (nI rs9), .int (cs), .int (nI dn)], ai E (r 0) 892 S2, ai E (r 11) 4 Mo]) := by
  refine CtV.of cX9_bringsBack 4 RX9 rfl (by decide) rfl (Nat.le_of_ble_eq_true rfl) ?_
  intro Γ F hin0 hret
  show G Γ E 0 0 0 [(0, .ref q), (1, .int (nI b)), (2, .int (nI f))] [] [ob 9 q [.ref (r 0), .ref (r 1), .ref (r 2), .int (nI rc), .ref (r 3), .int (nI tl), .ref (r 4), .ref (r 5), .ref (r 6), .ref (r 7), .ref (r 8), .ref (r 9), .ref (r 10), .ref (r 11), .ref (r 12), .int (nI at9), .int (lf9), .int (pl9), .int (vl9), .int (nI fa), .int (nI rs9), .int (cs), .int (nI dn)], ai E (r 0) 892 S, ai E (r 11) 4 Mo]
  refine g_iload_n F 2 dX9_bringsBack_0 rfl rfl ?_
  refine g_istore_n (lv2 := [(3, .int (nI f)), (0, .ref q), (1, .int (nI b)), (2, .int (nI f))]) F dX9_bringsBack_1 rfl (by decide) rfl ?_
  have loop2 : ∀ (n : Nat) (k : Nat) (Sv : Nat → Nat), 4 - k < n → (f ≤ k ∧ k ≤ 4) → (Rel Sv (nS C (bb (sN C) M b f k))) → G Γ E 0 0 2 [(0, .ref q), (1, .int (nI b)), (2, .int (nI f)), (3, .int (nI k))] [] [ob 9 q [.ref (r 0), .ref (r 1), .ref (r 2), .int (nI rc), .ref (r 3), .int (nI tl), .ref (r 4), .ref (r 5), .ref (r 6), .ref (r 7), .ref (r 8), .ref (r 9), .ref (r 10), .ref (r 11), .ref (r 12), .int (nI at9), .int (lf9), .int (pl9), .int (vl9), .int (nI fa), .int (nI rs9), .int (cs), .int (nI dn)], ai E (r 0) 892 Sv, ai E (r 11) 4 Mo] := by
    intro n
    induction n with
    | zero => intro k Sv hz; exact absurd hz (Nat.not_lt_zero _)
    | succ n ih2 =>
      intro k Sv hz2 hk hS
      refine g_iload_n F 3 dX9_bringsBack_2 rfl rfl ?_
      refine g_iconst (v := nI 4) F dX9_bringsBack_3 (by decide) ?_
      refine g_icmp_geN (tgt := 26) F dX9_bringsBack_4 (by decide) (by omega) (by omega) (fun c4 => ?_) (fun c4 => ?_)
      · skip
        exact hret _ _ _ dX9_bringsBack_26 ⟨Sv, (by have e9 : k = 4 := (by omega); rw [e9] at hS; exact hS), (by rfl)⟩
      · skip
        refine g_aload_n F 0 dX9_bringsBack_7 rfl rfl ?_
        refine g_iconst (v := nI 0) F dX9_bringsBack_8 (by decide) ?_
        refine g_iload_n F 1 dX9_bringsBack_9 rfl rfl ?_
        refine g_iload_n F 3 dX9_bringsBack_10 rfl rfl ?_
        refine g_aload_n F 0 dX9_bringsBack_11 rfl rfl ?_
        refine g_get F 0 13 dX9_bringsBack_12 rfl rfl (by decide) (by decide +kernel) (by decide +kernel) rfl ?_
        refine g_iload_n F 3 dX9_bringsBack_15 rfl rfl ?_
        refine g_iald F 2 dX9_bringsBack_16 rfl (by omega) (by decide) ?_
        refine g_callVvW (n := 4) F [0, 1] (c_X9_setContent l E q r rc tl at9 lf9 pl9 vl9 fa rs9 cs dn Sv (nS C (bb (sN C) M b f k)) 0 b k (Mo k) (by exact hS) (by decide) (by exact hb) (by omega)) dX9_bringsBack_17 rfl (by decide) rfl rfl rfl (Nat.le_of_ble_eq_true rfl) ⟨Nat.le_of_ble_eq_true rfl, Nat.le_of_ble_eq_true rfl⟩ rfl rfl ⟨Nat.le_of_ble_eq_true rfl, Nat.le_of_ble_eq_true rfl⟩ 0 rfl rfl gX9_bringsBack_X9_setContent (by decide +kernel) (fun u hp => by obtain ⟨_, -, rfl⟩ := hp; rfl) ?_
        rintro u_17 ⟨S2_17, hR2_17, rfl⟩
        refine g_ws (w2 := [ob 9 q [.ref (r 0), .ref (r 1), .ref (r 2), .int (nI rc), .ref (r 3), .int (nI tl), .ref (r 4), .ref (r 5), .ref (r 6), .ref (r 7), .ref (r 8), .ref (r 9), .ref (r 10), .ref (r 11), .ref (r 12), .int (nI at9), .int (lf9), .int (pl9), .int (vl9), .int (nI fa), .int (nI rs9), .int (cs), .int (nI dn)], ai E (r 0) 892 S2_17, ai E (r 11) 4 Mo]) rfl ?_
        refine g_iinc (k := 3) (v := nI (k + 1)) (lv2 := [(3, .int (nI (k + 1))), (0, .ref q), (1, .int (nI b)), (2, .int (nI f))]) F dX9_bringsBack_20 rfl (nI_1 _) (by decide) rfl ?_
        refine g_goto (tgt := 2) F dX9_bringsBack_23 (by decide) ?_
        refine g_lv [1, 2, 3, 0] rfl ?_
        exact ih2 (k + 1) S2_17 (by omega) (by omega) (by have h : Rel S2_17 (nS C (pn (bb (sN C) M b f k) 0 b k (Mo k))) := hR2_17; rw [hM k (by omega), bb_s hk.1] at h; exact h)
  refine g_lv [1, 2, 3, 0] rfl ?_
  exact loop2 ((4 - f) + 1) f S (Nat.lt_succ_self _) (by omega) (by rw [bb_0]; exact hR)
set_option maxHeartbeats 4000000 in
set_option maxRecDepth 100000 in
theorem c_X9_whyNotWritten (l : Launch) (E : En) (q : Nat) (r : Nat → Nat) (rc : Nat) (tl : Nat) (at9 : Nat) (lf9 : Int32) (pl9 : Int32) (vl9 : Int32) (fa : Nat) (rs9 : Nat) (cs : Int32) (dn : Nat) (S : Nat → Nat) (C : CS) (B : Nat → Nat) (Q : Nat → Nat) (K : Nat → Int32) (x1 : Int32) (x2 : Int32) (x3 : Int32) (hR : Rel S C) (hI : IC C) : CtI l yX9_whyNotWritten wsX9_whyNotWritten ({ frames := 4, cells := 0, slots := 0, locals := 92 } : Room) E [.ref q, .int (x1), .int (x2), .int (x3)] [ob 9 q [.ref (r 0), .ref (r 1), .ref (r 2), .int (nI rc), .ref (r 3), .int (nI tl), .ref (r 4), .ref (r 5), .ref (r 6), .ref (r 7), .ref (r 8), .ref (r 9), .ref (r 10), .ref (r 11), .ref (r 12), .int (nI at9), .int (lf9), .int (pl9), .int (vl9), .int (nI fa), .int (nI rs9), .int (cs), .int (nI dn)], ai E (r 0) 892 S, ai E (r 4) 3 B, ai E (r 5) 3 Q, ax E (r 6) 3 K] (fun rr uu => ∃ (B2 : Nat → Nat), ∃ (Q2 : Nat → Nat), ∃ (K2 : Nat → Int32), ((rng x1 16 ∧ rng x2 4 ∧ rng x3 1000) → wrE C (dv x1) = 0 → WR9 C 0 (dv x1) 3 B2 Q2 K2) ∧ rr = (cI (rng x1 16 ∧ rng x2 4 ∧ rng x3 1000) (wrE C (dv x1)) (-1000001)) ∧ uu = [ob 9 q [.ref (r 0), .ref (r 1), .ref (r 2), .int (nI rc), .ref (r 3), .int (nI tl), .ref (r 4), .ref (r 5), .ref (r 6), .ref (r 7), .ref (r 8), .ref (r 9), .ref (r 10), .ref (r 11), .ref (r 12), .int (nI at9), .int (lf9), .int (pl9), .int (vl9), .int (nI fa), .int (nI rs9), .int (cs), .int (nI dn)], ai E (r 0) 892 S, ai E (r 4) 3 B2, ai E (r 5) 3 Q2, ax E (r 6) 3 K2]) := by
  refine CtI.of cX9_whyNotWritten 4 RX9 .int rfl (by decide) rfl (Or.inl rfl) (Nat.le_of_ble_eq_true rfl) (fun h => by cases h) ?_
  intro Γ F hret
  show G Γ E 0 0 0 [(0, .ref q), (1, .int (x1)), (2, .int (x2)), (3, .int (x3))] [] [ob 9 q [.ref (r 0), .ref (r 1), .ref (r 2), .int (nI rc), .ref (r 3), .int (nI tl), .ref (r 4), .ref (r 5), .ref (r 6), .ref (r 7), .ref (r 8), .ref (r 9), .ref (r 10), .ref (r 11), .ref (r 12), .int (nI at9), .int (lf9), .int (pl9), .int (vl9), .int (nI fa), .int (nI rs9), .int (cs), .int (nI dn)], ai E (r 0) 892 S, ai E (r 4) 3 B, ai E (r 5) 3 Q, ax E (r 6) 3 K]
  refine g_iload_n F 1 dX9_whyNotWritten_0 rfl rfl ?_
  refine g_callSiR (n := 1) F [] (c_X9_isLeaf l E x1 ) dX9_whyNotWritten_1 rfl (by decide) rfl rfl rfl (Nat.le_of_ble_eq_true rfl) ⟨Nat.le_of_ble_eq_true rfl, Nat.le_of_ble_eq_true rfl⟩ rfl rfl ⟨Nat.le_of_ble_eq_true rfl, Nat.le_of_ble_eq_true rfl⟩ ggX9_whyNotWritten_X9_isLeaf (by decide +kernel) (by decide +kernel) (by decide +kernel) (by decide +kernel) (fun r u hp => by obtain ⟨-, h⟩ := hp; exact h) ?_
  rintro r_1 u_1 ⟨rfl, -⟩
  refine g_if_eqB (tgt := 27) F dX9_whyNotWritten_4 (by decide) (fun c4 => ?_) (fun c4 => ?_)
  · skip
    refine g_ldc (v := (-1000001)) F dX9_whyNotWritten_27 (by decide +kernel) ?_
    exact hret _ _ _ _ dX9_whyNotWritten_29 ⟨B, Q, K, (by intro h; exact absurd (c4 h.1) (fun z => z)), (by rw [cI_neg (fun h => (c4 h.1))]), (by rfl)⟩
  · skip
    obtain ⟨l1, hl1, rfl⟩ := rng_of (by first | decide | omega) (c4)
    refine g_iload_n F 2 dX9_whyNotWritten_7 rfl rfl ?_
    refine g_iconst (v := nI 0) F dX9_whyNotWritten_8 (by decide) ?_
    refine g_iconst (v := nI 3) F dX9_whyNotWritten_9 (by decide) ?_
    refine g_callSiR (n := 3) F [] (c_X9_within_x l E x2 3 (by omega)) dX9_whyNotWritten_10 rfl (by decide) rfl rfl rfl (Nat.le_of_ble_eq_true rfl) ⟨Nat.le_of_ble_eq_true rfl, Nat.le_of_ble_eq_true rfl⟩ rfl rfl ⟨Nat.le_of_ble_eq_true rfl, Nat.le_of_ble_eq_true rfl⟩ ggX9_whyNotWritten_X9_within (by decide +kernel) (by decide +kernel) (by decide +kernel) (by decide +kernel) (fun r u hp => by obtain ⟨-, h⟩ := hp; exact h) ?_
    rintro r_10 u_10 ⟨rfl, -⟩
    refine g_if_eqB (tgt := 27) F dX9_whyNotWritten_13 (by decide) (fun c13 => ?_) (fun c13 => ?_)
    · skip
      refine g_ldc (v := (-1000001)) F dX9_whyNotWritten_27 (by decide +kernel) ?_
      exact hret _ _ _ _ dX9_whyNotWritten_29 ⟨B, Q, K, (by intro h; exact absurd (c13 h.2.1) (fun z => z)), (by rw [cI_neg (fun h => (c13 h.2.1))]), (by rfl)⟩
    · skip
      obtain ⟨p1, hp1, rfl⟩ := rng_of (by first | decide | omega) (c13)
      refine g_iload_n F 3 dX9_whyNotWritten_16 rfl rfl ?_
      refine g_iconst (v := nI 0) F dX9_whyNotWritten_17 (by decide) ?_
      refine g_sipush (v := nI 999) F dX9_whyNotWritten_18 (by decide) ?_
      refine g_callSiR (n := 3) F [] (c_X9_within_x l E x3 999 (by omega)) dX9_whyNotWritten_21 rfl (by decide) rfl rfl rfl (Nat.le_of_ble_eq_true rfl) ⟨Nat.le_of_ble_eq_true rfl, Nat.le_of_ble_eq_true rfl⟩ rfl rfl ⟨Nat.le_of_ble_eq_true rfl, Nat.le_of_ble_eq_true rfl⟩ ggX9_whyNotWritten_X9_within (by decide +kernel) (by decide +kernel) (by decide +kernel) (by decide +kernel) (fun r u hp => by obtain ⟨-, h⟩ := hp; exact h) ?_
      rintro r_21 u_21 ⟨rfl, -⟩
      refine g_if_neB (tgt := 30) F dX9_whyNotWritten_24 (by decide) (fun c24 => ?_) (fun c24 => ?_)
      · skip
        obtain ⟨v1, hv1, rfl⟩ := rng_of (by first | decide | omega) (c24)
        refine g_aload_n F 0 dX9_whyNotWritten_30 rfl rfl ?_
        refine g_get F 0 0 dX9_whyNotWritten_31 rfl rfl (by decide) (by decide +kernel) (by decide +kernel) rfl ?_
        refine g_sipush (v := nI 864) F dX9_whyNotWritten_34 (by decide) ?_
        refine g_iald F 1 dX9_whyNotWritten_37 rfl (by omega) (by decide) ?_
        have hz8 := hI.2.2.2.1
        have hz1 := hI.2.2.1
        refine g_top (nI (S 864)) (nI (sZ C)) (by rw [hR.2.2.1]) ?_
        refine g_bipush (v := nI 8) F dX9_whyNotWritten_38 (by decide) ?_
        refine g_icmp_eqN (tgt := 51) F dX9_whyNotWritten_40 (by decide) (by omega) (by omega) (fun c40 => ?_) (fun c40 => ?_)
        · skip
          refine g_ldc (v := (-1000003)) F dX9_whyNotWritten_51 (by decide +kernel) ?_
          exact hret _ _ _ _ dX9_whyNotWritten_53 ⟨B, Q, K, (by intro _ h; exfalso; rw [dv_nI (by omega)] at h; have := pw_ok h; omega), (by rw [cI_pos ⟨(rng_nI (by decide) (by omega)).mpr hl1, (rng_nI (by decide) (by omega)).mpr hp1, (rng_nI (by decide) (by omega)).mpr hv1⟩, dv_nI (by omega)]; unfold wrE pw; first | rw [if_pos (by omega)] | rw [if_neg (by omega), if_pos (by omega)]), (by rfl)⟩
        · skip
          refine g_aload_n F 0 dX9_whyNotWritten_43 rfl rfl ?_
          refine g_callViR (n := 0) F [0, 1] (c_X9_freeMany l E q r rc tl at9 lf9 pl9 vl9 fa rs9 cs dn S C (by assumption) (by assumption)) dX9_whyNotWritten_44 rfl (by decide) rfl rfl rfl (Nat.le_of_ble_eq_true rfl) ⟨Nat.le_of_ble_eq_true rfl, Nat.le_of_ble_eq_true rfl⟩ rfl rfl ⟨Nat.le_of_ble_eq_true rfl, Nat.le_of_ble_eq_true rfl⟩ 0 rfl rfl gX9_whyNotWritten_X9_freeMany (by decide +kernel) (fun r u hp => by obtain ⟨-, h⟩ := hp; exact h) ?_
          rintro r_44 u_44 ⟨rfl, -⟩
          refine g_iconst (v := nI 3) F dX9_whyNotWritten_47 (by decide) ?_
          have hcn := cn_le (sU C) 96
          refine g_icmp_geN (tgt := 54) F dX9_whyNotWritten_48 (by decide) (by omega) (by omega) (fun c48 => ?_) (fun c48 => ?_)
          · skip
            refine g_aload_n F 0 dX9_whyNotWritten_54 rfl rfl ?_
            refine g_iconst (v := nI 0) F dX9_whyNotWritten_55 (by decide) ?_
            refine g_iload_n F 1 dX9_whyNotWritten_56 rfl rfl ?_
            refine g_callViW (n := 2) F [0, 1, 2, 3, 4] (c_X9_findWay l E q r rc tl at9 lf9 pl9 vl9 fa rs9 cs dn S C B Q K 0 l1 (by assumption) (by assumption) (by omega) (by omega)) dX9_whyNotWritten_57 rfl (by decide) rfl rfl rfl (Nat.le_of_ble_eq_true rfl) ⟨Nat.le_of_ble_eq_true rfl, Nat.le_of_ble_eq_true rfl⟩ rfl rfl ⟨Nat.le_of_ble_eq_true rfl, Nat.le_of_ble_eq_true rfl⟩ 0 rfl rfl gX9_whyNotWritten_X9_findWay (by decide +kernel) (fun r u hp => by obtain ⟨_, _, _, -, -, rfl⟩ := hp; rfl) ?_
            rintro r_57 u_57 ⟨B2_57, Q2_57, K2_57, hW_57, rfl, rfl⟩
            refine g_ws (w2 := [ob 9 q [.ref (r 0), .ref (r 1), .ref (r 2), .int (nI rc), .ref (r 3), .int (nI tl), .ref (r 4), .ref (r 5), .ref (r 6), .ref (r 7), .ref (r 8), .ref (r 9), .ref (r 10), .ref (r 11), .ref (r 12), .int (nI at9), .int (lf9), .int (pl9), .int (vl9), .int (nI fa), .int (nI rs9), .int (cs), .int (nI dn)], ai E (r 0) 892 S, ai E (r 4) 3 B2_57, ai E (r 5) 3 Q2_57, ax E (r 6) 3 K2_57]) rfl ?_
            refine g_if_eqB (tgt := 67) F dX9_whyNotWritten_60 (by decide) (fun c60 => ?_) (fun c60 => ?_)
            · skip
              refine g_ldc (v := (-1000002)) F dX9_whyNotWritten_67 (by decide +kernel) ?_
              exact hret _ _ _ _ dX9_whyNotWritten_69 ⟨B2_57, Q2_57, K2_57, (by intro _ h; rw [dv_nI (by omega)]; exact hW_57), (by rw [cI_pos ⟨(rng_nI (by decide) (by omega)).mpr hl1, (rng_nI (by decide) (by omega)).mpr hp1, (rng_nI (by decide) (by omega)).mpr hv1⟩, dv_nI (by omega)]; unfold wrE pw; rw [if_neg (by omega), if_neg (by omega), if_neg c60]), (by rfl)⟩
            · skip
              refine g_iconst (v := nI 0) F dX9_whyNotWritten_63 (by decide) ?_
              refine g_goto (tgt := 69) F dX9_whyNotWritten_64 (by decide) ?_
              exact hret _ _ _ _ dX9_whyNotWritten_69 ⟨B2_57, Q2_57, K2_57, (by intro _ h; rw [dv_nI (by omega)]; exact hW_57), (by rw [cI_pos ⟨(rng_nI (by decide) (by omega)).mpr hl1, (rng_nI (by decide) (by omega)).mpr hp1, (rng_nI (by decide) (by omega)).mpr hv1⟩, dv_nI (by omega)]; unfold wrE pw; rw [if_neg (by omega), if_neg (by omega), if_pos c60]), (by rfl)⟩
          · skip
            refine g_ldc (v := (-1000003)) F dX9_whyNotWritten_51 (by decide +kernel) ?_
            exact hret _ _ _ _ dX9_whyNotWritten_53 ⟨B, Q, K, (by intro _ h; exfalso; rw [dv_nI (by omega)] at h; have := pw_ok h; omega), (by rw [cI_pos ⟨(rng_nI (by decide) (by omega)).mpr hl1, (rng_nI (by decide) (by omega)).mpr hp1, (rng_nI (by decide) (by omega)).mpr hv1⟩, dv_nI (by omega)]; unfold wrE pw; first | rw [if_pos (by omega)] | rw [if_neg (by omega), if_pos (by omega)]), (by rfl)⟩
      · skip
        refine g_ldc (v := (-1000001)) F dX9_whyNotWritten_27 (by decide +kernel) ?_
        exact hret _ _ _ _ dX9_whyNotWritten_29 ⟨B, Q, K, (by intro h; exact absurd (c24 h.2.2) (fun z => z)), (by rw [cI_neg (fun h => (c24 h.2.2))]), (by rfl)⟩
