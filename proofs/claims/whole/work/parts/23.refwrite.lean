/-! the reference writes -/
theorem ly_at (N : Nat → Nat) (c b : Nat) (T : Nat → Nat) (v : Nat) : ∀ (m j : Nat), ly N c b T v m j = if (c * 96 + b) * 4 ≤ j ∧ j < (c * 96 + b) * 4 + m then T (v * 4 + (j - (c * 96 + b) * 4)) else N j
  | 0, j => by rw [if_neg (by omega)]; rfl
  | m + 1, j => by
    show (if j = (c * 96 + b) * 4 + m then T (v * 4 + m) else ly N c b T v m j) = _
    rw [ly_at N c b T v m j]
    by_cases h : j = (c * 96 + b) * 4 + m
    · rw [if_pos h, if_pos (by omega), show j - (c * 96 + b) * 4 = m by omega]
    · rw [if_neg h]
      by_cases h2 : (c * 96 + b) * 4 ≤ j ∧ j < (c * 96 + b) * 4 + m
      · rw [if_pos h2, if_pos (by omega)]
      · rw [if_neg h2, if_neg (by omega)]
def swp (N : Nat → Nat) (a b : Nat) (T : Nat → Nat) (i : Nat) : Nat → Nat := fun j => if (0 * 96 + a) * 4 ≤ j ∧ j < (0 * 96 + a) * 4 + i then T (1 * 4 + (j - (0 * 96 + a) * 4)) else if (0 * 96 + b) * 4 ≤ j ∧ j < (0 * 96 + b) * 4 + i then T (2 * 4 + (j - (0 * 96 + b) * 4)) else N j
theorem swp_0 {N : Nat → Nat} {a b : Nat} {T : Nat → Nat} : swp N a b T 0 = N := by
  funext j
  unfold swp
  rw [if_neg (by omega), if_neg (by omega)]
theorem swp_s {N : Nat → Nat} {a b : Nat} {T : Nat → Nat} {i : Nat} (hab : a ≠ b) (hi : i < 4) : pn (pn (swp N a b T i) 0 a i (T (1 * 4 + i))) 0 b i (T (2 * 4 + i)) = swp N a b T (i + 1) := by
  funext j
  show (if j = (0 * 96 + b) * 4 + i then T (2 * 4 + i) else if j = (0 * 96 + a) * 4 + i then T (1 * 4 + i) else swp N a b T i j) = _
  unfold swp
  by_cases h1 : j = (0 * 96 + b) * 4 + i
  · rw [if_pos h1, if_neg (by omega), if_pos (by omega), show j - (0 * 96 + b) * 4 = i by omega]
  · rw [if_neg h1]
    by_cases h2 : j = (0 * 96 + a) * 4 + i
    · rw [if_pos h2, if_pos (by omega), show j - (0 * 96 + a) * 4 = i by omega]
    · rw [if_neg h2]
      by_cases h3 : (0 * 96 + a) * 4 ≤ j ∧ j < (0 * 96 + a) * 4 + i
      · rw [if_pos h3, if_pos (by omega)]
      · rw [if_neg h3, if_neg (show ¬ ((0 * 96 + a) * 4 ≤ j ∧ j < (0 * 96 + a) * 4 + (i + 1)) by omega)]
        by_cases h4 : (0 * 96 + b) * 4 ≤ j ∧ j < (0 * 96 + b) * 4 + i
        · rw [if_pos h4, if_pos (by omega)]
        · rw [if_neg h4, if_neg (by omega)]
theorem wr_1 {N T : Nat → Nat} {a b c : Nat} (ha : a < 96) (hb : b < 96) (hc : c < 96) (hab : a ≠ b) (hac : a ≠ c) (hbc : b ≠ c) (j : Nat) : lyb (lyb (bb (lyb N a T 2 4) N a 2 4) b T 1 4) c T 0 4 j = cN 1 N a b c T j := by
  unfold lyb cN lf bb
  rw [if_pos rfl]
  simp only [ly_at]
  (repeat' split) <;> first | rfl | omega
theorem wr_2 {N T : Nat → Nat} {a b c : Nat} (ha : a < 96) (hb : b < 96) (hc : c < 96) (hab : a ≠ b) (hac : a ≠ c) (hbc : b ≠ c) (j : Nat) : lyb (bb (lyb (lyb N a T 2 4) b T 1 4) (lyb N a T 2 4) b 0 4) c T 0 4 j = cN 2 N a b c T j := by
  unfold lyb cN lf bb
  rw [if_neg (by decide), if_pos rfl]
  simp only [ly_at]
  (repeat' split) <;> first | rfl | omega
theorem wr_3 {N T : Nat → Nat} {a b c : Nat} (ha : a < 96) (hb : b < 96) (hc : c < 96) (hab : a ≠ b) (hac : a ≠ c) (hbc : b ≠ c) (j : Nat) : swp (lyb (lyb (lyb N a T 2 4) b T 1 4) c T 0 4) a b T 4 j = cN 3 N a b c T j := by
  have e : lf 3 N a b T = ly (ly N 0 a T 1 4) 0 b T 2 4 := by
    unfold lf; rw [if_neg (by decide), if_neg (by decide), if_pos rfl]
  unfold lyb cN swp
  rw [e]
  simp only [ly_at]
  (repeat' split) <;> first | rfl | omega
theorem wr_0 {N T : Nat → Nat} {a b c : Nat} (ha : a < 96) (hb : b < 96) (hc : c < 96) (hab : a ≠ b) (hac : a ≠ c) (hbc : b ≠ c) (j : Nat) {m : Nat} (h1 : ¬ m = 1) (h2 : ¬ m = 2) (h3 : ¬ m = 3) : lyb (lyb (lyb N a T 2 4) b T 1 4) c T 0 4 j = cN m N a b c T j := by
  unfold lyb cN lf
  rw [if_neg h1, if_neg h2, if_neg h3]
  simp only [ly_at]
  (repeat' split) <;> first | rfl | omega
theorem wrT_lt {C : CS} (h : IC C) {l p x : Nat} (hl : l < 16) (hx : x < 1000) (h1 : b1 C < 96) (h2 : b2 C < 96) (j : Nat) : wrT C l p x j < 65536 := by
  have q1 : ∀ j : Nat, cT1 (wtC C l) p x j < 65536 := fun j => by
    show up (wtC C l) _ x j < 65536
    unfold up; split
    · omega
    · exact wtc_lt h.1 _ _ _ _
  have q2 : ∀ j : Nat, cT2 (wtC C l) l p x (b1 C) j < 65536 := fun j => by
    show up (cT1 (wtC C l) p x) _ _ j < 65536
    have := sm_lt (cT1 (wtC C l) p x) (2 * 4)
    unfold up; split
    · omega
    · exact q1 j
  show up (cT2 (wtC C l) l p x (b1 C)) _ _ j < 65536
  have := sm_lt (cT2 (wtC C l) l p x (b1 C)) (1 * 4)
  unfold up; split
  · omega
  · exact q2 j
theorem wrT_2 {C : CS} {l p x k : Nat} (hl : l < 16) (hk : k < 4) : up (fun k => wtC C l (2 * 4 + k)) p x k = wrT C l p x (2 * 4 + k) := by
  have k1 := ch_lt (v := 1) hl
  have k0 := ch_lt (v := 0) hl
  have e : wrT C l p x (2 * 4 + k) = up (wtC C l) (2 * 4 + p) x (2 * 4 + k) := by
    show up (up (up (wtC C l) (2 * 4 + p) x) (1 * 4 + ch l 1) _) (0 * 4 + ch l 0) _ (2 * 4 + k) = _
    rw [up_n _ _ (by omega), up_n _ _ (by omega)]
  rw [e]
  unfold up
  by_cases z : k = p
  · rw [if_pos z, if_pos (by omega)]
  · rw [if_neg z, if_neg (by omega)]
theorem cT1_2 {C : CS} {l p x k : Nat} (hl : l < 16) (hk : k < 4) : cT1 (wtC C l) p x (2 * 4 + k) = wrT C l p x (2 * 4 + k) := by
  have k1 := ch_lt (v := 1) hl
  have k0 := ch_lt (v := 0) hl
  show _ = up (up (cT1 (wtC C l) p x) (1 * 4 + ch l 1) _) (0 * 4 + ch l 0) _ (2 * 4 + k)
  rw [up_n _ _ (by omega), up_n _ _ (by omega)]
theorem wrT_1 {C : CS} {l p x k : Nat} (hl : l < 16) (hp : p < 4) (hk : k < 4) : up (fun k => wtC C l (1 * 4 + k)) (l % 4) (256 * b1 C + sm (fun k => wrT C l p x (2 * 4 + k)) 0) k = wrT C l p x (1 * 4 + k) := by
  have k0 := ch_lt (v := 0) hl
  have e1 : sm (fun k => wrT C l p x (2 * 4 + k)) 0 = sm (cT1 (wtC C l) p x) (2 * 4) := by
    unfold sm
    rw [show cT1 (wtC C l) p x (2 * 4) = wrT C l p x (2 * 4 + 0) from cT1_2 (k := 0) hl (by decide), cT1_2 (k := 1) hl (by decide), cT1_2 (k := 2) hl (by decide), cT1_2 (k := 3) hl (by decide)]
  have e2 : ch l 1 = l % 4 := rfl
  have e : wrT C l p x (1 * 4 + k) = up (cT1 (wtC C l) p x) (1 * 4 + ch l 1) (256 * b1 C + sm (cT1 (wtC C l) p x) (2 * 4)) (1 * 4 + k) := by
    show up (up (cT1 (wtC C l) p x) (1 * 4 + ch l 1) (256 * b1 C + sm (cT1 (wtC C l) p x) (2 * 4))) (0 * 4 + ch l 0) _ (1 * 4 + k) = _
    rw [up_n _ _ (by omega)]
  rw [e, e1, e2]
  show (if k = l % 4 then _ else wtC C l (1 * 4 + k)) = (if 1 * 4 + k = 1 * 4 + l % 4 then _ else up (wtC C l) (2 * 4 + p) x (1 * 4 + k))
  by_cases z : k = l % 4
  · rw [if_pos z, if_pos (by omega)]
  · rw [if_neg z, if_neg (by omega), up_n _ _ (by omega)]
theorem cT2_1 {C : CS} {l p x k : Nat} (hl : l < 16) (hk : k < 4) : cT2 (wtC C l) l p x (b1 C) (1 * 4 + k) = wrT C l p x (1 * 4 + k) := by
  have k0 := ch_lt (v := 0) hl
  show _ = up (cT2 (wtC C l) l p x (b1 C)) (0 * 4 + ch l 0) _ (1 * 4 + k)
  rw [up_n _ _ (by omega)]
theorem wrT_0 {C : CS} {l p x k : Nat} (hl : l < 16) (hp : p < 4) (hk : k < 4) : up (fun k => wtC C l (0 * 4 + k)) (l / 4) (256 * b2 C + sm (fun k => wrT C l p x (1 * 4 + k)) 0) k = wrT C l p x (0 * 4 + k) := by
  have e1 : sm (fun k => wrT C l p x (1 * 4 + k)) 0 = sm (cT2 (wtC C l) l p x (b1 C)) (1 * 4) := by
    unfold sm
    rw [show cT2 (wtC C l) l p x (b1 C) (1 * 4) = wrT C l p x (1 * 4 + 0) from cT2_1 (k := 0) hl (by decide), cT2_1 (k := 1) hl (by decide), cT2_1 (k := 2) hl (by decide), cT2_1 (k := 3) hl (by decide)]
  have e2 : ch l 0 = l / 4 := rfl
  have e3 := ch_lt (v := 1) hl
  have e : wrT C l p x (0 * 4 + k) = up (cT2 (wtC C l) l p x (b1 C)) (0 * 4 + ch l 0) (256 * b2 C + sm (cT2 (wtC C l) l p x (b1 C)) (1 * 4)) (0 * 4 + k) := rfl
  rw [e, e1, e2]
  show (if k = l / 4 then _ else wtC C l (0 * 4 + k)) = (if 0 * 4 + k = 0 * 4 + l / 4 then _ else up (up (wtC C l) (2 * 4 + p) x) (1 * 4 + ch l 1) _ (0 * 4 + k))
  by_cases z : k = l / 4
  · rw [if_pos z, if_pos (by omega)]
  · rw [if_neg z, if_neg (by omega), up_n _ _ (by omega), up_n _ _ (by omega)]
theorem IC_nu {C : CS} (h : IC C) {N U : Nat → Nat} (hN : BN N) (hU : BU U) : IC (nS (uS C U) N) := ⟨hN, hU, h.2.2⟩
theorem lyb_BN {N T : Nat → Nat} (h : BN N) (hT : ∀ j : Nat, T j < 65536) (b v k : Nat) : BN (lyb N b T v k) := ly_BN (ly_BN h k (fun _ _ => hT _)) k (fun _ _ => hT _)
theorem bb_BN {N M : Nat → Nat} (h : BN N) (h2 : BN M) (b f k : Nat) : BN (bb N M b f k) := fun j => by
  unfold bb; split
  · exact h2 j
  · exact h j
/-- the list of roots moved on, from behind -/
def shf (S : Nat → Nat) (k z : Nat) : Nat → Nat := fun j => if k < j ∧ j ≤ 870 + 3 * z then S (j - 3) else S j
theorem shf_lo {S : Nat → Nat} {k z j : Nat} (h : ¬ k < j) : shf S k z j = S j := if_neg (by omega)
theorem shf_s {S : Nat → Nat} {k z j : Nat} (h1 : 870 < k) (h2 : k ≤ 870 + 3 * z) : up (shf S k z) k (shf S k z (k - 3)) j = shf S (k - 1) z j := by
  rw [shf_lo (by omega)]
  show (if j = k then S (k - 3) else shf S k z j) = _
  by_cases h : j = k
  · rw [if_pos h, h]; exact (if_pos (by omega)).symm
  · rw [if_neg h]
    show (if k < j ∧ j ≤ 870 + 3 * z then S (j - 3) else S j) = (if k - 1 < j ∧ j ≤ 870 + 3 * z then S (j - 3) else S j)
    by_cases h3 : k < j ∧ j ≤ 870 + 3 * z
    · rw [if_pos h3, if_pos (by omega)]
    · rw [if_neg h3, if_neg (by omega)]
theorem Rel_wr {Sv N U : Nat → Nat} {C : CS} (h : Rel Sv (nS (uS C U) N)) (c s : Nat) : Rel (up (up (up (up (up (up (up (shf Sv 870 (sZ C)) 868 (sW C + 1)) 869 c) 870 s) 864 (sZ C + 1)) 865 (sW C + 1 + 1)) 866 0) 867 (sW C + 1)) (N, U, alt (sn C) (sZ C) (sW C + 1), alt (sb C) (sZ C) c, alt (ss C) (sZ C) s, sZ C + 1, 0, sW C + 1) := by
  obtain ⟨h1, h2, h3, h4, h5, h6, h7⟩ := h
  have lo : ∀ j : Nat, j < 864 → up (up (up (up (up (up (up (shf Sv 870 (sZ C)) 868 (sW C + 1)) 869 c) 870 s) 864 (sZ C + 1)) 865 (sW C + 1 + 1)) 866 0) 867 (sW C + 1) j = Sv j := fun j hj => by
    rw [up_n _ _ (by omega), up_n _ _ (by omega), up_n _ _ (by omega), up_n _ _ (by omega), up_n _ _ (by omega), up_n _ _ (by omega), up_n _ _ (by omega), shf_lo (by omega)]
  have hi : ∀ j : Nat, 867 < j → up (up (up (up (up (up (up (shf Sv 870 (sZ C)) 868 (sW C + 1)) 869 c) 870 s) 864 (sZ C + 1)) 865 (sW C + 1 + 1)) 866 0) 867 (sW C + 1) j = up (up (up (shf Sv 870 (sZ C)) 868 (sW C + 1)) 869 c) 870 s j := fun j hj => by
    rw [up_n _ _ (by omega), up_n _ _ (by omega), up_n _ _ (by omega), up_n _ _ (by omega)]
  refine ⟨fun j hj => by rw [lo j (by omega)]; exact h1 j hj, fun j hj => by rw [lo _ (by omega)]; exact h2 j hj, ?_, ?_, ?_, ?_, fun i hi2 => ?_⟩
  · rw [up_n _ _ (by decide), up_n _ _ (by decide), up_n _ _ (by decide), up_s]
  · rw [up_n _ _ (by decide), up_n _ _ (by decide), up_s]
  · rw [up_n _ _ (by decide), up_s]
  · rw [up_s]
  · have hi3 : i < sZ C + 1 := hi2
    by_cases z : i = 0
    · subst z
      refine ⟨?_, ?_, ?_⟩
      · rw [hi _ (by omega), up_n _ _ (by omega), up_n _ _ (by omega)]; exact up_s _ _ _
      · rw [hi _ (by omega), up_n _ _ (by omega)]; exact up_s _ _ _
      · rw [hi _ (by omega)]; exact up_s _ _ _
    · obtain ⟨k, rfl⟩ : ∃ k, i = k + 1 := ⟨i - 1, by omega⟩
      obtain ⟨q1, q2, q3⟩ := h7 k (show k < sZ C by omega)
      have sh : ∀ p : Nat, p < 3 → up (up (up (shf Sv 870 (sZ C)) 868 (sW C + 1)) 869 c) 870 s (868 + 3 * (k + 1) + p) = Sv (868 + 3 * k + p) := fun p hp => by
        rw [up_n _ _ (by omega), up_n _ _ (by omega), up_n _ _ (by omega)]
        show (if _ then Sv (868 + 3 * (k + 1) + p - 3) else _) = _
        rw [if_pos (by omega), show 868 + 3 * (k + 1) + p - 3 = 868 + 3 * k + p by omega]
      have al9 : ∀ (f : Nat → Nat) (v : Nat), alt f (sZ C) v (k + 1) = f k := fun f v => by
        unfold alt
        rw [if_neg (by omega), if_pos (by omega), Nat.add_sub_cancel]
      refine ⟨?_, ?_, ?_⟩
      · rw [hi _ (by omega)]
        refine (sh 0 (by decide)).trans ?_
        show _ = alt (sn C) (sZ C) (sW C + 1) (k + 1)
        rw [al9]; exact q1
      · rw [hi _ (by omega), sh 1 (by decide)]
        show _ = alt (sb C) (sZ C) c (k + 1)
        rw [al9]; exact q2
      · rw [hi _ (by omega), sh 2 (by decide)]
        show _ = alt (ss C) (sZ C) s (k + 1)
        rw [al9]; exact q3
theorem b_ne {C : CS} (h1 : b1 C < 96) (h2 : b2 C < 96) (h3 : b3 C < 96) : b1 C ≠ b2 C ∧ b1 C ≠ b3 C ∧ b2 C ≠ b3 C := by
  have e2 : up (sU C) (b1 C) 1 (b2 C) = 0 := ff_at 96 h2
  have e3 : up (up (sU C) (b1 C) 1) (b2 C) 1 (b3 C) = 0 := ff_at 96 h3
  refine ⟨fun h => ?_, fun h => ?_, fun h => ?_⟩
  · rw [← h, up_s] at e2; exact absurd e2 (by decide)
  · have h4 : ¬ b1 C = b2 C := fun h5 => by
      rw [← h5, up_s] at e2; exact absurd e2 (by decide)
    rw [← h, up_n _ _ h4, up_s] at e3; exact absurd e3 (by decide)
  · rw [← h, up_s] at e3; exact absurd e3 (by decide)
theorem b_lt {C : CS} (h : 3 ≤ 96 - cn (sU C) 96) : b1 C < 96 ∧ b2 C < 96 ∧ b3 C < 96 := by
  have hc := cn_le (sU C) 96
  have lb1 : b1 C < 96 := ff_lt 96 (by omega)
  have cb1 : cn (up (sU C) (b1 C) 1) 96 = cn (sU C) 96 + 1 := cn_up (ff_at 96 lb1) 96 lb1
  have lb2 : b2 C < 96 := ff_lt 96 (by omega)
  have cb2 : cn (up (up (sU C) (b1 C) 1) (b2 C) 1) 96 = cn (up (sU C) (b1 C) 1) 96 + 1 := cn_up (ff_at 96 lb2) 96 lb2
  exact ⟨lb1, lb2, ff_lt 96 (by omega)⟩
set_option maxHeartbeats 4000000 in
set_option maxRecDepth 100000 in
theorem c_X9_written (l : Launch) (E : En) (q : Nat) (r : Nat → Nat) (rc : Nat) (tl : Nat) (at9 : Nat) (lf9 : Int32) (pl9 : Int32) (vl9 : Int32) (fa : Nat) (rs9 : Nat) (cs : Int32) (dn : Nat) (S : Nat → Nat) (C : CS) (B : Nat → Nat) (Q : Nat → Nat) (K : Nat → Int32) (La : Nat → Nat) (Pa : Nat → Nat) (Ra : Nat → Nat) (Mo : Nat → Nat) (l1 : Nat) (p1 : Nat) (v1 : Nat) (hR : Rel S C) (hI : IC C) (hl : l1 < 16) (hp : p1 < 4) (hx : v1 < 1000) (hE : wrE C l1 = 0) (hW : WR9 C 0 l1 3 B Q K) : CtI l yX9_written wsX9_written ({ frames := 3, cells := 0, slots := 0, locals := 70 } : Room) E [.ref q, .int (nI l1), .int (nI p1), .int (nI v1)] [ob 9 q [.ref (r 0), .ref (r 1), .ref (r 2), .int (nI rc), .ref (r 3), .int (nI tl), .ref (r 4), .ref (r 5), .ref (r 6), .ref (r 7), .ref (r 8), .ref (r 9), .ref (r 10), .ref (r 11), .ref (r 12), .int (nI at9), .int (lf9), .int (pl9), .int (vl9), .int (nI fa), .int (nI rs9), .int (cs), .int (nI dn)], ai E (r 0) 892 S, ai E (r 4) 3 B, ai E (r 5) 3 Q, ax E (r 6) 3 K, ai E (r 8) 4 La, ai E (r 9) 4 Pa, ai E (r 10) 4 Ra, ai E (r 11) 4 Mo] (fun rr uu => ∃ (S2 : Nat → Nat), ∃ (La2 : Nat → Nat), ∃ (Pa2 : Nat → Nat), ∃ (Ra2 : Nat → Nat), ∃ (Mo2 : Nat → Nat), (Rel S2 (wrS C l1 p1 v1)) ∧ rr = (nI (wtC C l1 (2 * 4 + p1))) ∧ uu = [ob 9 q [.ref (r 0), .ref (r 1), .ref (r 2), .int (nI rc), .ref (r 3), .int (nI tl), .ref (r 4), .ref (r 5), .ref (r 6), .ref (r 7), .ref (r 8), .ref (r 9), .ref (r 10), .ref (r 11), .ref (r 12), .int (nI at9), .int (lf9), .int (pl9), .int (vl9), .int (nI fa), .int (nI rs9), .int (cs), .int (nI dn)], ai E (r 0) 892 S2, ai E (r 4) 3 B, ai E (r 5) 3 Q, ax E (r 6) 3 K, ai E (r 8) 4 La2, ai E (r 9) 4 Pa2, ai E (r 10) 4 Ra2, ai E (r 11) 4 Mo2]) := by
  refine CtI.of cX9_written 10 RX9 .int rfl (by decide) rfl (Or.inl rfl) (Nat.le_of_ble_eq_true rfl) (fun h => by cases h) ?_
  intro Γ F hret
  show G Γ E 0 0 0 [(0, .ref q), (1, .int (nI l1)), (2, .int (nI p1)), (3, .int (nI v1))] [] [ob 9 q [.ref (r 0), .ref (r 1), .ref (r 2), .int (nI rc), .ref (r 3), .int (nI tl), .ref (r 4), .ref (r 5), .ref (r 6), .ref (r 7), .ref (r 8), .ref (r 9), .ref (r 10), .ref (r 11), .ref (r 12), .int (nI at9), .int (lf9), .int (pl9), .int (vl9), .int (nI fa), .int (nI rs9), .int (cs), .int (nI dn)], ai E (r 0) 892 S, ai E (r 4) 3 B, ai E (r 5) 3 Q, ax E (r 6) 3 K, ai E (r 8) 4 La, ai E (r 9) 4 Pa, ai E (r 10) 4 Ra, ai E (r 11) 4 Mo]
  have hok := pw_ok hE
  have hz8 := hok.1
  have hgl : glC C 0 l1 = 3 := sp_gl.mp hok.2.2
  have hg0 := hW.good (v := 0) (by omega) (by omega) (by omega)
  have hg1 := hW.good (v := 1) (by omega) (by omega) (by omega)
  have hg2 := hW.good (v := 2) (by omega) (by omega) (by omega)
  obtain ⟨hb1, hb2, hb3⟩ := b_lt hok.2.1
  have hne := b_ne hb1 hb2 hb3
  have hT9 : ∀ j : Nat, wrT C l1 p1 v1 j < 65536 := wrT_lt hI hl hx hb1 hb2
  have hmi : sM C < 4 := hI.2.2.2.2.1
  refine g_iconst (v := nI 0) F dX9_written_0 (by decide) ?_
  refine g_istore (lv2 := [(4, .int (nI 0)), (0, .ref q), (1, .int (nI l1)), (2, .int (nI p1)), (3, .int (nI v1))]) F dX9_written_1 (by decide) rfl ?_
  have loop3 : ∀ (n : Nat) (i : Nat) (Lv : Nat → Nat) (Pv : Nat → Nat) (Rv : Nat → Nat), 4 - i < n → (i ≤ 4) → (∀ j : Nat, j < i → Rv j = wtC C l1 (0 * 4 + j) ∧ Pv j = wtC C l1 (1 * 4 + j) ∧ Lv j = wtC C l1 (2 * 4 + j)) → G Γ E 0 0 3 [(0, .ref q), (1, .int (nI l1)), (2, .int (nI p1)), (3, .int (nI v1)), (4, .int (nI i))] [] [ob 9 q [.ref (r 0), .ref (r 1), .ref (r 2), .int (nI rc), .ref (r 3), .int (nI tl), .ref (r 4), .ref (r 5), .ref (r 6), .ref (r 7), .ref (r 8), .ref (r 9), .ref (r 10), .ref (r 11), .ref (r 12), .int (nI at9), .int (lf9), .int (pl9), .int (vl9), .int (nI fa), .int (nI rs9), .int (cs), .int (nI dn)], ai E (r 0) 892 S, ai E (r 4) 3 B, ai E (r 5) 3 Q, ax E (r 6) 3 K, ai E (r 8) 4 Lv, ai E (r 9) 4 Pv, ai E (r 10) 4 Rv, ai E (r 11) 4 Mo] := by
    intro n
    induction n with
    | zero => intro i Lv Pv Rv hz; exact absurd hz (Nat.not_lt_zero _)
    | succ n ih3 =>
      intro i Lv Pv Rv hz3 hi hq
      refine g_iload F 4 dX9_written_3 rfl ?_
      refine g_iconst (v := nI 4) F dX9_written_5 (by decide) ?_
      refine g_icmp_geN (tgt := 90) F dX9_written_6 (by decide) (by omega) (by omega) (fun c6 => ?_) (fun c6 => ?_)
      · skip
        refine g_aiC 5 rfl (fun k => wtC C l1 (2 * 4 + k)) (by intro j hj; exact (hq j (by omega)).2.2) (w2 := [ob 9 q [.ref (r 0), .ref (r 1), .ref (r 2), .int (nI rc), .ref (r 3), .int (nI tl), .ref (r 4), .ref (r 5), .ref (r 6), .ref (r 7), .ref (r 8), .ref (r 9), .ref (r 10), .ref (r 11), .ref (r 12), .int (nI at9), .int (lf9), .int (pl9), .int (vl9), .int (nI fa), .int (nI rs9), .int (cs), .int (nI dn)], ai E (r 0) 892 S, ai E (r 4) 3 B, ai E (r 5) 3 Q, ax E (r 6) 3 K, ai E (r 8) 4 (fun k => wtC C l1 (2 * 4 + k)), ai E (r 9) 4 Pv, ai E (r 10) 4 Rv, ai E (r 11) 4 Mo]) rfl ?_
        refine g_aiC 6 rfl (fun k => wtC C l1 (1 * 4 + k)) (by intro j hj; exact (hq j (by omega)).2.1) (w2 := [ob 9 q [.ref (r 0), .ref (r 1), .ref (r 2), .int (nI rc), .ref (r 3), .int (nI tl), .ref (r 4), .ref (r 5), .ref (r 6), .ref (r 7), .ref (r 8), .ref (r 9), .ref (r 10), .ref (r 11), .ref (r 12), .int (nI at9), .int (lf9), .int (pl9), .int (vl9), .int (nI fa), .int (nI rs9), .int (cs), .int (nI dn)], ai E (r 0) 892 S, ai E (r 4) 3 B, ai E (r 5) 3 Q, ax E (r 6) 3 K, ai E (r 8) 4 (fun k => wtC C l1 (2 * 4 + k)), ai E (r 9) 4 (fun k => wtC C l1 (1 * 4 + k)), ai E (r 10) 4 Rv, ai E (r 11) 4 Mo]) rfl ?_
        refine g_aiC 7 rfl (fun k => wtC C l1 (0 * 4 + k)) (by intro j hj; exact (hq j (by omega)).1) (w2 := [ob 9 q [.ref (r 0), .ref (r 1), .ref (r 2), .int (nI rc), .ref (r 3), .int (nI tl), .ref (r 4), .ref (r 5), .ref (r 6), .ref (r 7), .ref (r 8), .ref (r 9), .ref (r 10), .ref (r 11), .ref (r 12), .int (nI at9), .int (lf9), .int (pl9), .int (vl9), .int (nI fa), .int (nI rs9), .int (cs), .int (nI dn)], ai E (r 0) 892 S, ai E (r 4) 3 B, ai E (r 5) 3 Q, ax E (r 6) 3 K, ai E (r 8) 4 (fun k => wtC C l1 (2 * 4 + k)), ai E (r 9) 4 (fun k => wtC C l1 (1 * 4 + k)), ai E (r 10) 4 (fun k => wtC C l1 (0 * 4 + k)), ai E (r 11) 4 Mo]) rfl ?_
        refine g_aload_n F 0 dX9_written_90 rfl rfl ?_
        refine g_get F 0 10 dX9_written_91 rfl rfl (by decide) (by decide +kernel) (by decide +kernel) rfl ?_
        refine g_iload_n F 2 dX9_written_94 rfl rfl ?_
        refine g_iald F 5 dX9_written_95 rfl (by omega) (by decide) ?_
        refine g_top (nI ((fun k => wtC C l1 (2 * 4 + k)) p1)) (nI (wtC C l1 (2 * 4 + p1))) (by rfl) ?_
        refine g_istore (lv2 := [(4, .int (nI (wtC C l1 (2 * 4 + p1)))), (0, .ref q), (1, .int (nI l1)), (2, .int (nI p1)), (3, .int (nI v1))]) F dX9_written_96 (by decide) rfl ?_
        refine g_aload_n F 1 dX9_written_98 rfl rfl ?_
        refine g_get F 0 0 dX9_written_99 rfl rfl (by decide) (by decide +kernel) (by decide +kernel) rfl ?_
        refine g_sipush (v := nI 866) F dX9_written_102 (by decide) ?_
        refine g_iald F 1 dX9_written_105 rfl (by omega) (by decide) ?_
        refine g_top (nI (S 866)) (nI (sM C)) (by rw [hR.2.2.2.2.1]) ?_
        refine g_istore (lv2 := [(5, .int (nI (sM C))), (4, .int (nI (wtC C l1 (2 * 4 + p1)))), (0, .ref q), (1, .int (nI l1)), (2, .int (nI p1)), (3, .int (nI v1))]) F dX9_written_106 (by decide) rfl ?_
        refine g_aload_n F 2 dX9_written_108 rfl rfl ?_
        refine g_get F 0 10 dX9_written_109 rfl rfl (by decide) (by decide +kernel) (by decide +kernel) rfl ?_
        refine g_iload_n F 4 dX9_written_112 rfl rfl ?_
        refine g_iload_n F 5 dX9_written_113 rfl rfl ?_
        refine g_iast F 5 dX9_written_114 rfl (by omega) (by decide) (w2 := [ob 9 q [.ref (r 0), .ref (r 1), .ref (r 2), .int (nI rc), .ref (r 3), .int (nI tl), .ref (r 4), .ref (r 5), .ref (r 6), .ref (r 7), .ref (r 8), .ref (r 9), .ref (r 10), .ref (r 11), .ref (r 12), .int (nI at9), .int (lf9), .int (pl9), .int (vl9), .int (nI fa), .int (nI rs9), .int (cs), .int (nI dn)], ai E (r 0) 892 S, ai E (r 4) 3 B, ai E (r 5) 3 Q, ax E (r 6) 3 K, ai E (r 8) 4 (up (fun k => wtC C l1 (2 * 4 + k)) p1 v1), ai E (r 9) 4 (fun k => wtC C l1 (1 * 4 + k)), ai E (r 10) 4 (fun k => wtC C l1 (0 * 4 + k)), ai E (r 11) 4 Mo]) rfl ?_
        refine g_aiC 5 rfl (fun k => wrT C l1 p1 v1 (2 * 4 + k)) (by intro j hj; exact wrT_2 hl hj) (w2 := [ob 9 q [.ref (r 0), .ref (r 1), .ref (r 2), .int (nI rc), .ref (r 3), .int (nI tl), .ref (r 4), .ref (r 5), .ref (r 6), .ref (r 7), .ref (r 8), .ref (r 9), .ref (r 10), .ref (r 11), .ref (r 12), .int (nI at9), .int (lf9), .int (pl9), .int (vl9), .int (nI fa), .int (nI rs9), .int (cs), .int (nI dn)], ai E (r 0) 892 S, ai E (r 4) 3 B, ai E (r 5) 3 Q, ax E (r 6) 3 K, ai E (r 8) 4 (fun k => wrT C l1 p1 v1 (2 * 4 + k)), ai E (r 9) 4 (fun k => wtC C l1 (1 * 4 + k)), ai E (r 10) 4 (fun k => wtC C l1 (0 * 4 + k)), ai E (r 11) 4 Mo]) rfl ?_
        refine g_aload_n F 2 dX9_written_115 rfl rfl ?_
        refine g_callViW (n := 0) F [0, 1] (c_X9_newBlock l E q r rc tl at9 lf9 pl9 vl9 fa rs9 cs dn S C (by assumption) (by assumption) (by exact hb1)) dX9_written_116 rfl (by decide) rfl rfl rfl (Nat.le_of_ble_eq_true rfl) ⟨Nat.le_of_ble_eq_true rfl, Nat.le_of_ble_eq_true rfl⟩ rfl rfl ⟨Nat.le_of_ble_eq_true rfl, Nat.le_of_ble_eq_true rfl⟩ 0 rfl rfl gX9_written_X9_newBlock (by decide +kernel) (fun r u hp => by obtain ⟨_, -, -, rfl⟩ := hp; rfl) ?_
        rintro r_116 u_116 ⟨S2_116, hR2_116, rfl, rfl⟩
        refine g_ws (w2 := [ob 9 q [.ref (r 0), .ref (r 1), .ref (r 2), .int (nI rc), .ref (r 3), .int (nI tl), .ref (r 4), .ref (r 5), .ref (r 6), .ref (r 7), .ref (r 8), .ref (r 9), .ref (r 10), .ref (r 11), .ref (r 12), .int (nI at9), .int (lf9), .int (pl9), .int (vl9), .int (nI fa), .int (nI rs9), .int (cs), .int (nI dn)], ai E (r 0) 892 S2_116, ai E (r 4) 3 B, ai E (r 5) 3 Q, ax E (r 6) 3 K, ai E (r 8) 4 (fun k => wrT C l1 p1 v1 (2 * 4 + k)), ai E (r 9) 4 (fun k => wtC C l1 (1 * 4 + k)), ai E (r 10) 4 (fun k => wtC C l1 (0 * 4 + k)), ai E (r 11) 4 Mo]) rfl ?_
        refine g_top (nI (ff (sU C) 96)) (nI (b1 C)) (by rfl) ?_
        refine g_istore (lv2 := [(6, .int (nI (b1 C))), (5, .int (nI (sM C))), (4, .int (nI (wtC C l1 (2 * 4 + p1)))), (0, .ref q), (1, .int (nI l1)), (2, .int (nI p1)), (3, .int (nI v1))]) F dX9_written_119 (by decide) rfl ?_
        refine g_aload_n F 3 dX9_written_121 rfl rfl ?_
        refine g_iload F 0 dX9_written_122 rfl ?_
        refine g_callVvW (n := 1) F [0, 1, 8] (c_X9_remembers l E q r rc tl at9 lf9 pl9 vl9 fa rs9 cs dn S2_116 (uS C (up (sU C) (b1 C) 1)) Mo (b1 C) (by exact hR2_116) (by exact hb1)) dX9_written_124 rfl (by decide) rfl rfl rfl (Nat.le_of_ble_eq_true rfl) ⟨Nat.le_of_ble_eq_true rfl, Nat.le_of_ble_eq_true rfl⟩ rfl rfl ⟨Nat.le_of_ble_eq_true rfl, Nat.le_of_ble_eq_true rfl⟩ 0 rfl rfl gX9_written_X9_remembers (by decide +kernel) (fun u hp => by obtain ⟨_, -, rfl⟩ := hp; rfl) ?_
        rintro u_124 ⟨M2_124, hM2_124, rfl⟩
        refine g_ws (w2 := [ob 9 q [.ref (r 0), .ref (r 1), .ref (r 2), .int (nI rc), .ref (r 3), .int (nI tl), .ref (r 4), .ref (r 5), .ref (r 6), .ref (r 7), .ref (r 8), .ref (r 9), .ref (r 10), .ref (r 11), .ref (r 12), .int (nI at9), .int (lf9), .int (pl9), .int (vl9), .int (nI fa), .int (nI rs9), .int (cs), .int (nI dn)], ai E (r 0) 892 S2_116, ai E (r 4) 3 B, ai E (r 5) 3 Q, ax E (r 6) 3 K, ai E (r 8) 4 (fun k => wrT C l1 p1 v1 (2 * 4 + k)), ai E (r 9) 4 (fun k => wtC C l1 (1 * 4 + k)), ai E (r 10) 4 (fun k => wtC C l1 (0 * 4 + k)), ai E (r 11) 4 M2_124]) rfl ?_
        refine g_aload_n F 3 dX9_written_127 rfl rfl ?_
        refine g_iload F 0 dX9_written_128 rfl ?_
        refine g_aload_n F 3 dX9_written_130 rfl rfl ?_
        refine g_get F 0 10 dX9_written_131 rfl rfl (by decide) (by decide +kernel) (by decide +kernel) rfl ?_
        refine g_callVvW (n := 2) F [0, 1, 5] (c_X9_lays l E q r rc tl at9 lf9 pl9 vl9 fa rs9 cs dn S2_116 (uS C (up (sU C) (b1 C) 1)) (r 8) (fun k => wrT C l1 p1 v1 (2 * 4 + k)) (wrT C l1 p1 v1) 2 (b1 C) (by exact hR2_116) (by exact hb1) (by exact fun _ _ => rfl)) dX9_written_134 rfl (by decide) rfl rfl rfl (Nat.le_of_ble_eq_true rfl) ⟨Nat.le_of_ble_eq_true rfl, Nat.le_of_ble_eq_true rfl⟩ rfl rfl ⟨Nat.le_of_ble_eq_true rfl, Nat.le_of_ble_eq_true rfl⟩ 0 rfl rfl gX9_written_X9_lays (by decide +kernel) (fun u hp => by obtain ⟨_, -, rfl⟩ := hp; rfl) ?_
        rintro u_134 ⟨S2_134, hR2_134, rfl⟩
        refine g_ws (w2 := [ob 9 q [.ref (r 0), .ref (r 1), .ref (r 2), .int (nI rc), .ref (r 3), .int (nI tl), .ref (r 4), .ref (r 5), .ref (r 6), .ref (r 7), .ref (r 8), .ref (r 9), .ref (r 10), .ref (r 11), .ref (r 12), .int (nI at9), .int (lf9), .int (pl9), .int (vl9), .int (nI fa), .int (nI rs9), .int (cs), .int (nI dn)], ai E (r 0) 892 S2_134, ai E (r 4) 3 B, ai E (r 5) 3 Q, ax E (r 6) 3 K, ai E (r 8) 4 (fun k => wrT C l1 p1 v1 (2 * 4 + k)), ai E (r 9) 4 (fun k => wtC C l1 (1 * 4 + k)), ai E (r 10) 4 (fun k => wtC C l1 (0 * 4 + k)), ai E (r 11) 4 M2_124]) rfl ?_
        refine g_iload F 1 dX9_written_137 rfl ?_
        refine g_iconst (v := nI 1) F dX9_written_139 (by decide) ?_
        refine g_icmp_neN (tgt := 150) F dX9_written_140 (by decide) (by omega) (by omega) (fun c140 => ?_) (fun c140 => ?_)
        · skip
          refine g_aload_n F 3 dX9_written_150 rfl rfl ?_
          refine g_get F 0 11 dX9_written_151 rfl rfl (by decide) (by decide +kernel) (by decide +kernel) rfl ?_
          refine g_iload_n F 4 dX9_written_154 rfl rfl ?_
          refine g_iconst (v := nI 4) F dX9_written_155 (by decide) ?_
          refine g_iremN F dX9_written_156 (by omega) (by decide) (by decide) ?_
          refine g_sipush (v := nI 256) F dX9_written_157 (by decide) ?_
          refine g_iload F 0 dX9_written_160 rfl ?_
          refine g_imulN F dX9_written_162 ?_
          refine g_aload_n F 3 dX9_written_163 rfl rfl ?_
          refine g_get F 0 10 dX9_written_164 rfl rfl (by decide) (by decide +kernel) (by decide +kernel) rfl ?_
          refine g_callSiR (n := 1) F [5] (c_X9_sumIn l E (r 8) (fun k => wrT C l1 p1 v1 (2 * 4 + k)) (by exact fun _ _ => hT9 _)) dX9_written_167 rfl (by decide) rfl rfl rfl (Nat.le_of_ble_eq_true rfl) ⟨Nat.le_of_ble_eq_true rfl, Nat.le_of_ble_eq_true rfl⟩ rfl rfl ⟨Nat.le_of_ble_eq_true rfl, Nat.le_of_ble_eq_true rfl⟩ ggX9_written_X9_sumIn (by decide +kernel) (by decide +kernel) (by decide +kernel) (by decide +kernel) (fun r u hp => by obtain ⟨-, h⟩ := hp; exact h) ?_
          rintro r_167 u_167 ⟨rfl, -⟩
          refine g_iaddN F dX9_written_170 ?_
          refine g_iast F 6 dX9_written_171 rfl (by omega) (by decide) (w2 := [ob 9 q [.ref (r 0), .ref (r 1), .ref (r 2), .int (nI rc), .ref (r 3), .int (nI tl), .ref (r 4), .ref (r 5), .ref (r 6), .ref (r 7), .ref (r 8), .ref (r 9), .ref (r 10), .ref (r 11), .ref (r 12), .int (nI at9), .int (lf9), .int (pl9), .int (vl9), .int (nI fa), .int (nI rs9), .int (cs), .int (nI dn)], ai E (r 0) 892 S2_134, ai E (r 4) 3 B, ai E (r 5) 3 Q, ax E (r 6) 3 K, ai E (r 8) 4 (fun k => wrT C l1 p1 v1 (2 * 4 + k)), ai E (r 9) 4 (up (fun k => wtC C l1 (1 * 4 + k)) (l1 % 4) ((256 * (b1 C)) + (sm (fun k => wrT C l1 p1 v1 (2 * 4 + k)) 0))), ai E (r 10) 4 (fun k => wtC C l1 (0 * 4 + k)), ai E (r 11) 4 M2_124]) rfl ?_
          refine g_aiC 6 rfl (fun k => wrT C l1 p1 v1 (1 * 4 + k)) (by intro j hj; exact wrT_1 hl hp hj) (w2 := [ob 9 q [.ref (r 0), .ref (r 1), .ref (r 2), .int (nI rc), .ref (r 3), .int (nI tl), .ref (r 4), .ref (r 5), .ref (r 6), .ref (r 7), .ref (r 8), .ref (r 9), .ref (r 10), .ref (r 11), .ref (r 12), .int (nI at9), .int (lf9), .int (pl9), .int (vl9), .int (nI fa), .int (nI rs9), .int (cs), .int (nI dn)], ai E (r 0) 892 S2_134, ai E (r 4) 3 B, ai E (r 5) 3 Q, ax E (r 6) 3 K, ai E (r 8) 4 (fun k => wrT C l1 p1 v1 (2 * 4 + k)), ai E (r 9) 4 (fun k => wrT C l1 p1 v1 (1 * 4 + k)), ai E (r 10) 4 (fun k => wtC C l1 (0 * 4 + k)), ai E (r 11) 4 M2_124]) rfl ?_
          refine g_aload_n F 3 dX9_written_172 rfl rfl ?_
          refine g_callViW (n := 0) F [0, 1] (c_X9_newBlock l E q r rc tl at9 lf9 pl9 vl9 fa rs9 cs dn S2_134 (nS (uS C (up (sU C) (b1 C) 1)) (lyb (sN C) (b1 C) (wrT C l1 p1 v1) 2 4)) (by exact hR2_134) (by exact IC_nu hI (lyb_BN hI.1 hT9 _ _ _) (up_BU hI.2.1 (Nat.le_refl 1))) (by exact hb2)) dX9_written_173 rfl (by decide) rfl rfl rfl (Nat.le_of_ble_eq_true rfl) ⟨Nat.le_of_ble_eq_true rfl, Nat.le_of_ble_eq_true rfl⟩ rfl rfl ⟨Nat.le_of_ble_eq_true rfl, Nat.le_of_ble_eq_true rfl⟩ 0 rfl rfl gX9_written_X9_newBlock (by decide +kernel) (fun r u hp => by obtain ⟨_, -, -, rfl⟩ := hp; rfl) ?_
          rintro r_173 u_173 ⟨S2_173, hR2_173, rfl, rfl⟩
          refine g_ws (w2 := [ob 9 q [.ref (r 0), .ref (r 1), .ref (r 2), .int (nI rc), .ref (r 3), .int (nI tl), .ref (r 4), .ref (r 5), .ref (r 6), .ref (r 7), .ref (r 8), .ref (r 9), .ref (r 10), .ref (r 11), .ref (r 12), .int (nI at9), .int (lf9), .int (pl9), .int (vl9), .int (nI fa), .int (nI rs9), .int (cs), .int (nI dn)], ai E (r 0) 892 S2_173, ai E (r 4) 3 B, ai E (r 5) 3 Q, ax E (r 6) 3 K, ai E (r 8) 4 (fun k => wrT C l1 p1 v1 (2 * 4 + k)), ai E (r 9) 4 (fun k => wrT C l1 p1 v1 (1 * 4 + k)), ai E (r 10) 4 (fun k => wtC C l1 (0 * 4 + k)), ai E (r 11) 4 M2_124]) rfl ?_
          refine g_top (nI (ff (sU (nS (uS C (up (sU C) (b1 C) 1)) (lyb (sN C) (b1 C) (wrT C l1 p1 v1) 2 4))) 96)) (nI (b2 C)) (by rfl) ?_
          refine g_istore (lv2 := [(7, .int (nI (b2 C))), (6, .int (nI (b1 C))), (5, .int (nI (sM C))), (4, .int (nI (wtC C l1 (2 * 4 + p1)))), (0, .ref q), (1, .int (nI l1)), (2, .int (nI p1)), (3, .int (nI v1))]) F dX9_written_176 (by decide) rfl ?_
          refine g_aload_n F 4 dX9_written_178 rfl rfl ?_
          refine g_iload F 0 dX9_written_179 rfl ?_
          refine g_callVvW (n := 1) F [0, 1, 8] (c_X9_remembers l E q r rc tl at9 lf9 pl9 vl9 fa rs9 cs dn S2_173 (nS (uS C (up (up (sU C) (b1 C) 1) (b2 C) 1)) (lyb (sN C) (b1 C) (wrT C l1 p1 v1) 2 4)) M2_124 (b2 C) (by exact hR2_173) (by exact hb2)) dX9_written_181 rfl (by decide) rfl rfl rfl (Nat.le_of_ble_eq_true rfl) ⟨Nat.le_of_ble_eq_true rfl, Nat.le_of_ble_eq_true rfl⟩ rfl rfl ⟨Nat.le_of_ble_eq_true rfl, Nat.le_of_ble_eq_true rfl⟩ 0 rfl rfl gX9_written_X9_remembers (by decide +kernel) (fun u hp => by obtain ⟨_, -, rfl⟩ := hp; rfl) ?_
          rintro u_181 ⟨M2_181, hM2_181, rfl⟩
          refine g_ws (w2 := [ob 9 q [.ref (r 0), .ref (r 1), .ref (r 2), .int (nI rc), .ref (r 3), .int (nI tl), .ref (r 4), .ref (r 5), .ref (r 6), .ref (r 7), .ref (r 8), .ref (r 9), .ref (r 10), .ref (r 11), .ref (r 12), .int (nI at9), .int (lf9), .int (pl9), .int (vl9), .int (nI fa), .int (nI rs9), .int (cs), .int (nI dn)], ai E (r 0) 892 S2_173, ai E (r 4) 3 B, ai E (r 5) 3 Q, ax E (r 6) 3 K, ai E (r 8) 4 (fun k => wrT C l1 p1 v1 (2 * 4 + k)), ai E (r 9) 4 (fun k => wrT C l1 p1 v1 (1 * 4 + k)), ai E (r 10) 4 (fun k => wtC C l1 (0 * 4 + k)), ai E (r 11) 4 M2_181]) rfl ?_
          refine g_aload_n F 4 dX9_written_184 rfl rfl ?_
          refine g_iload F 0 dX9_written_185 rfl ?_
          refine g_aload_n F 4 dX9_written_187 rfl rfl ?_
          refine g_get F 0 11 dX9_written_188 rfl rfl (by decide) (by decide +kernel) (by decide +kernel) rfl ?_
          refine g_callVvW (n := 2) F [0, 1, 6] (c_X9_lays l E q r rc tl at9 lf9 pl9 vl9 fa rs9 cs dn S2_173 (nS (uS C (up (up (sU C) (b1 C) 1) (b2 C) 1)) (lyb (sN C) (b1 C) (wrT C l1 p1 v1) 2 4)) (r 9) (fun k => wrT C l1 p1 v1 (1 * 4 + k)) (wrT C l1 p1 v1) 1 (b2 C) (by exact hR2_173) (by exact hb2) (by exact fun _ _ => rfl)) dX9_written_191 rfl (by decide) rfl rfl rfl (Nat.le_of_ble_eq_true rfl) ⟨Nat.le_of_ble_eq_true rfl, Nat.le_of_ble_eq_true rfl⟩ rfl rfl ⟨Nat.le_of_ble_eq_true rfl, Nat.le_of_ble_eq_true rfl⟩ 0 rfl rfl gX9_written_X9_lays (by decide +kernel) (fun u hp => by obtain ⟨_, -, rfl⟩ := hp; rfl) ?_
          rintro u_191 ⟨S2_191, hR2_191, rfl⟩
          refine g_ws (w2 := [ob 9 q [.ref (r 0), .ref (r 1), .ref (r 2), .int (nI rc), .ref (r 3), .int (nI tl), .ref (r 4), .ref (r 5), .ref (r 6), .ref (r 7), .ref (r 8), .ref (r 9), .ref (r 10), .ref (r 11), .ref (r 12), .int (nI at9), .int (lf9), .int (pl9), .int (vl9), .int (nI fa), .int (nI rs9), .int (cs), .int (nI dn)], ai E (r 0) 892 S2_191, ai E (r 4) 3 B, ai E (r 5) 3 Q, ax E (r 6) 3 K, ai E (r 8) 4 (fun k => wrT C l1 p1 v1 (2 * 4 + k)), ai E (r 9) 4 (fun k => wrT C l1 p1 v1 (1 * 4 + k)), ai E (r 10) 4 (fun k => wtC C l1 (0 * 4 + k)), ai E (r 11) 4 M2_181]) rfl ?_
          refine g_iload F 2 dX9_written_194 rfl ?_
          refine g_iconst (v := nI 2) F dX9_written_196 (by decide) ?_
          refine g_icmp_neN (tgt := 207) F dX9_written_197 (by decide) (by omega) (by omega) (fun c197 => ?_) (fun c197 => ?_)
          · skip
            refine g_aload_n F 4 dX9_written_207 rfl rfl ?_
            refine g_get F 0 12 dX9_written_208 rfl rfl (by decide) (by decide +kernel) (by decide +kernel) rfl ?_
            refine g_iload_n F 5 dX9_written_211 rfl rfl ?_
            refine g_iconst (v := nI 4) F dX9_written_212 (by decide) ?_
            refine g_idivN F dX9_written_213 (by omega) (by decide) (by decide) ?_
            refine g_sipush (v := nI 256) F dX9_written_214 (by decide) ?_
            refine g_iload F 0 dX9_written_217 rfl ?_
            refine g_imulN F dX9_written_219 ?_
            refine g_aload_n F 4 dX9_written_220 rfl rfl ?_
            refine g_get F 0 11 dX9_written_221 rfl rfl (by decide) (by decide +kernel) (by decide +kernel) rfl ?_
            refine g_callSiR (n := 1) F [6] (c_X9_sumIn l E (r 9) (fun k => wrT C l1 p1 v1 (1 * 4 + k)) (by exact fun _ _ => hT9 _)) dX9_written_224 rfl (by decide) rfl rfl rfl (Nat.le_of_ble_eq_true rfl) ⟨Nat.le_of_ble_eq_true rfl, Nat.le_of_ble_eq_true rfl⟩ rfl rfl ⟨Nat.le_of_ble_eq_true rfl, Nat.le_of_ble_eq_true rfl⟩ ggX9_written_X9_sumIn (by decide +kernel) (by decide +kernel) (by decide +kernel) (by decide +kernel) (fun r u hp => by obtain ⟨-, h⟩ := hp; exact h) ?_
            rintro r_224 u_224 ⟨rfl, -⟩
            refine g_iaddN F dX9_written_227 ?_
            refine g_iast F 7 dX9_written_228 rfl (by omega) (by decide) (w2 := [ob 9 q [.ref (r 0), .ref (r 1), .ref (r 2), .int (nI rc), .ref (r 3), .int (nI tl), .ref (r 4), .ref (r 5), .ref (r 6), .ref (r 7), .ref (r 8), .ref (r 9), .ref (r 10), .ref (r 11), .ref (r 12), .int (nI at9), .int (lf9), .int (pl9), .int (vl9), .int (nI fa), .int (nI rs9), .int (cs), .int (nI dn)], ai E (r 0) 892 S2_191, ai E (r 4) 3 B, ai E (r 5) 3 Q, ax E (r 6) 3 K, ai E (r 8) 4 (fun k => wrT C l1 p1 v1 (2 * 4 + k)), ai E (r 9) 4 (fun k => wrT C l1 p1 v1 (1 * 4 + k)), ai E (r 10) 4 (up (fun k => wtC C l1 (0 * 4 + k)) (l1 / 4) ((256 * (b2 C)) + (sm (fun k => wrT C l1 p1 v1 (1 * 4 + k)) 0))), ai E (r 11) 4 M2_181]) rfl ?_
            refine g_aiC 7 rfl (fun k => wrT C l1 p1 v1 (0 * 4 + k)) (by intro j hj; exact wrT_0 hl hp hj) (w2 := [ob 9 q [.ref (r 0), .ref (r 1), .ref (r 2), .int (nI rc), .ref (r 3), .int (nI tl), .ref (r 4), .ref (r 5), .ref (r 6), .ref (r 7), .ref (r 8), .ref (r 9), .ref (r 10), .ref (r 11), .ref (r 12), .int (nI at9), .int (lf9), .int (pl9), .int (vl9), .int (nI fa), .int (nI rs9), .int (cs), .int (nI dn)], ai E (r 0) 892 S2_191, ai E (r 4) 3 B, ai E (r 5) 3 Q, ax E (r 6) 3 K, ai E (r 8) 4 (fun k => wrT C l1 p1 v1 (2 * 4 + k)), ai E (r 9) 4 (fun k => wrT C l1 p1 v1 (1 * 4 + k)), ai E (r 10) 4 (fun k => wrT C l1 p1 v1 (0 * 4 + k)), ai E (r 11) 4 M2_181]) rfl ?_
            refine g_aload_n F 4 dX9_written_229 rfl rfl ?_
            refine g_callViW (n := 0) F [0, 1] (c_X9_newBlock l E q r rc tl at9 lf9 pl9 vl9 fa rs9 cs dn S2_191 (nS (uS C (up (up (sU C) (b1 C) 1) (b2 C) 1)) (lyb (lyb (sN C) (b1 C) (wrT C l1 p1 v1) 2 4) (b2 C) (wrT C l1 p1 v1) 1 4)) (by exact hR2_191) (by exact IC_nu hI (lyb_BN (lyb_BN hI.1 hT9 _ _ _) hT9 _ _ _) (up_BU (up_BU hI.2.1 (Nat.le_refl 1)) (Nat.le_refl 1))) (by exact hb3)) dX9_written_230 rfl (by decide) rfl rfl rfl (Nat.le_of_ble_eq_true rfl) ⟨Nat.le_of_ble_eq_true rfl, Nat.le_of_ble_eq_true rfl⟩ rfl rfl ⟨Nat.le_of_ble_eq_true rfl, Nat.le_of_ble_eq_true rfl⟩ 0 rfl rfl gX9_written_X9_newBlock (by decide +kernel) (fun r u hp => by obtain ⟨_, -, -, rfl⟩ := hp; rfl) ?_
            rintro r_230 u_230 ⟨S2_230, hR2_230, rfl, rfl⟩
            refine g_ws (w2 := [ob 9 q [.ref (r 0), .ref (r 1), .ref (r 2), .int (nI rc), .ref (r 3), .int (nI tl), .ref (r 4), .ref (r 5), .ref (r 6), .ref (r 7), .ref (r 8), .ref (r 9), .ref (r 10), .ref (r 11), .ref (r 12), .int (nI at9), .int (lf9), .int (pl9), .int (vl9), .int (nI fa), .int (nI rs9), .int (cs), .int (nI dn)], ai E (r 0) 892 S2_230, ai E (r 4) 3 B, ai E (r 5) 3 Q, ax E (r 6) 3 K, ai E (r 8) 4 (fun k => wrT C l1 p1 v1 (2 * 4 + k)), ai E (r 9) 4 (fun k => wrT C l1 p1 v1 (1 * 4 + k)), ai E (r 10) 4 (fun k => wrT C l1 p1 v1 (0 * 4 + k)), ai E (r 11) 4 M2_181]) rfl ?_
            refine g_top (nI (ff (sU (nS (uS C (up (up (sU C) (b1 C) 1) (b2 C) 1)) (lyb (lyb (sN C) (b1 C) (wrT C l1 p1 v1) 2 4) (b2 C) (wrT C l1 p1 v1) 1 4))) 96)) (nI (b3 C)) (by rfl) ?_
            refine g_istore (lv2 := [(8, .int (nI (b3 C))), (7, .int (nI (b2 C))), (6, .int (nI (b1 C))), (5, .int (nI (sM C))), (4, .int (nI (wtC C l1 (2 * 4 + p1)))), (0, .ref q), (1, .int (nI l1)), (2, .int (nI p1)), (3, .int (nI v1))]) F dX9_written_233 (by decide) rfl ?_
            refine g_aload_n F 5 dX9_written_235 rfl rfl ?_
            refine g_iload F 0 dX9_written_236 rfl ?_
            refine g_aload_n F 5 dX9_written_238 rfl rfl ?_
            refine g_get F 0 12 dX9_written_239 rfl rfl (by decide) (by decide +kernel) (by decide +kernel) rfl ?_
            refine g_callVvW (n := 2) F [0, 1, 7] (c_X9_lays l E q r rc tl at9 lf9 pl9 vl9 fa rs9 cs dn S2_230 (nS (uS C (up (up (up (sU C) (b1 C) 1) (b2 C) 1) (b3 C) 1)) (lyb (lyb (sN C) (b1 C) (wrT C l1 p1 v1) 2 4) (b2 C) (wrT C l1 p1 v1) 1 4)) (r 10) (fun k => wrT C l1 p1 v1 (0 * 4 + k)) (wrT C l1 p1 v1) 0 (b3 C) (by exact hR2_230) (by exact hb3) (by exact fun _ _ => rfl)) dX9_written_242 rfl (by decide) rfl rfl rfl (Nat.le_of_ble_eq_true rfl) ⟨Nat.le_of_ble_eq_true rfl, Nat.le_of_ble_eq_true rfl⟩ rfl rfl ⟨Nat.le_of_ble_eq_true rfl, Nat.le_of_ble_eq_true rfl⟩ 0 rfl rfl gX9_written_X9_lays (by decide +kernel) (fun u hp => by obtain ⟨_, -, rfl⟩ := hp; rfl) ?_
            rintro u_242 ⟨S2_242, hR2_242, rfl⟩
            refine g_ws (w2 := [ob 9 q [.ref (r 0), .ref (r 1), .ref (r 2), .int (nI rc), .ref (r 3), .int (nI tl), .ref (r 4), .ref (r 5), .ref (r 6), .ref (r 7), .ref (r 8), .ref (r 9), .ref (r 10), .ref (r 11), .ref (r 12), .int (nI at9), .int (lf9), .int (pl9), .int (vl9), .int (nI fa), .int (nI rs9), .int (cs), .int (nI dn)], ai E (r 0) 892 S2_242, ai E (r 4) 3 B, ai E (r 5) 3 Q, ax E (r 6) 3 K, ai E (r 8) 4 (fun k => wrT C l1 p1 v1 (2 * 4 + k)), ai E (r 9) 4 (fun k => wrT C l1 p1 v1 (1 * 4 + k)), ai E (r 10) 4 (fun k => wrT C l1 p1 v1 (0 * 4 + k)), ai E (r 11) 4 M2_181]) rfl ?_
            refine g_iconst (v := nI 0) F dX9_written_245 (by decide) ?_
            refine g_istore (lv2 := [(9, .int (nI 0)), (8, .int (nI (b3 C))), (7, .int (nI (b2 C))), (6, .int (nI (b1 C))), (5, .int (nI (sM C))), (4, .int (nI (wtC C l1 (2 * 4 + p1)))), (0, .ref q), (1, .int (nI l1)), (2, .int (nI p1)), (3, .int (nI v1))]) F dX9_written_246 (by decide) rfl ?_
            have loop248 : ∀ (n : Nat) (i : Nat) (Sv : Nat → Nat), 4 - i < n → (i ≤ 4) → (sM C = 3 ∨ i = 0) → (Rel Sv (nS (uS C (up (up (up (sU C) (b1 C) 1) (b2 C) 1) (b3 C) 1)) (swp (lyb (lyb (lyb (sN C) (b1 C) (wrT C l1 p1 v1) 2 4) (b2 C) (wrT C l1 p1 v1) 1 4) (b3 C) (wrT C l1 p1 v1) 0 4) (b1 C) (b2 C) (wrT C l1 p1 v1) i))) → G Γ E 0 0 248 [(0, .ref q), (1, .int (nI l1)), (2, .int (nI p1)), (3, .int (nI v1)), (4, .int (nI (wtC C l1 (2 * 4 + p1)))), (5, .int (nI (sM C))), (6, .int (nI (b1 C))), (7, .int (nI (b2 C))), (8, .int (nI (b3 C))), (9, .int (nI i))] [] [ob 9 q [.ref (r 0), .ref (r 1), .ref (r 2), .int (nI rc), .ref (r 3), .int (nI tl), .ref (r 4), .ref (r 5), .ref (r 6), .ref (r 7), .ref (r 8), .ref (r 9), .ref (r 10), .ref (r 11), .ref (r 12), .int (nI at9), .int (lf9), .int (pl9), .int (vl9), .int (nI fa), .int (nI rs9), .int (cs), .int (nI dn)], ai E (r 0) 892 Sv, ai E (r 4) 3 B, ai E (r 5) 3 Q, ax E (r 6) 3 K, ai E (r 8) 4 (fun k => wrT C l1 p1 v1 (2 * 4 + k)), ai E (r 9) 4 (fun k => wrT C l1 p1 v1 (1 * 4 + k)), ai E (r 10) 4 (fun k => wrT C l1 p1 v1 (0 * 4 + k)), ai E (r 11) 4 M2_181] := by
              intro n
              induction n with
              | zero => intro i Sv hz; exact absurd hz (Nat.not_lt_zero _)
              | succ n ih248 =>
                intro i Sv hz248 hi hz3 hS
                refine g_iload F 9 dX9_written_248 rfl ?_
                refine g_iconst (v := nI 4) F dX9_written_250 (by decide) ?_
                refine g_icmp_geN (tgt := 298) F dX9_written_251 (by decide) (by omega) (by omega) (fun c251 => ?_) (fun c251 => ?_)
                · skip
                  have h39 : i = 4 := by omega
                  refine g_sipush (v := nI 868) F dX9_written_298 (by decide) ?_
                  refine g_iconst (v := nI 3) F dX9_written_301 (by decide) ?_
                  refine g_aload_n F 0 dX9_written_302 rfl rfl ?_
                  refine g_get F 0 0 dX9_written_303 rfl rfl (by decide) (by decide +kernel) (by decide +kernel) rfl ?_
                  refine g_sipush (v := nI 864) F dX9_written_306 (by decide) ?_
                  refine g_iald F 1 dX9_written_309 rfl (by omega) (by decide) ?_
                  refine g_top (nI (Sv 864)) (nI (sZ C)) (by rw [hS.2.2.1]; rfl) ?_
                  refine g_imulN F dX9_written_310 ?_
                  refine g_iaddN F dX9_written_311 ?_
                  refine g_iconst (v := nI 2) F dX9_written_312 (by decide) ?_
                  refine g_iaddN F dX9_written_313 ?_
                  refine g_istore (lv2 := [(9, .int (nI ((868 + (3 * (sZ C))) + 2))), (0, .ref q), (1, .int (nI l1)), (2, .int (nI p1)), (3, .int (nI v1)), (4, .int (nI (wtC C l1 (2 * 4 + p1)))), (5, .int (nI (sM C))), (6, .int (nI (b1 C))), (7, .int (nI (b2 C))), (8, .int (nI (b3 C)))]) F dX9_written_314 (by decide) rfl ?_
                  have loop316 : ∀ (n : Nat) (k : Nat), k < n → (870 ≤ k ∧ k ≤ 870 + 3 * sZ C) → G Γ E 0 0 316 [(0, .ref q), (1, .int (nI l1)), (2, .int (nI p1)), (3, .int (nI v1)), (4, .int (nI (wtC C l1 (2 * 4 + p1)))), (5, .int (nI (sM C))), (6, .int (nI (b1 C))), (7, .int (nI (b2 C))), (8, .int (nI (b3 C))), (9, .int (nI k))] [] [ob 9 q [.ref (r 0), .ref (r 1), .ref (r 2), .int (nI rc), .ref (r 3), .int (nI tl), .ref (r 4), .ref (r 5), .ref (r 6), .ref (r 7), .ref (r 8), .ref (r 9), .ref (r 10), .ref (r 11), .ref (r 12), .int (nI at9), .int (lf9), .int (pl9), .int (vl9), .int (nI fa), .int (nI rs9), .int (cs), .int (nI dn)], ai E (r 0) 892 (shf Sv k (sZ C)), ai E (r 4) 3 B, ai E (r 5) 3 Q, ax E (r 6) 3 K, ai E (r 8) 4 (fun k => wrT C l1 p1 v1 (2 * 4 + k)), ai E (r 9) 4 (fun k => wrT C l1 p1 v1 (1 * 4 + k)), ai E (r 10) 4 (fun k => wrT C l1 p1 v1 (0 * 4 + k)), ai E (r 11) 4 M2_181] := by
                    intro n
                    induction n with
                    | zero => intro k hz; exact absurd hz (Nat.not_lt_zero _)
                    | succ n ih316 =>
                      intro k hz316 hk
                      refine g_iload F 9 dX9_written_316 rfl ?_
                      refine g_sipush (v := nI 871) F dX9_written_318 (by decide) ?_
                      refine g_icmp_ltN (tgt := 346) F dX9_written_321 (by decide) (by omega) (by omega) (fun c321 => ?_) (fun c321 => ?_)
                      · skip
                        refine g_aiC 1 rfl (shf Sv 870 (sZ C)) (by intro j hj; rw [show k = 870 by omega]) (w2 := [ob 9 q [.ref (r 0), .ref (r 1), .ref (r 2), .int (nI rc), .ref (r 3), .int (nI tl), .ref (r 4), .ref (r 5), .ref (r 6), .ref (r 7), .ref (r 8), .ref (r 9), .ref (r 10), .ref (r 11), .ref (r 12), .int (nI at9), .int (lf9), .int (pl9), .int (vl9), .int (nI fa), .int (nI rs9), .int (cs), .int (nI dn)], ai E (r 0) 892 (shf Sv 870 (sZ C)), ai E (r 4) 3 B, ai E (r 5) 3 Q, ax E (r 6) 3 K, ai E (r 8) 4 (fun k => wrT C l1 p1 v1 (2 * 4 + k)), ai E (r 9) 4 (fun k => wrT C l1 p1 v1 (1 * 4 + k)), ai E (r 10) 4 (fun k => wrT C l1 p1 v1 (0 * 4 + k)), ai E (r 11) 4 M2_181]) rfl ?_
                        refine g_aload_n F 0 dX9_written_346 rfl rfl ?_
                        refine g_get F 0 0 dX9_written_347 rfl rfl (by decide) (by decide +kernel) (by decide +kernel) rfl ?_
                        refine g_sipush (v := nI 868) F dX9_written_350 (by decide) ?_
                        refine g_aload_n F 0 dX9_written_353 rfl rfl ?_
                        refine g_get F 0 0 dX9_written_354 rfl rfl (by decide) (by decide +kernel) (by decide +kernel) rfl ?_
                        refine g_sipush (v := nI 865) F dX9_written_357 (by decide) ?_
                        refine g_iald F 1 dX9_written_360 rfl (by omega) (by decide) ?_
                        refine g_top (nI ((shf Sv 870 (sZ C)) 865)) (nI (sW C + 1)) (by rw [shf_lo (by decide), hS.2.2.2.1]; rfl) ?_
                        refine g_iast F 1 dX9_written_361 rfl (by omega) (by decide) (w2 := [ob 9 q [.ref (r 0), .ref (r 1), .ref (r 2), .int (nI rc), .ref (r 3), .int (nI tl), .ref (r 4), .ref (r 5), .ref (r 6), .ref (r 7), .ref (r 8), .ref (r 9), .ref (r 10), .ref (r 11), .ref (r 12), .int (nI at9), .int (lf9), .int (pl9), .int (vl9), .int (nI fa), .int (nI rs9), .int (cs), .int (nI dn)], ai E (r 0) 892 (up (shf Sv 870 (sZ C)) 868 (sW C + 1)), ai E (r 4) 3 B, ai E (r 5) 3 Q, ax E (r 6) 3 K, ai E (r 8) 4 (fun k => wrT C l1 p1 v1 (2 * 4 + k)), ai E (r 9) 4 (fun k => wrT C l1 p1 v1 (1 * 4 + k)), ai E (r 10) 4 (fun k => wrT C l1 p1 v1 (0 * 4 + k)), ai E (r 11) 4 M2_181]) rfl ?_
                        refine g_aload_n F 0 dX9_written_362 rfl rfl ?_
                        refine g_get F 0 0 dX9_written_363 rfl rfl (by decide) (by decide +kernel) (by decide +kernel) rfl ?_
                        refine g_sipush (v := nI 869) F dX9_written_366 (by decide) ?_
                        refine g_iload F 8 dX9_written_369 rfl ?_
                        refine g_iast F 1 dX9_written_371 rfl (by omega) (by decide) (w2 := [ob 9 q [.ref (r 0), .ref (r 1), .ref (r 2), .int (nI rc), .ref (r 3), .int (nI tl), .ref (r 4), .ref (r 5), .ref (r 6), .ref (r 7), .ref (r 8), .ref (r 9), .ref (r 10), .ref (r 11), .ref (r 12), .int (nI at9), .int (lf9), .int (pl9), .int (vl9), .int (nI fa), .int (nI rs9), .int (cs), .int (nI dn)], ai E (r 0) 892 (up (up (shf Sv 870 (sZ C)) 868 (sW C + 1)) 869 (b3 C)), ai E (r 4) 3 B, ai E (r 5) 3 Q, ax E (r 6) 3 K, ai E (r 8) 4 (fun k => wrT C l1 p1 v1 (2 * 4 + k)), ai E (r 9) 4 (fun k => wrT C l1 p1 v1 (1 * 4 + k)), ai E (r 10) 4 (fun k => wrT C l1 p1 v1 (0 * 4 + k)), ai E (r 11) 4 M2_181]) rfl ?_
                        refine g_aload_n F 0 dX9_written_372 rfl rfl ?_
                        refine g_get F 0 0 dX9_written_373 rfl rfl (by decide) (by decide +kernel) (by decide +kernel) rfl ?_
                        refine g_sipush (v := nI 870) F dX9_written_376 (by decide) ?_
                        refine g_aload_n F 0 dX9_written_379 rfl rfl ?_
                        refine g_get F 0 12 dX9_written_380 rfl rfl (by decide) (by decide +kernel) (by decide +kernel) rfl ?_
                        refine g_callSiR (n := 1) F [7] (c_X9_sumIn l E (r 10) (fun k => wrT C l1 p1 v1 (0 * 4 + k)) (by exact fun _ _ => hT9 _)) dX9_written_383 rfl (by decide) rfl rfl rfl (Nat.le_of_ble_eq_true rfl) ⟨Nat.le_of_ble_eq_true rfl, Nat.le_of_ble_eq_true rfl⟩ rfl rfl ⟨Nat.le_of_ble_eq_true rfl, Nat.le_of_ble_eq_true rfl⟩ ggX9_written_X9_sumIn (by decide +kernel) (by decide +kernel) (by decide +kernel) (by decide +kernel) (fun r u hp => by obtain ⟨-, h⟩ := hp; exact h) ?_
                        rintro r_383 u_383 ⟨rfl, -⟩
                        refine g_iast F 1 dX9_written_386 rfl (by omega) (by decide) (w2 := [ob 9 q [.ref (r 0), .ref (r 1), .ref (r 2), .int (nI rc), .ref (r 3), .int (nI tl), .ref (r 4), .ref (r 5), .ref (r 6), .ref (r 7), .ref (r 8), .ref (r 9), .ref (r 10), .ref (r 11), .ref (r 12), .int (nI at9), .int (lf9), .int (pl9), .int (vl9), .int (nI fa), .int (nI rs9), .int (cs), .int (nI dn)], ai E (r 0) 892 (up (up (up (shf Sv 870 (sZ C)) 868 (sW C + 1)) 869 (b3 C)) 870 (sm (fun k => wrT C l1 p1 v1 (0 * 4 + k)) 0)), ai E (r 4) 3 B, ai E (r 5) 3 Q, ax E (r 6) 3 K, ai E (r 8) 4 (fun k => wrT C l1 p1 v1 (2 * 4 + k)), ai E (r 9) 4 (fun k => wrT C l1 p1 v1 (1 * 4 + k)), ai E (r 10) 4 (fun k => wrT C l1 p1 v1 (0 * 4 + k)), ai E (r 11) 4 M2_181]) rfl ?_
                        refine g_aload_n F 0 dX9_written_387 rfl rfl ?_
                        refine g_get F 0 0 dX9_written_388 rfl rfl (by decide) (by decide +kernel) (by decide +kernel) rfl ?_
                        refine g_sipush (v := nI 864) F dX9_written_391 (by decide) ?_
                        refine g_dup2 F dX9_written_394 rfl rfl ?_
                        refine g_iald F 1 dX9_written_395 rfl (by omega) (by decide) ?_
                        refine g_top (nI ((up (up (up (shf Sv 870 (sZ C)) 868 (sW C + 1)) 869 (b3 C)) 870 (sm (fun k => wrT C l1 p1 v1 (0 * 4 + k)) 0)) 864)) (nI (sZ C)) (by rw [up_n _ _ (by decide), up_n _ _ (by decide), up_n _ _ (by decide), shf_lo (by decide), hS.2.2.1]; rfl) ?_
                        refine g_iconst (v := nI 1) F dX9_written_396 (by decide) ?_
                        refine g_iaddN F dX9_written_397 ?_
                        refine g_iast F 1 dX9_written_398 rfl (by omega) (by decide) (w2 := [ob 9 q [.ref (r 0), .ref (r 1), .ref (r 2), .int (nI rc), .ref (r 3), .int (nI tl), .ref (r 4), .ref (r 5), .ref (r 6), .ref (r 7), .ref (r 8), .ref (r 9), .ref (r 10), .ref (r 11), .ref (r 12), .int (nI at9), .int (lf9), .int (pl9), .int (vl9), .int (nI fa), .int (nI rs9), .int (cs), .int (nI dn)], ai E (r 0) 892 (up (up (up (up (shf Sv 870 (sZ C)) 868 (sW C + 1)) 869 (b3 C)) 870 (sm (fun k => wrT C l1 p1 v1 (0 * 4 + k)) 0)) 864 ((sZ C) + 1)), ai E (r 4) 3 B, ai E (r 5) 3 Q, ax E (r 6) 3 K, ai E (r 8) 4 (fun k => wrT C l1 p1 v1 (2 * 4 + k)), ai E (r 9) 4 (fun k => wrT C l1 p1 v1 (1 * 4 + k)), ai E (r 10) 4 (fun k => wrT C l1 p1 v1 (0 * 4 + k)), ai E (r 11) 4 M2_181]) rfl ?_
                        refine g_aload_n F 0 dX9_written_399 rfl rfl ?_
                        refine g_get F 0 0 dX9_written_400 rfl rfl (by decide) (by decide +kernel) (by decide +kernel) rfl ?_
                        refine g_sipush (v := nI 865) F dX9_written_403 (by decide) ?_
                        refine g_dup2 F dX9_written_406 rfl rfl ?_
                        refine g_iald F 1 dX9_written_407 rfl (by omega) (by decide) ?_
                        refine g_top (nI ((up (up (up (up (shf Sv 870 (sZ C)) 868 (sW C + 1)) 869 (b3 C)) 870 (sm (fun k => wrT C l1 p1 v1 (0 * 4 + k)) 0)) 864 ((sZ C) + 1)) 865)) (nI (sW C + 1)) (by rw [up_n _ _ (by decide), up_n _ _ (by decide), up_n _ _ (by decide), up_n _ _ (by decide), shf_lo (by decide), hS.2.2.2.1]; rfl) ?_
                        refine g_iconst (v := nI 1) F dX9_written_408 (by decide) ?_
                        refine g_iaddN F dX9_written_409 ?_
                        refine g_iast F 1 dX9_written_410 rfl (by omega) (by decide) (w2 := [ob 9 q [.ref (r 0), .ref (r 1), .ref (r 2), .int (nI rc), .ref (r 3), .int (nI tl), .ref (r 4), .ref (r 5), .ref (r 6), .ref (r 7), .ref (r 8), .ref (r 9), .ref (r 10), .ref (r 11), .ref (r 12), .int (nI at9), .int (lf9), .int (pl9), .int (vl9), .int (nI fa), .int (nI rs9), .int (cs), .int (nI dn)], ai E (r 0) 892 (up (up (up (up (up (shf Sv 870 (sZ C)) 868 (sW C + 1)) 869 (b3 C)) 870 (sm (fun k => wrT C l1 p1 v1 (0 * 4 + k)) 0)) 864 ((sZ C) + 1)) 865 ((sW C + 1) + 1)), ai E (r 4) 3 B, ai E (r 5) 3 Q, ax E (r 6) 3 K, ai E (r 8) 4 (fun k => wrT C l1 p1 v1 (2 * 4 + k)), ai E (r 9) 4 (fun k => wrT C l1 p1 v1 (1 * 4 + k)), ai E (r 10) 4 (fun k => wrT C l1 p1 v1 (0 * 4 + k)), ai E (r 11) 4 M2_181]) rfl ?_
                        refine g_aload_n F 0 dX9_written_411 rfl rfl ?_
                        refine g_get F 0 0 dX9_written_412 rfl rfl (by decide) (by decide +kernel) (by decide +kernel) rfl ?_
                        refine g_sipush (v := nI 866) F dX9_written_415 (by decide) ?_
                        refine g_iconst (v := nI 0) F dX9_written_418 (by decide) ?_
                        refine g_iast F 1 dX9_written_419 rfl (by omega) (by decide) (w2 := [ob 9 q [.ref (r 0), .ref (r 1), .ref (r 2), .int (nI rc), .ref (r 3), .int (nI tl), .ref (r 4), .ref (r 5), .ref (r 6), .ref (r 7), .ref (r 8), .ref (r 9), .ref (r 10), .ref (r 11), .ref (r 12), .int (nI at9), .int (lf9), .int (pl9), .int (vl9), .int (nI fa), .int (nI rs9), .int (cs), .int (nI dn)], ai E (r 0) 892 (up (up (up (up (up (up (shf Sv 870 (sZ C)) 868 (sW C + 1)) 869 (b3 C)) 870 (sm (fun k => wrT C l1 p1 v1 (0 * 4 + k)) 0)) 864 ((sZ C) + 1)) 865 ((sW C + 1) + 1)) 866 0), ai E (r 4) 3 B, ai E (r 5) 3 Q, ax E (r 6) 3 K, ai E (r 8) 4 (fun k => wrT C l1 p1 v1 (2 * 4 + k)), ai E (r 9) 4 (fun k => wrT C l1 p1 v1 (1 * 4 + k)), ai E (r 10) 4 (fun k => wrT C l1 p1 v1 (0 * 4 + k)), ai E (r 11) 4 M2_181]) rfl ?_
                        refine g_aload_n F 0 dX9_written_420 rfl rfl ?_
                        refine g_get F 0 0 dX9_written_421 rfl rfl (by decide) (by decide +kernel) (by decide +kernel) rfl ?_
                        refine g_sipush (v := nI 867) F dX9_written_424 (by decide) ?_
                        refine g_dup2 F dX9_written_427 rfl rfl ?_
                        refine g_iald F 1 dX9_written_428 rfl (by omega) (by decide) ?_
                        refine g_top (nI ((up (up (up (up (up (up (shf Sv 870 (sZ C)) 868 (sW C + 1)) 869 (b3 C)) 870 (sm (fun k => wrT C l1 p1 v1 (0 * 4 + k)) 0)) 864 ((sZ C) + 1)) 865 ((sW C + 1) + 1)) 866 0) 867)) (nI (sW C)) (by rw [up_n _ _ (by decide), up_n _ _ (by decide), up_n _ _ (by decide), up_n _ _ (by decide), up_n _ _ (by decide), up_n _ _ (by decide), shf_lo (by decide), hS.2.2.2.2.2.1]; rfl) ?_
                        refine g_iconst (v := nI 1) F dX9_written_429 (by decide) ?_
                        refine g_iaddN F dX9_written_430 ?_
                        refine g_iast F 1 dX9_written_431 rfl (by omega) (by decide) (w2 := [ob 9 q [.ref (r 0), .ref (r 1), .ref (r 2), .int (nI rc), .ref (r 3), .int (nI tl), .ref (r 4), .ref (r 5), .ref (r 6), .ref (r 7), .ref (r 8), .ref (r 9), .ref (r 10), .ref (r 11), .ref (r 12), .int (nI at9), .int (lf9), .int (pl9), .int (vl9), .int (nI fa), .int (nI rs9), .int (cs), .int (nI dn)], ai E (r 0) 892 (up (up (up (up (up (up (up (shf Sv 870 (sZ C)) 868 (sW C + 1)) 869 (b3 C)) 870 (sm (fun k => wrT C l1 p1 v1 (0 * 4 + k)) 0)) 864 ((sZ C) + 1)) 865 ((sW C + 1) + 1)) 866 0) 867 ((sW C) + 1)), ai E (r 4) 3 B, ai E (r 5) 3 Q, ax E (r 6) 3 K, ai E (r 8) 4 (fun k => wrT C l1 p1 v1 (2 * 4 + k)), ai E (r 9) 4 (fun k => wrT C l1 p1 v1 (1 * 4 + k)), ai E (r 10) 4 (fun k => wrT C l1 p1 v1 (0 * 4 + k)), ai E (r 11) 4 M2_181]) rfl ?_
                        refine g_iload F 4 dX9_written_432 rfl ?_
                        exact hret _ _ _ _ dX9_written_434 ⟨(up (up (up (up (up (up (up (shf Sv 870 (sZ C)) 868 (sW C + 1)) 869 (b3 C)) 870 (sm (fun k => wrT C l1 p1 v1 (0 * 4 + k)) 0)) 864 ((sZ C) + 1)) 865 ((sW C + 1) + 1)) 866 0) 867 ((sW C) + 1)), (fun k => wrT C l1 p1 v1 (2 * 4 + k)), (fun k => wrT C l1 p1 v1 (1 * 4 + k)), (fun k => wrT C l1 p1 v1 (0 * 4 + k)), M2_181, (by exact (Rel_wr hS (b3 C) (sm (fun k => wrT C l1 p1 v1 (0 * 4 + k)) 0)).congr (fun j hj => (by show _ = cN (sM C) (sN C) (b1 C) (b2 C) (b3 C) (wrT C l1 p1 v1) j; rw [h39, show sM C = 3 by omega]; exact wr_3 hb1 hb2 hb3 hne.1 hne.2.1 hne.2.2 j)) (fun _ _ => rfl) rfl rfl rfl (fun _ _ => ⟨rfl, rfl, rfl⟩)), rfl, (by rfl)⟩
                      · skip
                        refine g_aload_n F 0 dX9_written_324 rfl rfl ?_
                        refine g_get F 0 0 dX9_written_325 rfl rfl (by decide) (by decide +kernel) (by decide +kernel) rfl ?_
                        refine g_iload F 9 dX9_written_328 rfl ?_
                        refine g_aload_n F 0 dX9_written_330 rfl rfl ?_
                        refine g_get F 0 0 dX9_written_331 rfl rfl (by decide) (by decide +kernel) (by decide +kernel) rfl ?_
                        refine g_iload F 9 dX9_written_334 rfl ?_
                        refine g_iconst (v := nI 3) F dX9_written_336 (by decide) ?_
                        refine g_isubN F dX9_written_337 (by omega) ?_
                        refine g_iald F 1 dX9_written_338 rfl (by omega) (by decide) ?_
                        refine g_iast F 1 dX9_written_339 rfl (by omega) (by decide) (w2 := [ob 9 q [.ref (r 0), .ref (r 1), .ref (r 2), .int (nI rc), .ref (r 3), .int (nI tl), .ref (r 4), .ref (r 5), .ref (r 6), .ref (r 7), .ref (r 8), .ref (r 9), .ref (r 10), .ref (r 11), .ref (r 12), .int (nI at9), .int (lf9), .int (pl9), .int (vl9), .int (nI fa), .int (nI rs9), .int (cs), .int (nI dn)], ai E (r 0) 892 (up (shf Sv k (sZ C)) k ((shf Sv k (sZ C)) (k - 3))), ai E (r 4) 3 B, ai E (r 5) 3 Q, ax E (r 6) 3 K, ai E (r 8) 4 (fun k => wrT C l1 p1 v1 (2 * 4 + k)), ai E (r 9) 4 (fun k => wrT C l1 p1 v1 (1 * 4 + k)), ai E (r 10) 4 (fun k => wrT C l1 p1 v1 (0 * 4 + k)), ai E (r 11) 4 M2_181]) rfl ?_
                        refine g_iinc (k := 9) (v := nI (k - 1)) (lv2 := [(9, .int (nI (k - 1))), (0, .ref q), (1, .int (nI l1)), (2, .int (nI p1)), (3, .int (nI v1)), (4, .int (nI (wtC C l1 (2 * 4 + p1)))), (5, .int (nI (sM C))), (6, .int (nI (b1 C))), (7, .int (nI (b2 C))), (8, .int (nI (b3 C)))]) F dX9_written_340 rfl (pk_dec (by omega)) (by decide) rfl ?_
                        refine g_goto (tgt := 316) F dX9_written_343 (by decide) ?_
                        refine g_aiC 1 rfl (shf Sv (k - 1) (sZ C)) (by intro j hj; exact shf_s (by omega) (by omega)) (w2 := [ob 9 q [.ref (r 0), .ref (r 1), .ref (r 2), .int (nI rc), .ref (r 3), .int (nI tl), .ref (r 4), .ref (r 5), .ref (r 6), .ref (r 7), .ref (r 8), .ref (r 9), .ref (r 10), .ref (r 11), .ref (r 12), .int (nI at9), .int (lf9), .int (pl9), .int (vl9), .int (nI fa), .int (nI rs9), .int (cs), .int (nI dn)], ai E (r 0) 892 (shf Sv (k - 1) (sZ C)), ai E (r 4) 3 B, ai E (r 5) 3 Q, ax E (r 6) 3 K, ai E (r 8) 4 (fun k => wrT C l1 p1 v1 (2 * 4 + k)), ai E (r 9) 4 (fun k => wrT C l1 p1 v1 (1 * 4 + k)), ai E (r 10) 4 (fun k => wrT C l1 p1 v1 (0 * 4 + k)), ai E (r 11) 4 M2_181]) rfl ?_
                        refine g_lv [1, 2, 3, 4, 5, 6, 7, 8, 9, 0] rfl ?_
                        exact ih316 (k - 1) (by omega) (by omega)
                  refine g_aiC 1 rfl (shf Sv (868 + 3 * sZ C + 2) (sZ C)) (by intro j hj; exact (if_neg (by omega)).symm) (w2 := [ob 9 q [.ref (r 0), .ref (r 1), .ref (r 2), .int (nI rc), .ref (r 3), .int (nI tl), .ref (r 4), .ref (r 5), .ref (r 6), .ref (r 7), .ref (r 8), .ref (r 9), .ref (r 10), .ref (r 11), .ref (r 12), .int (nI at9), .int (lf9), .int (pl9), .int (vl9), .int (nI fa), .int (nI rs9), .int (cs), .int (nI dn)], ai E (r 0) 892 (shf Sv (868 + 3 * sZ C + 2) (sZ C)), ai E (r 4) 3 B, ai E (r 5) 3 Q, ax E (r 6) 3 K, ai E (r 8) 4 (fun k => wrT C l1 p1 v1 (2 * 4 + k)), ai E (r 9) 4 (fun k => wrT C l1 p1 v1 (1 * 4 + k)), ai E (r 10) 4 (fun k => wrT C l1 p1 v1 (0 * 4 + k)), ai E (r 11) 4 M2_181]) rfl ?_
                  refine g_lv [1, 2, 3, 4, 5, 6, 7, 8, 9, 0] rfl ?_
                  exact loop316 ((868 + 3 * sZ C + 2) + 1) (868 + 3 * sZ C + 2) (Nat.lt_succ_self _) (by omega)
                · skip
                  refine g_iload F 5 dX9_written_254 rfl ?_
                  refine g_iconst (v := nI 3) F dX9_written_256 (by decide) ?_
                  refine g_icmp_neN (tgt := 298) F dX9_written_257 (by decide) (by omega) (by omega) (fun c257 => ?_) (fun c257 => ?_)
                  · skip
                    have h39 : i = 0 := by omega
                    refine g_sipush (v := nI 868) F dX9_written_298 (by decide) ?_
                    refine g_iconst (v := nI 3) F dX9_written_301 (by decide) ?_
                    refine g_aload_n F 0 dX9_written_302 rfl rfl ?_
                    refine g_get F 0 0 dX9_written_303 rfl rfl (by decide) (by decide +kernel) (by decide +kernel) rfl ?_
                    refine g_sipush (v := nI 864) F dX9_written_306 (by decide) ?_
                    refine g_iald F 1 dX9_written_309 rfl (by omega) (by decide) ?_
                    refine g_top (nI (Sv 864)) (nI (sZ C)) (by rw [hS.2.2.1]; rfl) ?_
                    refine g_imulN F dX9_written_310 ?_
                    refine g_iaddN F dX9_written_311 ?_
                    refine g_iconst (v := nI 2) F dX9_written_312 (by decide) ?_
                    refine g_iaddN F dX9_written_313 ?_
                    refine g_istore (lv2 := [(9, .int (nI ((868 + (3 * (sZ C))) + 2))), (0, .ref q), (1, .int (nI l1)), (2, .int (nI p1)), (3, .int (nI v1)), (4, .int (nI (wtC C l1 (2 * 4 + p1)))), (5, .int (nI (sM C))), (6, .int (nI (b1 C))), (7, .int (nI (b2 C))), (8, .int (nI (b3 C)))]) F dX9_written_314 (by decide) rfl ?_
                    have loop316 : ∀ (n : Nat) (k : Nat), k < n → (870 ≤ k ∧ k ≤ 870 + 3 * sZ C) → G Γ E 0 0 316 [(0, .ref q), (1, .int (nI l1)), (2, .int (nI p1)), (3, .int (nI v1)), (4, .int (nI (wtC C l1 (2 * 4 + p1)))), (5, .int (nI (sM C))), (6, .int (nI (b1 C))), (7, .int (nI (b2 C))), (8, .int (nI (b3 C))), (9, .int (nI k))] [] [ob 9 q [.ref (r 0), .ref (r 1), .ref (r 2), .int (nI rc), .ref (r 3), .int (nI tl), .ref (r 4), .ref (r 5), .ref (r 6), .ref (r 7), .ref (r 8), .ref (r 9), .ref (r 10), .ref (r 11), .ref (r 12), .int (nI at9), .int (lf9), .int (pl9), .int (vl9), .int (nI fa), .int (nI rs9), .int (cs), .int (nI dn)], ai E (r 0) 892 (shf Sv k (sZ C)), ai E (r 4) 3 B, ai E (r 5) 3 Q, ax E (r 6) 3 K, ai E (r 8) 4 (fun k => wrT C l1 p1 v1 (2 * 4 + k)), ai E (r 9) 4 (fun k => wrT C l1 p1 v1 (1 * 4 + k)), ai E (r 10) 4 (fun k => wrT C l1 p1 v1 (0 * 4 + k)), ai E (r 11) 4 M2_181] := by
                      intro n
                      induction n with
                      | zero => intro k hz; exact absurd hz (Nat.not_lt_zero _)
                      | succ n ih316 =>
                        intro k hz316 hk
                        refine g_iload F 9 dX9_written_316 rfl ?_
                        refine g_sipush (v := nI 871) F dX9_written_318 (by decide) ?_
                        refine g_icmp_ltN (tgt := 346) F dX9_written_321 (by decide) (by omega) (by omega) (fun c321 => ?_) (fun c321 => ?_)
                        · skip
                          refine g_aiC 1 rfl (shf Sv 870 (sZ C)) (by intro j hj; rw [show k = 870 by omega]) (w2 := [ob 9 q [.ref (r 0), .ref (r 1), .ref (r 2), .int (nI rc), .ref (r 3), .int (nI tl), .ref (r 4), .ref (r 5), .ref (r 6), .ref (r 7), .ref (r 8), .ref (r 9), .ref (r 10), .ref (r 11), .ref (r 12), .int (nI at9), .int (lf9), .int (pl9), .int (vl9), .int (nI fa), .int (nI rs9), .int (cs), .int (nI dn)], ai E (r 0) 892 (shf Sv 870 (sZ C)), ai E (r 4) 3 B, ai E (r 5) 3 Q, ax E (r 6) 3 K, ai E (r 8) 4 (fun k => wrT C l1 p1 v1 (2 * 4 + k)), ai E (r 9) 4 (fun k => wrT C l1 p1 v1 (1 * 4 + k)), ai E (r 10) 4 (fun k => wrT C l1 p1 v1 (0 * 4 + k)), ai E (r 11) 4 M2_181]) rfl ?_
                          refine g_aload_n F 0 dX9_written_346 rfl rfl ?_
                          refine g_get F 0 0 dX9_written_347 rfl rfl (by decide) (by decide +kernel) (by decide +kernel) rfl ?_
                          refine g_sipush (v := nI 868) F dX9_written_350 (by decide) ?_
                          refine g_aload_n F 0 dX9_written_353 rfl rfl ?_
                          refine g_get F 0 0 dX9_written_354 rfl rfl (by decide) (by decide +kernel) (by decide +kernel) rfl ?_
                          refine g_sipush (v := nI 865) F dX9_written_357 (by decide) ?_
                          refine g_iald F 1 dX9_written_360 rfl (by omega) (by decide) ?_
                          refine g_top (nI ((shf Sv 870 (sZ C)) 865)) (nI (sW C + 1)) (by rw [shf_lo (by decide), hS.2.2.2.1]; rfl) ?_
                          refine g_iast F 1 dX9_written_361 rfl (by omega) (by decide) (w2 := [ob 9 q [.ref (r 0), .ref (r 1), .ref (r 2), .int (nI rc), .ref (r 3), .int (nI tl), .ref (r 4), .ref (r 5), .ref (r 6), .ref (r 7), .ref (r 8), .ref (r 9), .ref (r 10), .ref (r 11), .ref (r 12), .int (nI at9), .int (lf9), .int (pl9), .int (vl9), .int (nI fa), .int (nI rs9), .int (cs), .int (nI dn)], ai E (r 0) 892 (up (shf Sv 870 (sZ C)) 868 (sW C + 1)), ai E (r 4) 3 B, ai E (r 5) 3 Q, ax E (r 6) 3 K, ai E (r 8) 4 (fun k => wrT C l1 p1 v1 (2 * 4 + k)), ai E (r 9) 4 (fun k => wrT C l1 p1 v1 (1 * 4 + k)), ai E (r 10) 4 (fun k => wrT C l1 p1 v1 (0 * 4 + k)), ai E (r 11) 4 M2_181]) rfl ?_
                          refine g_aload_n F 0 dX9_written_362 rfl rfl ?_
                          refine g_get F 0 0 dX9_written_363 rfl rfl (by decide) (by decide +kernel) (by decide +kernel) rfl ?_
                          refine g_sipush (v := nI 869) F dX9_written_366 (by decide) ?_
                          refine g_iload F 8 dX9_written_369 rfl ?_
                          refine g_iast F 1 dX9_written_371 rfl (by omega) (by decide) (w2 := [ob 9 q [.ref (r 0), .ref (r 1), .ref (r 2), .int (nI rc), .ref (r 3), .int (nI tl), .ref (r 4), .ref (r 5), .ref (r 6), .ref (r 7), .ref (r 8), .ref (r 9), .ref (r 10), .ref (r 11), .ref (r 12), .int (nI at9), .int (lf9), .int (pl9), .int (vl9), .int (nI fa), .int (nI rs9), .int (cs), .int (nI dn)], ai E (r 0) 892 (up (up (shf Sv 870 (sZ C)) 868 (sW C + 1)) 869 (b3 C)), ai E (r 4) 3 B, ai E (r 5) 3 Q, ax E (r 6) 3 K, ai E (r 8) 4 (fun k => wrT C l1 p1 v1 (2 * 4 + k)), ai E (r 9) 4 (fun k => wrT C l1 p1 v1 (1 * 4 + k)), ai E (r 10) 4 (fun k => wrT C l1 p1 v1 (0 * 4 + k)), ai E (r 11) 4 M2_181]) rfl ?_
                          refine g_aload_n F 0 dX9_written_372 rfl rfl ?_
                          refine g_get F 0 0 dX9_written_373 rfl rfl (by decide) (by decide +kernel) (by decide +kernel) rfl ?_
                          refine g_sipush (v := nI 870) F dX9_written_376 (by decide) ?_
                          refine g_aload_n F 0 dX9_written_379 rfl rfl ?_
                          refine g_get F 0 12 dX9_written_380 rfl rfl (by decide) (by decide +kernel) (by decide +kernel) rfl ?_
                          refine g_callSiR (n := 1) F [7] (c_X9_sumIn l E (r 10) (fun k => wrT C l1 p1 v1 (0 * 4 + k)) (by exact fun _ _ => hT9 _)) dX9_written_383 rfl (by decide) rfl rfl rfl (Nat.le_of_ble_eq_true rfl) ⟨Nat.le_of_ble_eq_true rfl, Nat.le_of_ble_eq_true rfl⟩ rfl rfl ⟨Nat.le_of_ble_eq_true rfl, Nat.le_of_ble_eq_true rfl⟩ ggX9_written_X9_sumIn (by decide +kernel) (by decide +kernel) (by decide +kernel) (by decide +kernel) (fun r u hp => by obtain ⟨-, h⟩ := hp; exact h) ?_
                          rintro r_383 u_383 ⟨rfl, -⟩
                          refine g_iast F 1 dX9_written_386 rfl (by omega) (by decide) (w2 := [ob 9 q [.ref (r 0), .ref (r 1), .ref (r 2), .int (nI rc), .ref (r 3), .int (nI tl), .ref (r 4), .ref (r 5), .ref (r 6), .ref (r 7), .ref (r 8), .ref (r 9), .ref (r 10), .ref (r 11), .ref (r 12), .int (nI at9), .int (lf9), .int (pl9), .int (vl9), .int (nI fa), .int (nI rs9), .int (cs), .int (nI dn)], ai E (r 0) 892 (up (up (up (shf Sv 870 (sZ C)) 868 (sW C + 1)) 869 (b3 C)) 870 (sm (fun k => wrT C l1 p1 v1 (0 * 4 + k)) 0)), ai E (r 4) 3 B, ai E (r 5) 3 Q, ax E (r 6) 3 K, ai E (r 8) 4 (fun k => wrT C l1 p1 v1 (2 * 4 + k)), ai E (r 9) 4 (fun k => wrT C l1 p1 v1 (1 * 4 + k)), ai E (r 10) 4 (fun k => wrT C l1 p1 v1 (0 * 4 + k)), ai E (r 11) 4 M2_181]) rfl ?_
                          refine g_aload_n F 0 dX9_written_387 rfl rfl ?_
                          refine g_get F 0 0 dX9_written_388 rfl rfl (by decide) (by decide +kernel) (by decide +kernel) rfl ?_
                          refine g_sipush (v := nI 864) F dX9_written_391 (by decide) ?_
                          refine g_dup2 F dX9_written_394 rfl rfl ?_
                          refine g_iald F 1 dX9_written_395 rfl (by omega) (by decide) ?_
                          refine g_top (nI ((up (up (up (shf Sv 870 (sZ C)) 868 (sW C + 1)) 869 (b3 C)) 870 (sm (fun k => wrT C l1 p1 v1 (0 * 4 + k)) 0)) 864)) (nI (sZ C)) (by rw [up_n _ _ (by decide), up_n _ _ (by decide), up_n _ _ (by decide), shf_lo (by decide), hS.2.2.1]; rfl) ?_
                          refine g_iconst (v := nI 1) F dX9_written_396 (by decide) ?_
                          refine g_iaddN F dX9_written_397 ?_
                          refine g_iast F 1 dX9_written_398 rfl (by omega) (by decide) (w2 := [ob 9 q [.ref (r 0), .ref (r 1), .ref (r 2), .int (nI rc), .ref (r 3), .int (nI tl), .ref (r 4), .ref (r 5), .ref (r 6), .ref (r 7), .ref (r 8), .ref (r 9), .ref (r 10), .ref (r 11), .ref (r 12), .int (nI at9), .int (lf9), .int (pl9), .int (vl9), .int (nI fa), .int (nI rs9), .int (cs), .int (nI dn)], ai E (r 0) 892 (up (up (up (up (shf Sv 870 (sZ C)) 868 (sW C + 1)) 869 (b3 C)) 870 (sm (fun k => wrT C l1 p1 v1 (0 * 4 + k)) 0)) 864 ((sZ C) + 1)), ai E (r 4) 3 B, ai E (r 5) 3 Q, ax E (r 6) 3 K, ai E (r 8) 4 (fun k => wrT C l1 p1 v1 (2 * 4 + k)), ai E (r 9) 4 (fun k => wrT C l1 p1 v1 (1 * 4 + k)), ai E (r 10) 4 (fun k => wrT C l1 p1 v1 (0 * 4 + k)), ai E (r 11) 4 M2_181]) rfl ?_
                          refine g_aload_n F 0 dX9_written_399 rfl rfl ?_
                          refine g_get F 0 0 dX9_written_400 rfl rfl (by decide) (by decide +kernel) (by decide +kernel) rfl ?_
                          refine g_sipush (v := nI 865) F dX9_written_403 (by decide) ?_
                          refine g_dup2 F dX9_written_406 rfl rfl ?_
                          refine g_iald F 1 dX9_written_407 rfl (by omega) (by decide) ?_
                          refine g_top (nI ((up (up (up (up (shf Sv 870 (sZ C)) 868 (sW C + 1)) 869 (b3 C)) 870 (sm (fun k => wrT C l1 p1 v1 (0 * 4 + k)) 0)) 864 ((sZ C) + 1)) 865)) (nI (sW C + 1)) (by rw [up_n _ _ (by decide), up_n _ _ (by decide), up_n _ _ (by decide), up_n _ _ (by decide), shf_lo (by decide), hS.2.2.2.1]; rfl) ?_
                          refine g_iconst (v := nI 1) F dX9_written_408 (by decide) ?_
                          refine g_iaddN F dX9_written_409 ?_
                          refine g_iast F 1 dX9_written_410 rfl (by omega) (by decide) (w2 := [ob 9 q [.ref (r 0), .ref (r 1), .ref (r 2), .int (nI rc), .ref (r 3), .int (nI tl), .ref (r 4), .ref (r 5), .ref (r 6), .ref (r 7), .ref (r 8), .ref (r 9), .ref (r 10), .ref (r 11), .ref (r 12), .int (nI at9), .int (lf9), .int (pl9), .int (vl9), .int (nI fa), .int (nI rs9), .int (cs), .int (nI dn)], ai E (r 0) 892 (up (up (up (up (up (shf Sv 870 (sZ C)) 868 (sW C + 1)) 869 (b3 C)) 870 (sm (fun k => wrT C l1 p1 v1 (0 * 4 + k)) 0)) 864 ((sZ C) + 1)) 865 ((sW C + 1) + 1)), ai E (r 4) 3 B, ai E (r 5) 3 Q, ax E (r 6) 3 K, ai E (r 8) 4 (fun k => wrT C l1 p1 v1 (2 * 4 + k)), ai E (r 9) 4 (fun k => wrT C l1 p1 v1 (1 * 4 + k)), ai E (r 10) 4 (fun k => wrT C l1 p1 v1 (0 * 4 + k)), ai E (r 11) 4 M2_181]) rfl ?_
                          refine g_aload_n F 0 dX9_written_411 rfl rfl ?_
                          refine g_get F 0 0 dX9_written_412 rfl rfl (by decide) (by decide +kernel) (by decide +kernel) rfl ?_
                          refine g_sipush (v := nI 866) F dX9_written_415 (by decide) ?_
                          refine g_iconst (v := nI 0) F dX9_written_418 (by decide) ?_
                          refine g_iast F 1 dX9_written_419 rfl (by omega) (by decide) (w2 := [ob 9 q [.ref (r 0), .ref (r 1), .ref (r 2), .int (nI rc), .ref (r 3), .int (nI tl), .ref (r 4), .ref (r 5), .ref (r 6), .ref (r 7), .ref (r 8), .ref (r 9), .ref (r 10), .ref (r 11), .ref (r 12), .int (nI at9), .int (lf9), .int (pl9), .int (vl9), .int (nI fa), .int (nI rs9), .int (cs), .int (nI dn)], ai E (r 0) 892 (up (up (up (up (up (up (shf Sv 870 (sZ C)) 868 (sW C + 1)) 869 (b3 C)) 870 (sm (fun k => wrT C l1 p1 v1 (0 * 4 + k)) 0)) 864 ((sZ C) + 1)) 865 ((sW C + 1) + 1)) 866 0), ai E (r 4) 3 B, ai E (r 5) 3 Q, ax E (r 6) 3 K, ai E (r 8) 4 (fun k => wrT C l1 p1 v1 (2 * 4 + k)), ai E (r 9) 4 (fun k => wrT C l1 p1 v1 (1 * 4 + k)), ai E (r 10) 4 (fun k => wrT C l1 p1 v1 (0 * 4 + k)), ai E (r 11) 4 M2_181]) rfl ?_
                          refine g_aload_n F 0 dX9_written_420 rfl rfl ?_
                          refine g_get F 0 0 dX9_written_421 rfl rfl (by decide) (by decide +kernel) (by decide +kernel) rfl ?_
                          refine g_sipush (v := nI 867) F dX9_written_424 (by decide) ?_
                          refine g_dup2 F dX9_written_427 rfl rfl ?_
                          refine g_iald F 1 dX9_written_428 rfl (by omega) (by decide) ?_
                          refine g_top (nI ((up (up (up (up (up (up (shf Sv 870 (sZ C)) 868 (sW C + 1)) 869 (b3 C)) 870 (sm (fun k => wrT C l1 p1 v1 (0 * 4 + k)) 0)) 864 ((sZ C) + 1)) 865 ((sW C + 1) + 1)) 866 0) 867)) (nI (sW C)) (by rw [up_n _ _ (by decide), up_n _ _ (by decide), up_n _ _ (by decide), up_n _ _ (by decide), up_n _ _ (by decide), up_n _ _ (by decide), shf_lo (by decide), hS.2.2.2.2.2.1]; rfl) ?_
                          refine g_iconst (v := nI 1) F dX9_written_429 (by decide) ?_
                          refine g_iaddN F dX9_written_430 ?_
                          refine g_iast F 1 dX9_written_431 rfl (by omega) (by decide) (w2 := [ob 9 q [.ref (r 0), .ref (r 1), .ref (r 2), .int (nI rc), .ref (r 3), .int (nI tl), .ref (r 4), .ref (r 5), .ref (r 6), .ref (r 7), .ref (r 8), .ref (r 9), .ref (r 10), .ref (r 11), .ref (r 12), .int (nI at9), .int (lf9), .int (pl9), .int (vl9), .int (nI fa), .int (nI rs9), .int (cs), .int (nI dn)], ai E (r 0) 892 (up (up (up (up (up (up (up (shf Sv 870 (sZ C)) 868 (sW C + 1)) 869 (b3 C)) 870 (sm (fun k => wrT C l1 p1 v1 (0 * 4 + k)) 0)) 864 ((sZ C) + 1)) 865 ((sW C + 1) + 1)) 866 0) 867 ((sW C) + 1)), ai E (r 4) 3 B, ai E (r 5) 3 Q, ax E (r 6) 3 K, ai E (r 8) 4 (fun k => wrT C l1 p1 v1 (2 * 4 + k)), ai E (r 9) 4 (fun k => wrT C l1 p1 v1 (1 * 4 + k)), ai E (r 10) 4 (fun k => wrT C l1 p1 v1 (0 * 4 + k)), ai E (r 11) 4 M2_181]) rfl ?_
                          refine g_iload F 4 dX9_written_432 rfl ?_
                          exact hret _ _ _ _ dX9_written_434 ⟨(up (up (up (up (up (up (up (shf Sv 870 (sZ C)) 868 (sW C + 1)) 869 (b3 C)) 870 (sm (fun k => wrT C l1 p1 v1 (0 * 4 + k)) 0)) 864 ((sZ C) + 1)) 865 ((sW C + 1) + 1)) 866 0) 867 ((sW C) + 1)), (fun k => wrT C l1 p1 v1 (2 * 4 + k)), (fun k => wrT C l1 p1 v1 (1 * 4 + k)), (fun k => wrT C l1 p1 v1 (0 * 4 + k)), M2_181, (by exact (Rel_wr hS (b3 C) (sm (fun k => wrT C l1 p1 v1 (0 * 4 + k)) 0)).congr (fun j hj => (by show _ = cN (sM C) (sN C) (b1 C) (b2 C) (b3 C) (wrT C l1 p1 v1) j; rw [h39, swp_0]; exact wr_0 hb1 hb2 hb3 hne.1 hne.2.1 hne.2.2 j c140 c197 c257)) (fun _ _ => rfl) rfl rfl rfl (fun _ _ => ⟨rfl, rfl, rfl⟩)), rfl, (by rfl)⟩
                        · skip
                          refine g_aload_n F 0 dX9_written_324 rfl rfl ?_
                          refine g_get F 0 0 dX9_written_325 rfl rfl (by decide) (by decide +kernel) (by decide +kernel) rfl ?_
                          refine g_iload F 9 dX9_written_328 rfl ?_
                          refine g_aload_n F 0 dX9_written_330 rfl rfl ?_
                          refine g_get F 0 0 dX9_written_331 rfl rfl (by decide) (by decide +kernel) (by decide +kernel) rfl ?_
                          refine g_iload F 9 dX9_written_334 rfl ?_
                          refine g_iconst (v := nI 3) F dX9_written_336 (by decide) ?_
                          refine g_isubN F dX9_written_337 (by omega) ?_
                          refine g_iald F 1 dX9_written_338 rfl (by omega) (by decide) ?_
                          refine g_iast F 1 dX9_written_339 rfl (by omega) (by decide) (w2 := [ob 9 q [.ref (r 0), .ref (r 1), .ref (r 2), .int (nI rc), .ref (r 3), .int (nI tl), .ref (r 4), .ref (r 5), .ref (r 6), .ref (r 7), .ref (r 8), .ref (r 9), .ref (r 10), .ref (r 11), .ref (r 12), .int (nI at9), .int (lf9), .int (pl9), .int (vl9), .int (nI fa), .int (nI rs9), .int (cs), .int (nI dn)], ai E (r 0) 892 (up (shf Sv k (sZ C)) k ((shf Sv k (sZ C)) (k - 3))), ai E (r 4) 3 B, ai E (r 5) 3 Q, ax E (r 6) 3 K, ai E (r 8) 4 (fun k => wrT C l1 p1 v1 (2 * 4 + k)), ai E (r 9) 4 (fun k => wrT C l1 p1 v1 (1 * 4 + k)), ai E (r 10) 4 (fun k => wrT C l1 p1 v1 (0 * 4 + k)), ai E (r 11) 4 M2_181]) rfl ?_
                          refine g_iinc (k := 9) (v := nI (k - 1)) (lv2 := [(9, .int (nI (k - 1))), (0, .ref q), (1, .int (nI l1)), (2, .int (nI p1)), (3, .int (nI v1)), (4, .int (nI (wtC C l1 (2 * 4 + p1)))), (5, .int (nI (sM C))), (6, .int (nI (b1 C))), (7, .int (nI (b2 C))), (8, .int (nI (b3 C)))]) F dX9_written_340 rfl (pk_dec (by omega)) (by decide) rfl ?_
                          refine g_goto (tgt := 316) F dX9_written_343 (by decide) ?_
                          refine g_aiC 1 rfl (shf Sv (k - 1) (sZ C)) (by intro j hj; exact shf_s (by omega) (by omega)) (w2 := [ob 9 q [.ref (r 0), .ref (r 1), .ref (r 2), .int (nI rc), .ref (r 3), .int (nI tl), .ref (r 4), .ref (r 5), .ref (r 6), .ref (r 7), .ref (r 8), .ref (r 9), .ref (r 10), .ref (r 11), .ref (r 12), .int (nI at9), .int (lf9), .int (pl9), .int (vl9), .int (nI fa), .int (nI rs9), .int (cs), .int (nI dn)], ai E (r 0) 892 (shf Sv (k - 1) (sZ C)), ai E (r 4) 3 B, ai E (r 5) 3 Q, ax E (r 6) 3 K, ai E (r 8) 4 (fun k => wrT C l1 p1 v1 (2 * 4 + k)), ai E (r 9) 4 (fun k => wrT C l1 p1 v1 (1 * 4 + k)), ai E (r 10) 4 (fun k => wrT C l1 p1 v1 (0 * 4 + k)), ai E (r 11) 4 M2_181]) rfl ?_
                          refine g_lv [1, 2, 3, 4, 5, 6, 7, 8, 9, 0] rfl ?_
                          exact ih316 (k - 1) (by omega) (by omega)
                    refine g_aiC 1 rfl (shf Sv (868 + 3 * sZ C + 2) (sZ C)) (by intro j hj; exact (if_neg (by omega)).symm) (w2 := [ob 9 q [.ref (r 0), .ref (r 1), .ref (r 2), .int (nI rc), .ref (r 3), .int (nI tl), .ref (r 4), .ref (r 5), .ref (r 6), .ref (r 7), .ref (r 8), .ref (r 9), .ref (r 10), .ref (r 11), .ref (r 12), .int (nI at9), .int (lf9), .int (pl9), .int (vl9), .int (nI fa), .int (nI rs9), .int (cs), .int (nI dn)], ai E (r 0) 892 (shf Sv (868 + 3 * sZ C + 2) (sZ C)), ai E (r 4) 3 B, ai E (r 5) 3 Q, ax E (r 6) 3 K, ai E (r 8) 4 (fun k => wrT C l1 p1 v1 (2 * 4 + k)), ai E (r 9) 4 (fun k => wrT C l1 p1 v1 (1 * 4 + k)), ai E (r 10) 4 (fun k => wrT C l1 p1 v1 (0 * 4 + k)), ai E (r 11) 4 M2_181]) rfl ?_
                    refine g_lv [1, 2, 3, 4, 5, 6, 7, 8, 9, 0] rfl ?_
                    exact loop316 ((868 + 3 * sZ C + 2) + 1) (868 + 3 * sZ C + 2) (Nat.lt_succ_self _) (by omega)
                  · skip
                    refine g_aload_n F 0 dX9_written_260 rfl rfl ?_
                    refine g_iconst (v := nI 0) F dX9_written_261 (by decide) ?_
                    refine g_iload F 6 dX9_written_262 rfl ?_
                    refine g_iload F 9 dX9_written_264 rfl ?_
                    refine g_aload_n F 0 dX9_written_266 rfl rfl ?_
                    refine g_get F 0 11 dX9_written_267 rfl rfl (by decide) (by decide +kernel) (by decide +kernel) rfl ?_
                    refine g_iload F 9 dX9_written_270 rfl ?_
                    refine g_iald F 6 dX9_written_272 rfl (by omega) (by decide) ?_
                    refine g_callVvW (n := 4) F [0, 1] (c_X9_setContent l E q r rc tl at9 lf9 pl9 vl9 fa rs9 cs dn Sv (nS (uS C (up (up (up (sU C) (b1 C) 1) (b2 C) 1) (b3 C) 1)) (swp (lyb (lyb (lyb (sN C) (b1 C) (wrT C l1 p1 v1) 2 4) (b2 C) (wrT C l1 p1 v1) 1 4) (b3 C) (wrT C l1 p1 v1) 0 4) (b1 C) (b2 C) (wrT C l1 p1 v1) i)) 0 (b1 C) i ((fun k => wrT C l1 p1 v1 (1 * 4 + k)) i) (by exact hS) (by omega) (by exact hb1) (by omega)) dX9_written_273 rfl (by decide) rfl rfl rfl (Nat.le_of_ble_eq_true rfl) ⟨Nat.le_of_ble_eq_true rfl, Nat.le_of_ble_eq_true rfl⟩ rfl rfl ⟨Nat.le_of_ble_eq_true rfl, Nat.le_of_ble_eq_true rfl⟩ 0 rfl rfl gX9_written_X9_setContent (by decide +kernel) (fun u hp => by obtain ⟨_, -, rfl⟩ := hp; rfl) ?_
                    rintro u_273 ⟨S2_273, hR2_273, rfl⟩
                    refine g_ws (w2 := [ob 9 q [.ref (r 0), .ref (r 1), .ref (r 2), .int (nI rc), .ref (r 3), .int (nI tl), .ref (r 4), .ref (r 5), .ref (r 6), .ref (r 7), .ref (r 8), .ref (r 9), .ref (r 10), .ref (r 11), .ref (r 12), .int (nI at9), .int (lf9), .int (pl9), .int (vl9), .int (nI fa), .int (nI rs9), .int (cs), .int (nI dn)], ai E (r 0) 892 S2_273, ai E (r 4) 3 B, ai E (r 5) 3 Q, ax E (r 6) 3 K, ai E (r 8) 4 (fun k => wrT C l1 p1 v1 (2 * 4 + k)), ai E (r 9) 4 (fun k => wrT C l1 p1 v1 (1 * 4 + k)), ai E (r 10) 4 (fun k => wrT C l1 p1 v1 (0 * 4 + k)), ai E (r 11) 4 M2_181]) rfl ?_
                    refine g_aload_n F 0 dX9_written_276 rfl rfl ?_
                    refine g_iconst (v := nI 0) F dX9_written_277 (by decide) ?_
                    refine g_iload F 7 dX9_written_278 rfl ?_
                    refine g_iload F 9 dX9_written_280 rfl ?_
                    refine g_aload_n F 0 dX9_written_282 rfl rfl ?_
                    refine g_get F 0 10 dX9_written_283 rfl rfl (by decide) (by decide +kernel) (by decide +kernel) rfl ?_
                    refine g_iload F 9 dX9_written_286 rfl ?_
                    refine g_iald F 5 dX9_written_288 rfl (by omega) (by decide) ?_
                    refine g_callVvW (n := 4) F [0, 1] (c_X9_setContent l E q r rc tl at9 lf9 pl9 vl9 fa rs9 cs dn S2_273 (nS (uS C (up (up (up (sU C) (b1 C) 1) (b2 C) 1) (b3 C) 1)) (pn (swp (lyb (lyb (lyb (sN C) (b1 C) (wrT C l1 p1 v1) 2 4) (b2 C) (wrT C l1 p1 v1) 1 4) (b3 C) (wrT C l1 p1 v1) 0 4) (b1 C) (b2 C) (wrT C l1 p1 v1) i) 0 (b1 C) i (wrT C l1 p1 v1 (1 * 4 + i)))) 0 (b2 C) i ((fun k => wrT C l1 p1 v1 (2 * 4 + k)) i) (by exact hR2_273) (by omega) (by exact hb2) (by omega)) dX9_written_289 rfl (by decide) rfl rfl rfl (Nat.le_of_ble_eq_true rfl) ⟨Nat.le_of_ble_eq_true rfl, Nat.le_of_ble_eq_true rfl⟩ rfl rfl ⟨Nat.le_of_ble_eq_true rfl, Nat.le_of_ble_eq_true rfl⟩ 0 rfl rfl gX9_written_X9_setContent (by decide +kernel) (fun u hp => by obtain ⟨_, -, rfl⟩ := hp; rfl) ?_
                    rintro u_289 ⟨S2_289, hR2_289, rfl⟩
                    refine g_ws (w2 := [ob 9 q [.ref (r 0), .ref (r 1), .ref (r 2), .int (nI rc), .ref (r 3), .int (nI tl), .ref (r 4), .ref (r 5), .ref (r 6), .ref (r 7), .ref (r 8), .ref (r 9), .ref (r 10), .ref (r 11), .ref (r 12), .int (nI at9), .int (lf9), .int (pl9), .int (vl9), .int (nI fa), .int (nI rs9), .int (cs), .int (nI dn)], ai E (r 0) 892 S2_289, ai E (r 4) 3 B, ai E (r 5) 3 Q, ax E (r 6) 3 K, ai E (r 8) 4 (fun k => wrT C l1 p1 v1 (2 * 4 + k)), ai E (r 9) 4 (fun k => wrT C l1 p1 v1 (1 * 4 + k)), ai E (r 10) 4 (fun k => wrT C l1 p1 v1 (0 * 4 + k)), ai E (r 11) 4 M2_181]) rfl ?_
                    refine g_iinc (k := 9) (v := nI (i + 1)) (lv2 := [(9, .int (nI (i + 1))), (0, .ref q), (1, .int (nI l1)), (2, .int (nI p1)), (3, .int (nI v1)), (4, .int (nI (wtC C l1 (2 * 4 + p1)))), (5, .int (nI (sM C))), (6, .int (nI (b1 C))), (7, .int (nI (b2 C))), (8, .int (nI (b3 C)))]) F dX9_written_292 rfl (nI_1 _) (by decide) rfl ?_
                    refine g_goto (tgt := 248) F dX9_written_295 (by decide) ?_
                    refine g_lv [1, 2, 3, 4, 5, 6, 7, 8, 9, 0] rfl ?_
                    exact ih248 (i + 1) S2_289 (by omega) (by omega) (by exact Or.inl c257) (by have h : Rel S2_289 (nS (uS C (up (up (up (sU C) (b1 C) 1) (b2 C) 1) (b3 C) 1)) (pn (pn (swp (lyb (lyb (lyb (sN C) (b1 C) (wrT C l1 p1 v1) 2 4) (b2 C) (wrT C l1 p1 v1) 1 4) (b3 C) (wrT C l1 p1 v1) 0 4) (b1 C) (b2 C) (wrT C l1 p1 v1) i) 0 (b1 C) i (wrT C l1 p1 v1 (1 * 4 + i))) 0 (b2 C) i (wrT C l1 p1 v1 (2 * 4 + i)))) := hR2_289; rw [swp_s hne.1 (by omega)] at h; exact h)
            refine g_lv [6, 7, 8, 9, 5, 4, 3, 2, 1, 0] rfl ?_
            exact loop248 ((4 - 0) + 1) 0 S2_242 (Nat.lt_succ_self _) (by omega) (by exact Or.inr rfl) (by rw [swp_0]; exact hR2_242)
          · skip
            refine g_aload_n F 4 dX9_written_200 rfl rfl ?_
            refine g_iload F 0 dX9_written_201 rfl ?_
            refine g_iconst (v := nI 0) F dX9_written_203 (by decide) ?_
            refine g_callVvW (n := 2) F [0, 1, 8] (c_X9_bringsBack l E q r rc tl at9 lf9 pl9 vl9 fa rs9 cs dn S2_191 (nS (uS C (up (up (sU C) (b1 C) 1) (b2 C) 1)) (lyb (lyb (sN C) (b1 C) (wrT C l1 p1 v1) 2 4) (b2 C) (wrT C l1 p1 v1) 1 4)) M2_181 (lyb (sN C) (b1 C) (wrT C l1 p1 v1) 2 4) (b2 C) 0 (by exact hR2_191) (by exact hb2) (by omega) (by exact hM2_181)) dX9_written_204 rfl (by decide) rfl rfl rfl (Nat.le_of_ble_eq_true rfl) ⟨Nat.le_of_ble_eq_true rfl, Nat.le_of_ble_eq_true rfl⟩ rfl rfl ⟨Nat.le_of_ble_eq_true rfl, Nat.le_of_ble_eq_true rfl⟩ 0 rfl rfl gX9_written_X9_bringsBack (by decide +kernel) (fun u hp => by obtain ⟨_, -, rfl⟩ := hp; rfl) ?_
            rintro u_204 ⟨S2_204, hR2_204, rfl⟩
            refine g_ws (w2 := [ob 9 q [.ref (r 0), .ref (r 1), .ref (r 2), .int (nI rc), .ref (r 3), .int (nI tl), .ref (r 4), .ref (r 5), .ref (r 6), .ref (r 7), .ref (r 8), .ref (r 9), .ref (r 10), .ref (r 11), .ref (r 12), .int (nI at9), .int (lf9), .int (pl9), .int (vl9), .int (nI fa), .int (nI rs9), .int (cs), .int (nI dn)], ai E (r 0) 892 S2_204, ai E (r 4) 3 B, ai E (r 5) 3 Q, ax E (r 6) 3 K, ai E (r 8) 4 (fun k => wrT C l1 p1 v1 (2 * 4 + k)), ai E (r 9) 4 (fun k => wrT C l1 p1 v1 (1 * 4 + k)), ai E (r 10) 4 (fun k => wtC C l1 (0 * 4 + k)), ai E (r 11) 4 M2_181]) rfl ?_
            refine g_aload_n F 4 dX9_written_207 rfl rfl ?_
            refine g_get F 0 12 dX9_written_208 rfl rfl (by decide) (by decide +kernel) (by decide +kernel) rfl ?_
            refine g_iload_n F 5 dX9_written_211 rfl rfl ?_
            refine g_iconst (v := nI 4) F dX9_written_212 (by decide) ?_
            refine g_idivN F dX9_written_213 (by omega) (by decide) (by decide) ?_
            refine g_sipush (v := nI 256) F dX9_written_214 (by decide) ?_
            refine g_iload F 0 dX9_written_217 rfl ?_
            refine g_imulN F dX9_written_219 ?_
            refine g_aload_n F 4 dX9_written_220 rfl rfl ?_
            refine g_get F 0 11 dX9_written_221 rfl rfl (by decide) (by decide +kernel) (by decide +kernel) rfl ?_
            refine g_callSiR (n := 1) F [6] (c_X9_sumIn l E (r 9) (fun k => wrT C l1 p1 v1 (1 * 4 + k)) (by exact fun _ _ => hT9 _)) dX9_written_224 rfl (by decide) rfl rfl rfl (Nat.le_of_ble_eq_true rfl) ⟨Nat.le_of_ble_eq_true rfl, Nat.le_of_ble_eq_true rfl⟩ rfl rfl ⟨Nat.le_of_ble_eq_true rfl, Nat.le_of_ble_eq_true rfl⟩ ggX9_written_X9_sumIn (by decide +kernel) (by decide +kernel) (by decide +kernel) (by decide +kernel) (fun r u hp => by obtain ⟨-, h⟩ := hp; exact h) ?_
            rintro r_224 u_224 ⟨rfl, -⟩
            refine g_iaddN F dX9_written_227 ?_
            refine g_iast F 7 dX9_written_228 rfl (by omega) (by decide) (w2 := [ob 9 q [.ref (r 0), .ref (r 1), .ref (r 2), .int (nI rc), .ref (r 3), .int (nI tl), .ref (r 4), .ref (r 5), .ref (r 6), .ref (r 7), .ref (r 8), .ref (r 9), .ref (r 10), .ref (r 11), .ref (r 12), .int (nI at9), .int (lf9), .int (pl9), .int (vl9), .int (nI fa), .int (nI rs9), .int (cs), .int (nI dn)], ai E (r 0) 892 S2_204, ai E (r 4) 3 B, ai E (r 5) 3 Q, ax E (r 6) 3 K, ai E (r 8) 4 (fun k => wrT C l1 p1 v1 (2 * 4 + k)), ai E (r 9) 4 (fun k => wrT C l1 p1 v1 (1 * 4 + k)), ai E (r 10) 4 (up (fun k => wtC C l1 (0 * 4 + k)) (l1 / 4) ((256 * (b2 C)) + (sm (fun k => wrT C l1 p1 v1 (1 * 4 + k)) 0))), ai E (r 11) 4 M2_181]) rfl ?_
            refine g_aiC 7 rfl (fun k => wrT C l1 p1 v1 (0 * 4 + k)) (by intro j hj; exact wrT_0 hl hp hj) (w2 := [ob 9 q [.ref (r 0), .ref (r 1), .ref (r 2), .int (nI rc), .ref (r 3), .int (nI tl), .ref (r 4), .ref (r 5), .ref (r 6), .ref (r 7), .ref (r 8), .ref (r 9), .ref (r 10), .ref (r 11), .ref (r 12), .int (nI at9), .int (lf9), .int (pl9), .int (vl9), .int (nI fa), .int (nI rs9), .int (cs), .int (nI dn)], ai E (r 0) 892 S2_204, ai E (r 4) 3 B, ai E (r 5) 3 Q, ax E (r 6) 3 K, ai E (r 8) 4 (fun k => wrT C l1 p1 v1 (2 * 4 + k)), ai E (r 9) 4 (fun k => wrT C l1 p1 v1 (1 * 4 + k)), ai E (r 10) 4 (fun k => wrT C l1 p1 v1 (0 * 4 + k)), ai E (r 11) 4 M2_181]) rfl ?_
            refine g_aload_n F 4 dX9_written_229 rfl rfl ?_
            refine g_callViW (n := 0) F [0, 1] (c_X9_newBlock l E q r rc tl at9 lf9 pl9 vl9 fa rs9 cs dn S2_204 (nS (uS C (up (up (sU C) (b1 C) 1) (b2 C) 1)) (bb (lyb (lyb (sN C) (b1 C) (wrT C l1 p1 v1) 2 4) (b2 C) (wrT C l1 p1 v1) 1 4) (lyb (sN C) (b1 C) (wrT C l1 p1 v1) 2 4) (b2 C) 0 4)) (by exact hR2_204) (by exact IC_nu hI (bb_BN (lyb_BN (lyb_BN hI.1 hT9 _ _ _) hT9 _ _ _) (lyb_BN hI.1 hT9 _ _ _) _ _ _) (up_BU (up_BU hI.2.1 (Nat.le_refl 1)) (Nat.le_refl 1))) (by exact hb3)) dX9_written_230 rfl (by decide) rfl rfl rfl (Nat.le_of_ble_eq_true rfl) ⟨Nat.le_of_ble_eq_true rfl, Nat.le_of_ble_eq_true rfl⟩ rfl rfl ⟨Nat.le_of_ble_eq_true rfl, Nat.le_of_ble_eq_true rfl⟩ 0 rfl rfl gX9_written_X9_newBlock (by decide +kernel) (fun r u hp => by obtain ⟨_, -, -, rfl⟩ := hp; rfl) ?_
            rintro r_230 u_230 ⟨S2_230, hR2_230, rfl, rfl⟩
            refine g_ws (w2 := [ob 9 q [.ref (r 0), .ref (r 1), .ref (r 2), .int (nI rc), .ref (r 3), .int (nI tl), .ref (r 4), .ref (r 5), .ref (r 6), .ref (r 7), .ref (r 8), .ref (r 9), .ref (r 10), .ref (r 11), .ref (r 12), .int (nI at9), .int (lf9), .int (pl9), .int (vl9), .int (nI fa), .int (nI rs9), .int (cs), .int (nI dn)], ai E (r 0) 892 S2_230, ai E (r 4) 3 B, ai E (r 5) 3 Q, ax E (r 6) 3 K, ai E (r 8) 4 (fun k => wrT C l1 p1 v1 (2 * 4 + k)), ai E (r 9) 4 (fun k => wrT C l1 p1 v1 (1 * 4 + k)), ai E (r 10) 4 (fun k => wrT C l1 p1 v1 (0 * 4 + k)), ai E (r 11) 4 M2_181]) rfl ?_
            refine g_top (nI (ff (sU (nS (uS C (up (up (sU C) (b1 C) 1) (b2 C) 1)) (bb (lyb (lyb (sN C) (b1 C) (wrT C l1 p1 v1) 2 4) (b2 C) (wrT C l1 p1 v1) 1 4) (lyb (sN C) (b1 C) (wrT C l1 p1 v1) 2 4) (b2 C) 0 4))) 96)) (nI (b3 C)) (by rfl) ?_
            refine g_istore (lv2 := [(8, .int (nI (b3 C))), (7, .int (nI (b2 C))), (6, .int (nI (b1 C))), (5, .int (nI (sM C))), (4, .int (nI (wtC C l1 (2 * 4 + p1)))), (0, .ref q), (1, .int (nI l1)), (2, .int (nI p1)), (3, .int (nI v1))]) F dX9_written_233 (by decide) rfl ?_
            refine g_aload_n F 5 dX9_written_235 rfl rfl ?_
            refine g_iload F 0 dX9_written_236 rfl ?_
            refine g_aload_n F 5 dX9_written_238 rfl rfl ?_
            refine g_get F 0 12 dX9_written_239 rfl rfl (by decide) (by decide +kernel) (by decide +kernel) rfl ?_
            refine g_callVvW (n := 2) F [0, 1, 7] (c_X9_lays l E q r rc tl at9 lf9 pl9 vl9 fa rs9 cs dn S2_230 (nS (uS C (up (up (up (sU C) (b1 C) 1) (b2 C) 1) (b3 C) 1)) (bb (lyb (lyb (sN C) (b1 C) (wrT C l1 p1 v1) 2 4) (b2 C) (wrT C l1 p1 v1) 1 4) (lyb (sN C) (b1 C) (wrT C l1 p1 v1) 2 4) (b2 C) 0 4)) (r 10) (fun k => wrT C l1 p1 v1 (0 * 4 + k)) (wrT C l1 p1 v1) 0 (b3 C) (by exact hR2_230) (by exact hb3) (by exact fun _ _ => rfl)) dX9_written_242 rfl (by decide) rfl rfl rfl (Nat.le_of_ble_eq_true rfl) ⟨Nat.le_of_ble_eq_true rfl, Nat.le_of_ble_eq_true rfl⟩ rfl rfl ⟨Nat.le_of_ble_eq_true rfl, Nat.le_of_ble_eq_true rfl⟩ 0 rfl rfl gX9_written_X9_lays (by decide +kernel) (fun u hp => by obtain ⟨_, -, rfl⟩ := hp; rfl) ?_
            rintro u_242 ⟨S2_242, hR2_242, rfl⟩
            refine g_ws (w2 := [ob 9 q [.ref (r 0), .ref (r 1), .ref (r 2), .int (nI rc), .ref (r 3), .int (nI tl), .ref (r 4), .ref (r 5), .ref (r 6), .ref (r 7), .ref (r 8), .ref (r 9), .ref (r 10), .ref (r 11), .ref (r 12), .int (nI at9), .int (lf9), .int (pl9), .int (vl9), .int (nI fa), .int (nI rs9), .int (cs), .int (nI dn)], ai E (r 0) 892 S2_242, ai E (r 4) 3 B, ai E (r 5) 3 Q, ax E (r 6) 3 K, ai E (r 8) 4 (fun k => wrT C l1 p1 v1 (2 * 4 + k)), ai E (r 9) 4 (fun k => wrT C l1 p1 v1 (1 * 4 + k)), ai E (r 10) 4 (fun k => wrT C l1 p1 v1 (0 * 4 + k)), ai E (r 11) 4 M2_181]) rfl ?_
            refine g_iconst (v := nI 0) F dX9_written_245 (by decide) ?_
            refine g_istore (lv2 := [(9, .int (nI 0)), (8, .int (nI (b3 C))), (7, .int (nI (b2 C))), (6, .int (nI (b1 C))), (5, .int (nI (sM C))), (4, .int (nI (wtC C l1 (2 * 4 + p1)))), (0, .ref q), (1, .int (nI l1)), (2, .int (nI p1)), (3, .int (nI v1))]) F dX9_written_246 (by decide) rfl ?_
            have loop248 : ∀ (n : Nat) (i : Nat) (Sv : Nat → Nat), 4 - i < n → (i ≤ 4) → (sM C = 3 ∨ i = 0) → (Rel Sv (nS (uS C (up (up (up (sU C) (b1 C) 1) (b2 C) 1) (b3 C) 1)) (swp (lyb (bb (lyb (lyb (sN C) (b1 C) (wrT C l1 p1 v1) 2 4) (b2 C) (wrT C l1 p1 v1) 1 4) (lyb (sN C) (b1 C) (wrT C l1 p1 v1) 2 4) (b2 C) 0 4) (b3 C) (wrT C l1 p1 v1) 0 4) (b1 C) (b2 C) (wrT C l1 p1 v1) i))) → G Γ E 0 0 248 [(0, .ref q), (1, .int (nI l1)), (2, .int (nI p1)), (3, .int (nI v1)), (4, .int (nI (wtC C l1 (2 * 4 + p1)))), (5, .int (nI (sM C))), (6, .int (nI (b1 C))), (7, .int (nI (b2 C))), (8, .int (nI (b3 C))), (9, .int (nI i))] [] [ob 9 q [.ref (r 0), .ref (r 1), .ref (r 2), .int (nI rc), .ref (r 3), .int (nI tl), .ref (r 4), .ref (r 5), .ref (r 6), .ref (r 7), .ref (r 8), .ref (r 9), .ref (r 10), .ref (r 11), .ref (r 12), .int (nI at9), .int (lf9), .int (pl9), .int (vl9), .int (nI fa), .int (nI rs9), .int (cs), .int (nI dn)], ai E (r 0) 892 Sv, ai E (r 4) 3 B, ai E (r 5) 3 Q, ax E (r 6) 3 K, ai E (r 8) 4 (fun k => wrT C l1 p1 v1 (2 * 4 + k)), ai E (r 9) 4 (fun k => wrT C l1 p1 v1 (1 * 4 + k)), ai E (r 10) 4 (fun k => wrT C l1 p1 v1 (0 * 4 + k)), ai E (r 11) 4 M2_181] := by
              intro n
              induction n with
              | zero => intro i Sv hz; exact absurd hz (Nat.not_lt_zero _)
              | succ n ih248 =>
                intro i Sv hz248 hi hz3 hS
                refine g_iload F 9 dX9_written_248 rfl ?_
                refine g_iconst (v := nI 4) F dX9_written_250 (by decide) ?_
                refine g_icmp_geN (tgt := 298) F dX9_written_251 (by decide) (by omega) (by omega) (fun c251 => ?_) (fun c251 => ?_)
                · skip
                  exact absurd c251 (by omega)
                · skip
                  refine g_iload F 5 dX9_written_254 rfl ?_
                  refine g_iconst (v := nI 3) F dX9_written_256 (by decide) ?_
                  refine g_icmp_neN (tgt := 298) F dX9_written_257 (by decide) (by omega) (by omega) (fun c257 => ?_) (fun c257 => ?_)
                  · skip
                    have h39 : i = 0 := by omega
                    refine g_sipush (v := nI 868) F dX9_written_298 (by decide) ?_
                    refine g_iconst (v := nI 3) F dX9_written_301 (by decide) ?_
                    refine g_aload_n F 0 dX9_written_302 rfl rfl ?_
                    refine g_get F 0 0 dX9_written_303 rfl rfl (by decide) (by decide +kernel) (by decide +kernel) rfl ?_
                    refine g_sipush (v := nI 864) F dX9_written_306 (by decide) ?_
                    refine g_iald F 1 dX9_written_309 rfl (by omega) (by decide) ?_
                    refine g_top (nI (Sv 864)) (nI (sZ C)) (by rw [hS.2.2.1]; rfl) ?_
                    refine g_imulN F dX9_written_310 ?_
                    refine g_iaddN F dX9_written_311 ?_
                    refine g_iconst (v := nI 2) F dX9_written_312 (by decide) ?_
                    refine g_iaddN F dX9_written_313 ?_
                    refine g_istore (lv2 := [(9, .int (nI ((868 + (3 * (sZ C))) + 2))), (0, .ref q), (1, .int (nI l1)), (2, .int (nI p1)), (3, .int (nI v1)), (4, .int (nI (wtC C l1 (2 * 4 + p1)))), (5, .int (nI (sM C))), (6, .int (nI (b1 C))), (7, .int (nI (b2 C))), (8, .int (nI (b3 C)))]) F dX9_written_314 (by decide) rfl ?_
                    have loop316 : ∀ (n : Nat) (k : Nat), k < n → (870 ≤ k ∧ k ≤ 870 + 3 * sZ C) → G Γ E 0 0 316 [(0, .ref q), (1, .int (nI l1)), (2, .int (nI p1)), (3, .int (nI v1)), (4, .int (nI (wtC C l1 (2 * 4 + p1)))), (5, .int (nI (sM C))), (6, .int (nI (b1 C))), (7, .int (nI (b2 C))), (8, .int (nI (b3 C))), (9, .int (nI k))] [] [ob 9 q [.ref (r 0), .ref (r 1), .ref (r 2), .int (nI rc), .ref (r 3), .int (nI tl), .ref (r 4), .ref (r 5), .ref (r 6), .ref (r 7), .ref (r 8), .ref (r 9), .ref (r 10), .ref (r 11), .ref (r 12), .int (nI at9), .int (lf9), .int (pl9), .int (vl9), .int (nI fa), .int (nI rs9), .int (cs), .int (nI dn)], ai E (r 0) 892 (shf Sv k (sZ C)), ai E (r 4) 3 B, ai E (r 5) 3 Q, ax E (r 6) 3 K, ai E (r 8) 4 (fun k => wrT C l1 p1 v1 (2 * 4 + k)), ai E (r 9) 4 (fun k => wrT C l1 p1 v1 (1 * 4 + k)), ai E (r 10) 4 (fun k => wrT C l1 p1 v1 (0 * 4 + k)), ai E (r 11) 4 M2_181] := by
                      intro n
                      induction n with
                      | zero => intro k hz; exact absurd hz (Nat.not_lt_zero _)
                      | succ n ih316 =>
                        intro k hz316 hk
                        refine g_iload F 9 dX9_written_316 rfl ?_
                        refine g_sipush (v := nI 871) F dX9_written_318 (by decide) ?_
                        refine g_icmp_ltN (tgt := 346) F dX9_written_321 (by decide) (by omega) (by omega) (fun c321 => ?_) (fun c321 => ?_)
                        · skip
                          refine g_aiC 1 rfl (shf Sv 870 (sZ C)) (by intro j hj; rw [show k = 870 by omega]) (w2 := [ob 9 q [.ref (r 0), .ref (r 1), .ref (r 2), .int (nI rc), .ref (r 3), .int (nI tl), .ref (r 4), .ref (r 5), .ref (r 6), .ref (r 7), .ref (r 8), .ref (r 9), .ref (r 10), .ref (r 11), .ref (r 12), .int (nI at9), .int (lf9), .int (pl9), .int (vl9), .int (nI fa), .int (nI rs9), .int (cs), .int (nI dn)], ai E (r 0) 892 (shf Sv 870 (sZ C)), ai E (r 4) 3 B, ai E (r 5) 3 Q, ax E (r 6) 3 K, ai E (r 8) 4 (fun k => wrT C l1 p1 v1 (2 * 4 + k)), ai E (r 9) 4 (fun k => wrT C l1 p1 v1 (1 * 4 + k)), ai E (r 10) 4 (fun k => wrT C l1 p1 v1 (0 * 4 + k)), ai E (r 11) 4 M2_181]) rfl ?_
                          refine g_aload_n F 0 dX9_written_346 rfl rfl ?_
                          refine g_get F 0 0 dX9_written_347 rfl rfl (by decide) (by decide +kernel) (by decide +kernel) rfl ?_
                          refine g_sipush (v := nI 868) F dX9_written_350 (by decide) ?_
                          refine g_aload_n F 0 dX9_written_353 rfl rfl ?_
                          refine g_get F 0 0 dX9_written_354 rfl rfl (by decide) (by decide +kernel) (by decide +kernel) rfl ?_
                          refine g_sipush (v := nI 865) F dX9_written_357 (by decide) ?_
                          refine g_iald F 1 dX9_written_360 rfl (by omega) (by decide) ?_
                          refine g_top (nI ((shf Sv 870 (sZ C)) 865)) (nI (sW C + 1)) (by rw [shf_lo (by decide), hS.2.2.2.1]; rfl) ?_
                          refine g_iast F 1 dX9_written_361 rfl (by omega) (by decide) (w2 := [ob 9 q [.ref (r 0), .ref (r 1), .ref (r 2), .int (nI rc), .ref (r 3), .int (nI tl), .ref (r 4), .ref (r 5), .ref (r 6), .ref (r 7), .ref (r 8), .ref (r 9), .ref (r 10), .ref (r 11), .ref (r 12), .int (nI at9), .int (lf9), .int (pl9), .int (vl9), .int (nI fa), .int (nI rs9), .int (cs), .int (nI dn)], ai E (r 0) 892 (up (shf Sv 870 (sZ C)) 868 (sW C + 1)), ai E (r 4) 3 B, ai E (r 5) 3 Q, ax E (r 6) 3 K, ai E (r 8) 4 (fun k => wrT C l1 p1 v1 (2 * 4 + k)), ai E (r 9) 4 (fun k => wrT C l1 p1 v1 (1 * 4 + k)), ai E (r 10) 4 (fun k => wrT C l1 p1 v1 (0 * 4 + k)), ai E (r 11) 4 M2_181]) rfl ?_
                          refine g_aload_n F 0 dX9_written_362 rfl rfl ?_
                          refine g_get F 0 0 dX9_written_363 rfl rfl (by decide) (by decide +kernel) (by decide +kernel) rfl ?_
                          refine g_sipush (v := nI 869) F dX9_written_366 (by decide) ?_
                          refine g_iload F 8 dX9_written_369 rfl ?_
                          refine g_iast F 1 dX9_written_371 rfl (by omega) (by decide) (w2 := [ob 9 q [.ref (r 0), .ref (r 1), .ref (r 2), .int (nI rc), .ref (r 3), .int (nI tl), .ref (r 4), .ref (r 5), .ref (r 6), .ref (r 7), .ref (r 8), .ref (r 9), .ref (r 10), .ref (r 11), .ref (r 12), .int (nI at9), .int (lf9), .int (pl9), .int (vl9), .int (nI fa), .int (nI rs9), .int (cs), .int (nI dn)], ai E (r 0) 892 (up (up (shf Sv 870 (sZ C)) 868 (sW C + 1)) 869 (b3 C)), ai E (r 4) 3 B, ai E (r 5) 3 Q, ax E (r 6) 3 K, ai E (r 8) 4 (fun k => wrT C l1 p1 v1 (2 * 4 + k)), ai E (r 9) 4 (fun k => wrT C l1 p1 v1 (1 * 4 + k)), ai E (r 10) 4 (fun k => wrT C l1 p1 v1 (0 * 4 + k)), ai E (r 11) 4 M2_181]) rfl ?_
                          refine g_aload_n F 0 dX9_written_372 rfl rfl ?_
                          refine g_get F 0 0 dX9_written_373 rfl rfl (by decide) (by decide +kernel) (by decide +kernel) rfl ?_
                          refine g_sipush (v := nI 870) F dX9_written_376 (by decide) ?_
                          refine g_aload_n F 0 dX9_written_379 rfl rfl ?_
                          refine g_get F 0 12 dX9_written_380 rfl rfl (by decide) (by decide +kernel) (by decide +kernel) rfl ?_
                          refine g_callSiR (n := 1) F [7] (c_X9_sumIn l E (r 10) (fun k => wrT C l1 p1 v1 (0 * 4 + k)) (by exact fun _ _ => hT9 _)) dX9_written_383 rfl (by decide) rfl rfl rfl (Nat.le_of_ble_eq_true rfl) ⟨Nat.le_of_ble_eq_true rfl, Nat.le_of_ble_eq_true rfl⟩ rfl rfl ⟨Nat.le_of_ble_eq_true rfl, Nat.le_of_ble_eq_true rfl⟩ ggX9_written_X9_sumIn (by decide +kernel) (by decide +kernel) (by decide +kernel) (by decide +kernel) (fun r u hp => by obtain ⟨-, h⟩ := hp; exact h) ?_
                          rintro r_383 u_383 ⟨rfl, -⟩
                          refine g_iast F 1 dX9_written_386 rfl (by omega) (by decide) (w2 := [ob 9 q [.ref (r 0), .ref (r 1), .ref (r 2), .int (nI rc), .ref (r 3), .int (nI tl), .ref (r 4), .ref (r 5), .ref (r 6), .ref (r 7), .ref (r 8), .ref (r 9), .ref (r 10), .ref (r 11), .ref (r 12), .int (nI at9), .int (lf9), .int (pl9), .int (vl9), .int (nI fa), .int (nI rs9), .int (cs), .int (nI dn)], ai E (r 0) 892 (up (up (up (shf Sv 870 (sZ C)) 868 (sW C + 1)) 869 (b3 C)) 870 (sm (fun k => wrT C l1 p1 v1 (0 * 4 + k)) 0)), ai E (r 4) 3 B, ai E (r 5) 3 Q, ax E (r 6) 3 K, ai E (r 8) 4 (fun k => wrT C l1 p1 v1 (2 * 4 + k)), ai E (r 9) 4 (fun k => wrT C l1 p1 v1 (1 * 4 + k)), ai E (r 10) 4 (fun k => wrT C l1 p1 v1 (0 * 4 + k)), ai E (r 11) 4 M2_181]) rfl ?_
                          refine g_aload_n F 0 dX9_written_387 rfl rfl ?_
                          refine g_get F 0 0 dX9_written_388 rfl rfl (by decide) (by decide +kernel) (by decide +kernel) rfl ?_
                          refine g_sipush (v := nI 864) F dX9_written_391 (by decide) ?_
                          refine g_dup2 F dX9_written_394 rfl rfl ?_
                          refine g_iald F 1 dX9_written_395 rfl (by omega) (by decide) ?_
                          refine g_top (nI ((up (up (up (shf Sv 870 (sZ C)) 868 (sW C + 1)) 869 (b3 C)) 870 (sm (fun k => wrT C l1 p1 v1 (0 * 4 + k)) 0)) 864)) (nI (sZ C)) (by rw [up_n _ _ (by decide), up_n _ _ (by decide), up_n _ _ (by decide), shf_lo (by decide), hS.2.2.1]; rfl) ?_
                          refine g_iconst (v := nI 1) F dX9_written_396 (by decide) ?_
                          refine g_iaddN F dX9_written_397 ?_
                          refine g_iast F 1 dX9_written_398 rfl (by omega) (by decide) (w2 := [ob 9 q [.ref (r 0), .ref (r 1), .ref (r 2), .int (nI rc), .ref (r 3), .int (nI tl), .ref (r 4), .ref (r 5), .ref (r 6), .ref (r 7), .ref (r 8), .ref (r 9), .ref (r 10), .ref (r 11), .ref (r 12), .int (nI at9), .int (lf9), .int (pl9), .int (vl9), .int (nI fa), .int (nI rs9), .int (cs), .int (nI dn)], ai E (r 0) 892 (up (up (up (up (shf Sv 870 (sZ C)) 868 (sW C + 1)) 869 (b3 C)) 870 (sm (fun k => wrT C l1 p1 v1 (0 * 4 + k)) 0)) 864 ((sZ C) + 1)), ai E (r 4) 3 B, ai E (r 5) 3 Q, ax E (r 6) 3 K, ai E (r 8) 4 (fun k => wrT C l1 p1 v1 (2 * 4 + k)), ai E (r 9) 4 (fun k => wrT C l1 p1 v1 (1 * 4 + k)), ai E (r 10) 4 (fun k => wrT C l1 p1 v1 (0 * 4 + k)), ai E (r 11) 4 M2_181]) rfl ?_
                          refine g_aload_n F 0 dX9_written_399 rfl rfl ?_
                          refine g_get F 0 0 dX9_written_400 rfl rfl (by decide) (by decide +kernel) (by decide +kernel) rfl ?_
                          refine g_sipush (v := nI 865) F dX9_written_403 (by decide) ?_
                          refine g_dup2 F dX9_written_406 rfl rfl ?_
                          refine g_iald F 1 dX9_written_407 rfl (by omega) (by decide) ?_
                          refine g_top (nI ((up (up (up (up (shf Sv 870 (sZ C)) 868 (sW C + 1)) 869 (b3 C)) 870 (sm (fun k => wrT C l1 p1 v1 (0 * 4 + k)) 0)) 864 ((sZ C) + 1)) 865)) (nI (sW C + 1)) (by rw [up_n _ _ (by decide), up_n _ _ (by decide), up_n _ _ (by decide), up_n _ _ (by decide), shf_lo (by decide), hS.2.2.2.1]; rfl) ?_
                          refine g_iconst (v := nI 1) F dX9_written_408 (by decide) ?_
                          refine g_iaddN F dX9_written_409 ?_
                          refine g_iast F 1 dX9_written_410 rfl (by omega) (by decide) (w2 := [ob 9 q [.ref (r 0), .ref (r 1), .ref (r 2), .int (nI rc), .ref (r 3), .int (nI tl), .ref (r 4), .ref (r 5), .ref (r 6), .ref (r 7), .ref (r 8), .ref (r 9), .ref (r 10), .ref (r 11), .ref (r 12), .int (nI at9), .int (lf9), .int (pl9), .int (vl9), .int (nI fa), .int (nI rs9), .int (cs), .int (nI dn)], ai E (r 0) 892 (up (up (up (up (up (shf Sv 870 (sZ C)) 868 (sW C + 1)) 869 (b3 C)) 870 (sm (fun k => wrT C l1 p1 v1 (0 * 4 + k)) 0)) 864 ((sZ C) + 1)) 865 ((sW C + 1) + 1)), ai E (r 4) 3 B, ai E (r 5) 3 Q, ax E (r 6) 3 K, ai E (r 8) 4 (fun k => wrT C l1 p1 v1 (2 * 4 + k)), ai E (r 9) 4 (fun k => wrT C l1 p1 v1 (1 * 4 + k)), ai E (r 10) 4 (fun k => wrT C l1 p1 v1 (0 * 4 + k)), ai E (r 11) 4 M2_181]) rfl ?_
                          refine g_aload_n F 0 dX9_written_411 rfl rfl ?_
                          refine g_get F 0 0 dX9_written_412 rfl rfl (by decide) (by decide +kernel) (by decide +kernel) rfl ?_
                          refine g_sipush (v := nI 866) F dX9_written_415 (by decide) ?_
                          refine g_iconst (v := nI 0) F dX9_written_418 (by decide) ?_
                          refine g_iast F 1 dX9_written_419 rfl (by omega) (by decide) (w2 := [ob 9 q [.ref (r 0), .ref (r 1), .ref (r 2), .int (nI rc), .ref (r 3), .int (nI tl), .ref (r 4), .ref (r 5), .ref (r 6), .ref (r 7), .ref (r 8), .ref (r 9), .ref (r 10), .ref (r 11), .ref (r 12), .int (nI at9), .int (lf9), .int (pl9), .int (vl9), .int (nI fa), .int (nI rs9), .int (cs), .int (nI dn)], ai E (r 0) 892 (up (up (up (up (up (up (shf Sv 870 (sZ C)) 868 (sW C + 1)) 869 (b3 C)) 870 (sm (fun k => wrT C l1 p1 v1 (0 * 4 + k)) 0)) 864 ((sZ C) + 1)) 865 ((sW C + 1) + 1)) 866 0), ai E (r 4) 3 B, ai E (r 5) 3 Q, ax E (r 6) 3 K, ai E (r 8) 4 (fun k => wrT C l1 p1 v1 (2 * 4 + k)), ai E (r 9) 4 (fun k => wrT C l1 p1 v1 (1 * 4 + k)), ai E (r 10) 4 (fun k => wrT C l1 p1 v1 (0 * 4 + k)), ai E (r 11) 4 M2_181]) rfl ?_
                          refine g_aload_n F 0 dX9_written_420 rfl rfl ?_
                          refine g_get F 0 0 dX9_written_421 rfl rfl (by decide) (by decide +kernel) (by decide +kernel) rfl ?_
                          refine g_sipush (v := nI 867) F dX9_written_424 (by decide) ?_
                          refine g_dup2 F dX9_written_427 rfl rfl ?_
                          refine g_iald F 1 dX9_written_428 rfl (by omega) (by decide) ?_
                          refine g_top (nI ((up (up (up (up (up (up (shf Sv 870 (sZ C)) 868 (sW C + 1)) 869 (b3 C)) 870 (sm (fun k => wrT C l1 p1 v1 (0 * 4 + k)) 0)) 864 ((sZ C) + 1)) 865 ((sW C + 1) + 1)) 866 0) 867)) (nI (sW C)) (by rw [up_n _ _ (by decide), up_n _ _ (by decide), up_n _ _ (by decide), up_n _ _ (by decide), up_n _ _ (by decide), up_n _ _ (by decide), shf_lo (by decide), hS.2.2.2.2.2.1]; rfl) ?_
                          refine g_iconst (v := nI 1) F dX9_written_429 (by decide) ?_
                          refine g_iaddN F dX9_written_430 ?_
                          refine g_iast F 1 dX9_written_431 rfl (by omega) (by decide) (w2 := [ob 9 q [.ref (r 0), .ref (r 1), .ref (r 2), .int (nI rc), .ref (r 3), .int (nI tl), .ref (r 4), .ref (r 5), .ref (r 6), .ref (r 7), .ref (r 8), .ref (r 9), .ref (r 10), .ref (r 11), .ref (r 12), .int (nI at9), .int (lf9), .int (pl9), .int (vl9), .int (nI fa), .int (nI rs9), .int (cs), .int (nI dn)], ai E (r 0) 892 (up (up (up (up (up (up (up (shf Sv 870 (sZ C)) 868 (sW C + 1)) 869 (b3 C)) 870 (sm (fun k => wrT C l1 p1 v1 (0 * 4 + k)) 0)) 864 ((sZ C) + 1)) 865 ((sW C + 1) + 1)) 866 0) 867 ((sW C) + 1)), ai E (r 4) 3 B, ai E (r 5) 3 Q, ax E (r 6) 3 K, ai E (r 8) 4 (fun k => wrT C l1 p1 v1 (2 * 4 + k)), ai E (r 9) 4 (fun k => wrT C l1 p1 v1 (1 * 4 + k)), ai E (r 10) 4 (fun k => wrT C l1 p1 v1 (0 * 4 + k)), ai E (r 11) 4 M2_181]) rfl ?_
                          refine g_iload F 4 dX9_written_432 rfl ?_
                          exact hret _ _ _ _ dX9_written_434 ⟨(up (up (up (up (up (up (up (shf Sv 870 (sZ C)) 868 (sW C + 1)) 869 (b3 C)) 870 (sm (fun k => wrT C l1 p1 v1 (0 * 4 + k)) 0)) 864 ((sZ C) + 1)) 865 ((sW C + 1) + 1)) 866 0) 867 ((sW C) + 1)), (fun k => wrT C l1 p1 v1 (2 * 4 + k)), (fun k => wrT C l1 p1 v1 (1 * 4 + k)), (fun k => wrT C l1 p1 v1 (0 * 4 + k)), M2_181, (by exact (Rel_wr hS (b3 C) (sm (fun k => wrT C l1 p1 v1 (0 * 4 + k)) 0)).congr (fun j hj => (by show _ = cN (sM C) (sN C) (b1 C) (b2 C) (b3 C) (wrT C l1 p1 v1) j; rw [h39, swp_0]; rw [show sM C = 2 from c197]; exact wr_2 hb1 hb2 hb3 hne.1 hne.2.1 hne.2.2 j)) (fun _ _ => rfl) rfl rfl rfl (fun _ _ => ⟨rfl, rfl, rfl⟩)), rfl, (by rfl)⟩
                        · skip
                          refine g_aload_n F 0 dX9_written_324 rfl rfl ?_
                          refine g_get F 0 0 dX9_written_325 rfl rfl (by decide) (by decide +kernel) (by decide +kernel) rfl ?_
                          refine g_iload F 9 dX9_written_328 rfl ?_
                          refine g_aload_n F 0 dX9_written_330 rfl rfl ?_
                          refine g_get F 0 0 dX9_written_331 rfl rfl (by decide) (by decide +kernel) (by decide +kernel) rfl ?_
                          refine g_iload F 9 dX9_written_334 rfl ?_
                          refine g_iconst (v := nI 3) F dX9_written_336 (by decide) ?_
                          refine g_isubN F dX9_written_337 (by omega) ?_
                          refine g_iald F 1 dX9_written_338 rfl (by omega) (by decide) ?_
                          refine g_iast F 1 dX9_written_339 rfl (by omega) (by decide) (w2 := [ob 9 q [.ref (r 0), .ref (r 1), .ref (r 2), .int (nI rc), .ref (r 3), .int (nI tl), .ref (r 4), .ref (r 5), .ref (r 6), .ref (r 7), .ref (r 8), .ref (r 9), .ref (r 10), .ref (r 11), .ref (r 12), .int (nI at9), .int (lf9), .int (pl9), .int (vl9), .int (nI fa), .int (nI rs9), .int (cs), .int (nI dn)], ai E (r 0) 892 (up (shf Sv k (sZ C)) k ((shf Sv k (sZ C)) (k - 3))), ai E (r 4) 3 B, ai E (r 5) 3 Q, ax E (r 6) 3 K, ai E (r 8) 4 (fun k => wrT C l1 p1 v1 (2 * 4 + k)), ai E (r 9) 4 (fun k => wrT C l1 p1 v1 (1 * 4 + k)), ai E (r 10) 4 (fun k => wrT C l1 p1 v1 (0 * 4 + k)), ai E (r 11) 4 M2_181]) rfl ?_
                          refine g_iinc (k := 9) (v := nI (k - 1)) (lv2 := [(9, .int (nI (k - 1))), (0, .ref q), (1, .int (nI l1)), (2, .int (nI p1)), (3, .int (nI v1)), (4, .int (nI (wtC C l1 (2 * 4 + p1)))), (5, .int (nI (sM C))), (6, .int (nI (b1 C))), (7, .int (nI (b2 C))), (8, .int (nI (b3 C)))]) F dX9_written_340 rfl (pk_dec (by omega)) (by decide) rfl ?_
                          refine g_goto (tgt := 316) F dX9_written_343 (by decide) ?_
                          refine g_aiC 1 rfl (shf Sv (k - 1) (sZ C)) (by intro j hj; exact shf_s (by omega) (by omega)) (w2 := [ob 9 q [.ref (r 0), .ref (r 1), .ref (r 2), .int (nI rc), .ref (r 3), .int (nI tl), .ref (r 4), .ref (r 5), .ref (r 6), .ref (r 7), .ref (r 8), .ref (r 9), .ref (r 10), .ref (r 11), .ref (r 12), .int (nI at9), .int (lf9), .int (pl9), .int (vl9), .int (nI fa), .int (nI rs9), .int (cs), .int (nI dn)], ai E (r 0) 892 (shf Sv (k - 1) (sZ C)), ai E (r 4) 3 B, ai E (r 5) 3 Q, ax E (r 6) 3 K, ai E (r 8) 4 (fun k => wrT C l1 p1 v1 (2 * 4 + k)), ai E (r 9) 4 (fun k => wrT C l1 p1 v1 (1 * 4 + k)), ai E (r 10) 4 (fun k => wrT C l1 p1 v1 (0 * 4 + k)), ai E (r 11) 4 M2_181]) rfl ?_
                          refine g_lv [1, 2, 3, 4, 5, 6, 7, 8, 9, 0] rfl ?_
                          exact ih316 (k - 1) (by omega) (by omega)
                    refine g_aiC 1 rfl (shf Sv (868 + 3 * sZ C + 2) (sZ C)) (by intro j hj; exact (if_neg (by omega)).symm) (w2 := [ob 9 q [.ref (r 0), .ref (r 1), .ref (r 2), .int (nI rc), .ref (r 3), .int (nI tl), .ref (r 4), .ref (r 5), .ref (r 6), .ref (r 7), .ref (r 8), .ref (r 9), .ref (r 10), .ref (r 11), .ref (r 12), .int (nI at9), .int (lf9), .int (pl9), .int (vl9), .int (nI fa), .int (nI rs9), .int (cs), .int (nI dn)], ai E (r 0) 892 (shf Sv (868 + 3 * sZ C + 2) (sZ C)), ai E (r 4) 3 B, ai E (r 5) 3 Q, ax E (r 6) 3 K, ai E (r 8) 4 (fun k => wrT C l1 p1 v1 (2 * 4 + k)), ai E (r 9) 4 (fun k => wrT C l1 p1 v1 (1 * 4 + k)), ai E (r 10) 4 (fun k => wrT C l1 p1 v1 (0 * 4 + k)), ai E (r 11) 4 M2_181]) rfl ?_
                    refine g_lv [1, 2, 3, 4, 5, 6, 7, 8, 9, 0] rfl ?_
                    exact loop316 ((868 + 3 * sZ C + 2) + 1) (868 + 3 * sZ C + 2) (Nat.lt_succ_self _) (by omega)
                  · skip
                    exact absurd c257 (by omega)
            refine g_lv [6, 7, 8, 9, 5, 4, 3, 2, 1, 0] rfl ?_
            exact loop248 ((4 - 0) + 1) 0 S2_242 (Nat.lt_succ_self _) (by omega) (by exact Or.inr rfl) (by rw [swp_0]; exact hR2_242)
        · skip
          refine g_aload_n F 3 dX9_written_143 rfl rfl ?_
          refine g_iload F 0 dX9_written_144 rfl ?_
          refine g_iconst (v := nI 2) F dX9_written_146 (by decide) ?_
          refine g_callVvW (n := 2) F [0, 1, 8] (c_X9_bringsBack l E q r rc tl at9 lf9 pl9 vl9 fa rs9 cs dn S2_134 (nS (uS C (up (sU C) (b1 C) 1)) (lyb (sN C) (b1 C) (wrT C l1 p1 v1) 2 4)) M2_124 (sN C) (b1 C) 2 (by exact hR2_134) (by exact hb1) (by omega) (by exact hM2_124)) dX9_written_147 rfl (by decide) rfl rfl rfl (Nat.le_of_ble_eq_true rfl) ⟨Nat.le_of_ble_eq_true rfl, Nat.le_of_ble_eq_true rfl⟩ rfl rfl ⟨Nat.le_of_ble_eq_true rfl, Nat.le_of_ble_eq_true rfl⟩ 0 rfl rfl gX9_written_X9_bringsBack (by decide +kernel) (fun u hp => by obtain ⟨_, -, rfl⟩ := hp; rfl) ?_
          rintro u_147 ⟨S2_147, hR2_147, rfl⟩
          refine g_ws (w2 := [ob 9 q [.ref (r 0), .ref (r 1), .ref (r 2), .int (nI rc), .ref (r 3), .int (nI tl), .ref (r 4), .ref (r 5), .ref (r 6), .ref (r 7), .ref (r 8), .ref (r 9), .ref (r 10), .ref (r 11), .ref (r 12), .int (nI at9), .int (lf9), .int (pl9), .int (vl9), .int (nI fa), .int (nI rs9), .int (cs), .int (nI dn)], ai E (r 0) 892 S2_147, ai E (r 4) 3 B, ai E (r 5) 3 Q, ax E (r 6) 3 K, ai E (r 8) 4 (fun k => wrT C l1 p1 v1 (2 * 4 + k)), ai E (r 9) 4 (fun k => wtC C l1 (1 * 4 + k)), ai E (r 10) 4 (fun k => wtC C l1 (0 * 4 + k)), ai E (r 11) 4 M2_124]) rfl ?_
          refine g_aload_n F 3 dX9_written_150 rfl rfl ?_
          refine g_get F 0 11 dX9_written_151 rfl rfl (by decide) (by decide +kernel) (by decide +kernel) rfl ?_
          refine g_iload_n F 4 dX9_written_154 rfl rfl ?_
          refine g_iconst (v := nI 4) F dX9_written_155 (by decide) ?_
          refine g_iremN F dX9_written_156 (by omega) (by decide) (by decide) ?_
          refine g_sipush (v := nI 256) F dX9_written_157 (by decide) ?_
          refine g_iload F 0 dX9_written_160 rfl ?_
          refine g_imulN F dX9_written_162 ?_
          refine g_aload_n F 3 dX9_written_163 rfl rfl ?_
          refine g_get F 0 10 dX9_written_164 rfl rfl (by decide) (by decide +kernel) (by decide +kernel) rfl ?_
          refine g_callSiR (n := 1) F [5] (c_X9_sumIn l E (r 8) (fun k => wrT C l1 p1 v1 (2 * 4 + k)) (by exact fun _ _ => hT9 _)) dX9_written_167 rfl (by decide) rfl rfl rfl (Nat.le_of_ble_eq_true rfl) ⟨Nat.le_of_ble_eq_true rfl, Nat.le_of_ble_eq_true rfl⟩ rfl rfl ⟨Nat.le_of_ble_eq_true rfl, Nat.le_of_ble_eq_true rfl⟩ ggX9_written_X9_sumIn (by decide +kernel) (by decide +kernel) (by decide +kernel) (by decide +kernel) (fun r u hp => by obtain ⟨-, h⟩ := hp; exact h) ?_
          rintro r_167 u_167 ⟨rfl, -⟩
          refine g_iaddN F dX9_written_170 ?_
          refine g_iast F 6 dX9_written_171 rfl (by omega) (by decide) (w2 := [ob 9 q [.ref (r 0), .ref (r 1), .ref (r 2), .int (nI rc), .ref (r 3), .int (nI tl), .ref (r 4), .ref (r 5), .ref (r 6), .ref (r 7), .ref (r 8), .ref (r 9), .ref (r 10), .ref (r 11), .ref (r 12), .int (nI at9), .int (lf9), .int (pl9), .int (vl9), .int (nI fa), .int (nI rs9), .int (cs), .int (nI dn)], ai E (r 0) 892 S2_147, ai E (r 4) 3 B, ai E (r 5) 3 Q, ax E (r 6) 3 K, ai E (r 8) 4 (fun k => wrT C l1 p1 v1 (2 * 4 + k)), ai E (r 9) 4 (up (fun k => wtC C l1 (1 * 4 + k)) (l1 % 4) ((256 * (b1 C)) + (sm (fun k => wrT C l1 p1 v1 (2 * 4 + k)) 0))), ai E (r 10) 4 (fun k => wtC C l1 (0 * 4 + k)), ai E (r 11) 4 M2_124]) rfl ?_
          refine g_aiC 6 rfl (fun k => wrT C l1 p1 v1 (1 * 4 + k)) (by intro j hj; exact wrT_1 hl hp hj) (w2 := [ob 9 q [.ref (r 0), .ref (r 1), .ref (r 2), .int (nI rc), .ref (r 3), .int (nI tl), .ref (r 4), .ref (r 5), .ref (r 6), .ref (r 7), .ref (r 8), .ref (r 9), .ref (r 10), .ref (r 11), .ref (r 12), .int (nI at9), .int (lf9), .int (pl9), .int (vl9), .int (nI fa), .int (nI rs9), .int (cs), .int (nI dn)], ai E (r 0) 892 S2_147, ai E (r 4) 3 B, ai E (r 5) 3 Q, ax E (r 6) 3 K, ai E (r 8) 4 (fun k => wrT C l1 p1 v1 (2 * 4 + k)), ai E (r 9) 4 (fun k => wrT C l1 p1 v1 (1 * 4 + k)), ai E (r 10) 4 (fun k => wtC C l1 (0 * 4 + k)), ai E (r 11) 4 M2_124]) rfl ?_
          refine g_aload_n F 3 dX9_written_172 rfl rfl ?_
          refine g_callViW (n := 0) F [0, 1] (c_X9_newBlock l E q r rc tl at9 lf9 pl9 vl9 fa rs9 cs dn S2_147 (nS (uS C (up (sU C) (b1 C) 1)) (bb (lyb (sN C) (b1 C) (wrT C l1 p1 v1) 2 4) (sN C) (b1 C) 2 4)) (by exact hR2_147) (by exact IC_nu hI (bb_BN (lyb_BN hI.1 hT9 _ _ _) hI.1 _ _ _) (up_BU hI.2.1 (Nat.le_refl 1))) (by exact hb2)) dX9_written_173 rfl (by decide) rfl rfl rfl (Nat.le_of_ble_eq_true rfl) ⟨Nat.le_of_ble_eq_true rfl, Nat.le_of_ble_eq_true rfl⟩ rfl rfl ⟨Nat.le_of_ble_eq_true rfl, Nat.le_of_ble_eq_true rfl⟩ 0 rfl rfl gX9_written_X9_newBlock (by decide +kernel) (fun r u hp => by obtain ⟨_, -, -, rfl⟩ := hp; rfl) ?_
          rintro r_173 u_173 ⟨S2_173, hR2_173, rfl, rfl⟩
          refine g_ws (w2 := [ob 9 q [.ref (r 0), .ref (r 1), .ref (r 2), .int (nI rc), .ref (r 3), .int (nI tl), .ref (r 4), .ref (r 5), .ref (r 6), .ref (r 7), .ref (r 8), .ref (r 9), .ref (r 10), .ref (r 11), .ref (r 12), .int (nI at9), .int (lf9), .int (pl9), .int (vl9), .int (nI fa), .int (nI rs9), .int (cs), .int (nI dn)], ai E (r 0) 892 S2_173, ai E (r 4) 3 B, ai E (r 5) 3 Q, ax E (r 6) 3 K, ai E (r 8) 4 (fun k => wrT C l1 p1 v1 (2 * 4 + k)), ai E (r 9) 4 (fun k => wrT C l1 p1 v1 (1 * 4 + k)), ai E (r 10) 4 (fun k => wtC C l1 (0 * 4 + k)), ai E (r 11) 4 M2_124]) rfl ?_
          refine g_top (nI (ff (sU (nS (uS C (up (sU C) (b1 C) 1)) (bb (lyb (sN C) (b1 C) (wrT C l1 p1 v1) 2 4) (sN C) (b1 C) 2 4))) 96)) (nI (b2 C)) (by rfl) ?_
          refine g_istore (lv2 := [(7, .int (nI (b2 C))), (6, .int (nI (b1 C))), (5, .int (nI (sM C))), (4, .int (nI (wtC C l1 (2 * 4 + p1)))), (0, .ref q), (1, .int (nI l1)), (2, .int (nI p1)), (3, .int (nI v1))]) F dX9_written_176 (by decide) rfl ?_
          refine g_aload_n F 4 dX9_written_178 rfl rfl ?_
          refine g_iload F 0 dX9_written_179 rfl ?_
          refine g_callVvW (n := 1) F [0, 1, 8] (c_X9_remembers l E q r rc tl at9 lf9 pl9 vl9 fa rs9 cs dn S2_173 (nS (uS C (up (up (sU C) (b1 C) 1) (b2 C) 1)) (bb (lyb (sN C) (b1 C) (wrT C l1 p1 v1) 2 4) (sN C) (b1 C) 2 4)) M2_124 (b2 C) (by exact hR2_173) (by exact hb2)) dX9_written_181 rfl (by decide) rfl rfl rfl (Nat.le_of_ble_eq_true rfl) ⟨Nat.le_of_ble_eq_true rfl, Nat.le_of_ble_eq_true rfl⟩ rfl rfl ⟨Nat.le_of_ble_eq_true rfl, Nat.le_of_ble_eq_true rfl⟩ 0 rfl rfl gX9_written_X9_remembers (by decide +kernel) (fun u hp => by obtain ⟨_, -, rfl⟩ := hp; rfl) ?_
          rintro u_181 ⟨M2_181, hM2_181, rfl⟩
          refine g_ws (w2 := [ob 9 q [.ref (r 0), .ref (r 1), .ref (r 2), .int (nI rc), .ref (r 3), .int (nI tl), .ref (r 4), .ref (r 5), .ref (r 6), .ref (r 7), .ref (r 8), .ref (r 9), .ref (r 10), .ref (r 11), .ref (r 12), .int (nI at9), .int (lf9), .int (pl9), .int (vl9), .int (nI fa), .int (nI rs9), .int (cs), .int (nI dn)], ai E (r 0) 892 S2_173, ai E (r 4) 3 B, ai E (r 5) 3 Q, ax E (r 6) 3 K, ai E (r 8) 4 (fun k => wrT C l1 p1 v1 (2 * 4 + k)), ai E (r 9) 4 (fun k => wrT C l1 p1 v1 (1 * 4 + k)), ai E (r 10) 4 (fun k => wtC C l1 (0 * 4 + k)), ai E (r 11) 4 M2_181]) rfl ?_
          refine g_aload_n F 4 dX9_written_184 rfl rfl ?_
          refine g_iload F 0 dX9_written_185 rfl ?_
          refine g_aload_n F 4 dX9_written_187 rfl rfl ?_
          refine g_get F 0 11 dX9_written_188 rfl rfl (by decide) (by decide +kernel) (by decide +kernel) rfl ?_
          refine g_callVvW (n := 2) F [0, 1, 6] (c_X9_lays l E q r rc tl at9 lf9 pl9 vl9 fa rs9 cs dn S2_173 (nS (uS C (up (up (sU C) (b1 C) 1) (b2 C) 1)) (bb (lyb (sN C) (b1 C) (wrT C l1 p1 v1) 2 4) (sN C) (b1 C) 2 4)) (r 9) (fun k => wrT C l1 p1 v1 (1 * 4 + k)) (wrT C l1 p1 v1) 1 (b2 C) (by exact hR2_173) (by exact hb2) (by exact fun _ _ => rfl)) dX9_written_191 rfl (by decide) rfl rfl rfl (Nat.le_of_ble_eq_true rfl) ⟨Nat.le_of_ble_eq_true rfl, Nat.le_of_ble_eq_true rfl⟩ rfl rfl ⟨Nat.le_of_ble_eq_true rfl, Nat.le_of_ble_eq_true rfl⟩ 0 rfl rfl gX9_written_X9_lays (by decide +kernel) (fun u hp => by obtain ⟨_, -, rfl⟩ := hp; rfl) ?_
          rintro u_191 ⟨S2_191, hR2_191, rfl⟩
          refine g_ws (w2 := [ob 9 q [.ref (r 0), .ref (r 1), .ref (r 2), .int (nI rc), .ref (r 3), .int (nI tl), .ref (r 4), .ref (r 5), .ref (r 6), .ref (r 7), .ref (r 8), .ref (r 9), .ref (r 10), .ref (r 11), .ref (r 12), .int (nI at9), .int (lf9), .int (pl9), .int (vl9), .int (nI fa), .int (nI rs9), .int (cs), .int (nI dn)], ai E (r 0) 892 S2_191, ai E (r 4) 3 B, ai E (r 5) 3 Q, ax E (r 6) 3 K, ai E (r 8) 4 (fun k => wrT C l1 p1 v1 (2 * 4 + k)), ai E (r 9) 4 (fun k => wrT C l1 p1 v1 (1 * 4 + k)), ai E (r 10) 4 (fun k => wtC C l1 (0 * 4 + k)), ai E (r 11) 4 M2_181]) rfl ?_
          refine g_iload F 2 dX9_written_194 rfl ?_
          refine g_iconst (v := nI 2) F dX9_written_196 (by decide) ?_
          refine g_icmp_neN (tgt := 207) F dX9_written_197 (by decide) (by omega) (by omega) (fun c197 => ?_) (fun c197 => ?_)
          · skip
            refine g_aload_n F 4 dX9_written_207 rfl rfl ?_
            refine g_get F 0 12 dX9_written_208 rfl rfl (by decide) (by decide +kernel) (by decide +kernel) rfl ?_
            refine g_iload_n F 5 dX9_written_211 rfl rfl ?_
            refine g_iconst (v := nI 4) F dX9_written_212 (by decide) ?_
            refine g_idivN F dX9_written_213 (by omega) (by decide) (by decide) ?_
            refine g_sipush (v := nI 256) F dX9_written_214 (by decide) ?_
            refine g_iload F 0 dX9_written_217 rfl ?_
            refine g_imulN F dX9_written_219 ?_
            refine g_aload_n F 4 dX9_written_220 rfl rfl ?_
            refine g_get F 0 11 dX9_written_221 rfl rfl (by decide) (by decide +kernel) (by decide +kernel) rfl ?_
            refine g_callSiR (n := 1) F [6] (c_X9_sumIn l E (r 9) (fun k => wrT C l1 p1 v1 (1 * 4 + k)) (by exact fun _ _ => hT9 _)) dX9_written_224 rfl (by decide) rfl rfl rfl (Nat.le_of_ble_eq_true rfl) ⟨Nat.le_of_ble_eq_true rfl, Nat.le_of_ble_eq_true rfl⟩ rfl rfl ⟨Nat.le_of_ble_eq_true rfl, Nat.le_of_ble_eq_true rfl⟩ ggX9_written_X9_sumIn (by decide +kernel) (by decide +kernel) (by decide +kernel) (by decide +kernel) (fun r u hp => by obtain ⟨-, h⟩ := hp; exact h) ?_
            rintro r_224 u_224 ⟨rfl, -⟩
            refine g_iaddN F dX9_written_227 ?_
            refine g_iast F 7 dX9_written_228 rfl (by omega) (by decide) (w2 := [ob 9 q [.ref (r 0), .ref (r 1), .ref (r 2), .int (nI rc), .ref (r 3), .int (nI tl), .ref (r 4), .ref (r 5), .ref (r 6), .ref (r 7), .ref (r 8), .ref (r 9), .ref (r 10), .ref (r 11), .ref (r 12), .int (nI at9), .int (lf9), .int (pl9), .int (vl9), .int (nI fa), .int (nI rs9), .int (cs), .int (nI dn)], ai E (r 0) 892 S2_191, ai E (r 4) 3 B, ai E (r 5) 3 Q, ax E (r 6) 3 K, ai E (r 8) 4 (fun k => wrT C l1 p1 v1 (2 * 4 + k)), ai E (r 9) 4 (fun k => wrT C l1 p1 v1 (1 * 4 + k)), ai E (r 10) 4 (up (fun k => wtC C l1 (0 * 4 + k)) (l1 / 4) ((256 * (b2 C)) + (sm (fun k => wrT C l1 p1 v1 (1 * 4 + k)) 0))), ai E (r 11) 4 M2_181]) rfl ?_
            refine g_aiC 7 rfl (fun k => wrT C l1 p1 v1 (0 * 4 + k)) (by intro j hj; exact wrT_0 hl hp hj) (w2 := [ob 9 q [.ref (r 0), .ref (r 1), .ref (r 2), .int (nI rc), .ref (r 3), .int (nI tl), .ref (r 4), .ref (r 5), .ref (r 6), .ref (r 7), .ref (r 8), .ref (r 9), .ref (r 10), .ref (r 11), .ref (r 12), .int (nI at9), .int (lf9), .int (pl9), .int (vl9), .int (nI fa), .int (nI rs9), .int (cs), .int (nI dn)], ai E (r 0) 892 S2_191, ai E (r 4) 3 B, ai E (r 5) 3 Q, ax E (r 6) 3 K, ai E (r 8) 4 (fun k => wrT C l1 p1 v1 (2 * 4 + k)), ai E (r 9) 4 (fun k => wrT C l1 p1 v1 (1 * 4 + k)), ai E (r 10) 4 (fun k => wrT C l1 p1 v1 (0 * 4 + k)), ai E (r 11) 4 M2_181]) rfl ?_
            refine g_aload_n F 4 dX9_written_229 rfl rfl ?_
            refine g_callViW (n := 0) F [0, 1] (c_X9_newBlock l E q r rc tl at9 lf9 pl9 vl9 fa rs9 cs dn S2_191 (nS (uS C (up (up (sU C) (b1 C) 1) (b2 C) 1)) (lyb (bb (lyb (sN C) (b1 C) (wrT C l1 p1 v1) 2 4) (sN C) (b1 C) 2 4) (b2 C) (wrT C l1 p1 v1) 1 4)) (by exact hR2_191) (by exact IC_nu hI (lyb_BN (bb_BN (lyb_BN hI.1 hT9 _ _ _) hI.1 _ _ _) hT9 _ _ _) (up_BU (up_BU hI.2.1 (Nat.le_refl 1)) (Nat.le_refl 1))) (by exact hb3)) dX9_written_230 rfl (by decide) rfl rfl rfl (Nat.le_of_ble_eq_true rfl) ⟨Nat.le_of_ble_eq_true rfl, Nat.le_of_ble_eq_true rfl⟩ rfl rfl ⟨Nat.le_of_ble_eq_true rfl, Nat.le_of_ble_eq_true rfl⟩ 0 rfl rfl gX9_written_X9_newBlock (by decide +kernel) (fun r u hp => by obtain ⟨_, -, -, rfl⟩ := hp; rfl) ?_
            rintro r_230 u_230 ⟨S2_230, hR2_230, rfl, rfl⟩
            refine g_ws (w2 := [ob 9 q [.ref (r 0), .ref (r 1), .ref (r 2), .int (nI rc), .ref (r 3), .int (nI tl), .ref (r 4), .ref (r 5), .ref (r 6), .ref (r 7), .ref (r 8), .ref (r 9), .ref (r 10), .ref (r 11), .ref (r 12), .int (nI at9), .int (lf9), .int (pl9), .int (vl9), .int (nI fa), .int (nI rs9), .int (cs), .int (nI dn)], ai E (r 0) 892 S2_230, ai E (r 4) 3 B, ai E (r 5) 3 Q, ax E (r 6) 3 K, ai E (r 8) 4 (fun k => wrT C l1 p1 v1 (2 * 4 + k)), ai E (r 9) 4 (fun k => wrT C l1 p1 v1 (1 * 4 + k)), ai E (r 10) 4 (fun k => wrT C l1 p1 v1 (0 * 4 + k)), ai E (r 11) 4 M2_181]) rfl ?_
            refine g_top (nI (ff (sU (nS (uS C (up (up (sU C) (b1 C) 1) (b2 C) 1)) (lyb (bb (lyb (sN C) (b1 C) (wrT C l1 p1 v1) 2 4) (sN C) (b1 C) 2 4) (b2 C) (wrT C l1 p1 v1) 1 4))) 96)) (nI (b3 C)) (by rfl) ?_
            refine g_istore (lv2 := [(8, .int (nI (b3 C))), (7, .int (nI (b2 C))), (6, .int (nI (b1 C))), (5, .int (nI (sM C))), (4, .int (nI (wtC C l1 (2 * 4 + p1)))), (0, .ref q), (1, .int (nI l1)), (2, .int (nI p1)), (3, .int (nI v1))]) F dX9_written_233 (by decide) rfl ?_
            refine g_aload_n F 5 dX9_written_235 rfl rfl ?_
            refine g_iload F 0 dX9_written_236 rfl ?_
            refine g_aload_n F 5 dX9_written_238 rfl rfl ?_
            refine g_get F 0 12 dX9_written_239 rfl rfl (by decide) (by decide +kernel) (by decide +kernel) rfl ?_
            refine g_callVvW (n := 2) F [0, 1, 7] (c_X9_lays l E q r rc tl at9 lf9 pl9 vl9 fa rs9 cs dn S2_230 (nS (uS C (up (up (up (sU C) (b1 C) 1) (b2 C) 1) (b3 C) 1)) (lyb (bb (lyb (sN C) (b1 C) (wrT C l1 p1 v1) 2 4) (sN C) (b1 C) 2 4) (b2 C) (wrT C l1 p1 v1) 1 4)) (r 10) (fun k => wrT C l1 p1 v1 (0 * 4 + k)) (wrT C l1 p1 v1) 0 (b3 C) (by exact hR2_230) (by exact hb3) (by exact fun _ _ => rfl)) dX9_written_242 rfl (by decide) rfl rfl rfl (Nat.le_of_ble_eq_true rfl) ⟨Nat.le_of_ble_eq_true rfl, Nat.le_of_ble_eq_true rfl⟩ rfl rfl ⟨Nat.le_of_ble_eq_true rfl, Nat.le_of_ble_eq_true rfl⟩ 0 rfl rfl gX9_written_X9_lays (by decide +kernel) (fun u hp => by obtain ⟨_, -, rfl⟩ := hp; rfl) ?_
            rintro u_242 ⟨S2_242, hR2_242, rfl⟩
            refine g_ws (w2 := [ob 9 q [.ref (r 0), .ref (r 1), .ref (r 2), .int (nI rc), .ref (r 3), .int (nI tl), .ref (r 4), .ref (r 5), .ref (r 6), .ref (r 7), .ref (r 8), .ref (r 9), .ref (r 10), .ref (r 11), .ref (r 12), .int (nI at9), .int (lf9), .int (pl9), .int (vl9), .int (nI fa), .int (nI rs9), .int (cs), .int (nI dn)], ai E (r 0) 892 S2_242, ai E (r 4) 3 B, ai E (r 5) 3 Q, ax E (r 6) 3 K, ai E (r 8) 4 (fun k => wrT C l1 p1 v1 (2 * 4 + k)), ai E (r 9) 4 (fun k => wrT C l1 p1 v1 (1 * 4 + k)), ai E (r 10) 4 (fun k => wrT C l1 p1 v1 (0 * 4 + k)), ai E (r 11) 4 M2_181]) rfl ?_
            refine g_iconst (v := nI 0) F dX9_written_245 (by decide) ?_
            refine g_istore (lv2 := [(9, .int (nI 0)), (8, .int (nI (b3 C))), (7, .int (nI (b2 C))), (6, .int (nI (b1 C))), (5, .int (nI (sM C))), (4, .int (nI (wtC C l1 (2 * 4 + p1)))), (0, .ref q), (1, .int (nI l1)), (2, .int (nI p1)), (3, .int (nI v1))]) F dX9_written_246 (by decide) rfl ?_
            have loop248 : ∀ (n : Nat) (i : Nat) (Sv : Nat → Nat), 4 - i < n → (i ≤ 4) → (sM C = 3 ∨ i = 0) → (Rel Sv (nS (uS C (up (up (up (sU C) (b1 C) 1) (b2 C) 1) (b3 C) 1)) (swp (lyb (lyb (bb (lyb (sN C) (b1 C) (wrT C l1 p1 v1) 2 4) (sN C) (b1 C) 2 4) (b2 C) (wrT C l1 p1 v1) 1 4) (b3 C) (wrT C l1 p1 v1) 0 4) (b1 C) (b2 C) (wrT C l1 p1 v1) i))) → G Γ E 0 0 248 [(0, .ref q), (1, .int (nI l1)), (2, .int (nI p1)), (3, .int (nI v1)), (4, .int (nI (wtC C l1 (2 * 4 + p1)))), (5, .int (nI (sM C))), (6, .int (nI (b1 C))), (7, .int (nI (b2 C))), (8, .int (nI (b3 C))), (9, .int (nI i))] [] [ob 9 q [.ref (r 0), .ref (r 1), .ref (r 2), .int (nI rc), .ref (r 3), .int (nI tl), .ref (r 4), .ref (r 5), .ref (r 6), .ref (r 7), .ref (r 8), .ref (r 9), .ref (r 10), .ref (r 11), .ref (r 12), .int (nI at9), .int (lf9), .int (pl9), .int (vl9), .int (nI fa), .int (nI rs9), .int (cs), .int (nI dn)], ai E (r 0) 892 Sv, ai E (r 4) 3 B, ai E (r 5) 3 Q, ax E (r 6) 3 K, ai E (r 8) 4 (fun k => wrT C l1 p1 v1 (2 * 4 + k)), ai E (r 9) 4 (fun k => wrT C l1 p1 v1 (1 * 4 + k)), ai E (r 10) 4 (fun k => wrT C l1 p1 v1 (0 * 4 + k)), ai E (r 11) 4 M2_181] := by
              intro n
              induction n with
              | zero => intro i Sv hz; exact absurd hz (Nat.not_lt_zero _)
              | succ n ih248 =>
                intro i Sv hz248 hi hz3 hS
                refine g_iload F 9 dX9_written_248 rfl ?_
                refine g_iconst (v := nI 4) F dX9_written_250 (by decide) ?_
                refine g_icmp_geN (tgt := 298) F dX9_written_251 (by decide) (by omega) (by omega) (fun c251 => ?_) (fun c251 => ?_)
                · skip
                  exact absurd c251 (by omega)
                · skip
                  refine g_iload F 5 dX9_written_254 rfl ?_
                  refine g_iconst (v := nI 3) F dX9_written_256 (by decide) ?_
                  refine g_icmp_neN (tgt := 298) F dX9_written_257 (by decide) (by omega) (by omega) (fun c257 => ?_) (fun c257 => ?_)
                  · skip
                    have h39 : i = 0 := by omega
                    refine g_sipush (v := nI 868) F dX9_written_298 (by decide) ?_
                    refine g_iconst (v := nI 3) F dX9_written_301 (by decide) ?_
                    refine g_aload_n F 0 dX9_written_302 rfl rfl ?_
                    refine g_get F 0 0 dX9_written_303 rfl rfl (by decide) (by decide +kernel) (by decide +kernel) rfl ?_
                    refine g_sipush (v := nI 864) F dX9_written_306 (by decide) ?_
                    refine g_iald F 1 dX9_written_309 rfl (by omega) (by decide) ?_
                    refine g_top (nI (Sv 864)) (nI (sZ C)) (by rw [hS.2.2.1]; rfl) ?_
                    refine g_imulN F dX9_written_310 ?_
                    refine g_iaddN F dX9_written_311 ?_
                    refine g_iconst (v := nI 2) F dX9_written_312 (by decide) ?_
                    refine g_iaddN F dX9_written_313 ?_
                    refine g_istore (lv2 := [(9, .int (nI ((868 + (3 * (sZ C))) + 2))), (0, .ref q), (1, .int (nI l1)), (2, .int (nI p1)), (3, .int (nI v1)), (4, .int (nI (wtC C l1 (2 * 4 + p1)))), (5, .int (nI (sM C))), (6, .int (nI (b1 C))), (7, .int (nI (b2 C))), (8, .int (nI (b3 C)))]) F dX9_written_314 (by decide) rfl ?_
                    have loop316 : ∀ (n : Nat) (k : Nat), k < n → (870 ≤ k ∧ k ≤ 870 + 3 * sZ C) → G Γ E 0 0 316 [(0, .ref q), (1, .int (nI l1)), (2, .int (nI p1)), (3, .int (nI v1)), (4, .int (nI (wtC C l1 (2 * 4 + p1)))), (5, .int (nI (sM C))), (6, .int (nI (b1 C))), (7, .int (nI (b2 C))), (8, .int (nI (b3 C))), (9, .int (nI k))] [] [ob 9 q [.ref (r 0), .ref (r 1), .ref (r 2), .int (nI rc), .ref (r 3), .int (nI tl), .ref (r 4), .ref (r 5), .ref (r 6), .ref (r 7), .ref (r 8), .ref (r 9), .ref (r 10), .ref (r 11), .ref (r 12), .int (nI at9), .int (lf9), .int (pl9), .int (vl9), .int (nI fa), .int (nI rs9), .int (cs), .int (nI dn)], ai E (r 0) 892 (shf Sv k (sZ C)), ai E (r 4) 3 B, ai E (r 5) 3 Q, ax E (r 6) 3 K, ai E (r 8) 4 (fun k => wrT C l1 p1 v1 (2 * 4 + k)), ai E (r 9) 4 (fun k => wrT C l1 p1 v1 (1 * 4 + k)), ai E (r 10) 4 (fun k => wrT C l1 p1 v1 (0 * 4 + k)), ai E (r 11) 4 M2_181] := by
                      intro n
                      induction n with
                      | zero => intro k hz; exact absurd hz (Nat.not_lt_zero _)
                      | succ n ih316 =>
                        intro k hz316 hk
                        refine g_iload F 9 dX9_written_316 rfl ?_
                        refine g_sipush (v := nI 871) F dX9_written_318 (by decide) ?_
                        refine g_icmp_ltN (tgt := 346) F dX9_written_321 (by decide) (by omega) (by omega) (fun c321 => ?_) (fun c321 => ?_)
                        · skip
                          refine g_aiC 1 rfl (shf Sv 870 (sZ C)) (by intro j hj; rw [show k = 870 by omega]) (w2 := [ob 9 q [.ref (r 0), .ref (r 1), .ref (r 2), .int (nI rc), .ref (r 3), .int (nI tl), .ref (r 4), .ref (r 5), .ref (r 6), .ref (r 7), .ref (r 8), .ref (r 9), .ref (r 10), .ref (r 11), .ref (r 12), .int (nI at9), .int (lf9), .int (pl9), .int (vl9), .int (nI fa), .int (nI rs9), .int (cs), .int (nI dn)], ai E (r 0) 892 (shf Sv 870 (sZ C)), ai E (r 4) 3 B, ai E (r 5) 3 Q, ax E (r 6) 3 K, ai E (r 8) 4 (fun k => wrT C l1 p1 v1 (2 * 4 + k)), ai E (r 9) 4 (fun k => wrT C l1 p1 v1 (1 * 4 + k)), ai E (r 10) 4 (fun k => wrT C l1 p1 v1 (0 * 4 + k)), ai E (r 11) 4 M2_181]) rfl ?_
                          refine g_aload_n F 0 dX9_written_346 rfl rfl ?_
                          refine g_get F 0 0 dX9_written_347 rfl rfl (by decide) (by decide +kernel) (by decide +kernel) rfl ?_
                          refine g_sipush (v := nI 868) F dX9_written_350 (by decide) ?_
                          refine g_aload_n F 0 dX9_written_353 rfl rfl ?_
                          refine g_get F 0 0 dX9_written_354 rfl rfl (by decide) (by decide +kernel) (by decide +kernel) rfl ?_
                          refine g_sipush (v := nI 865) F dX9_written_357 (by decide) ?_
                          refine g_iald F 1 dX9_written_360 rfl (by omega) (by decide) ?_
                          refine g_top (nI ((shf Sv 870 (sZ C)) 865)) (nI (sW C + 1)) (by rw [shf_lo (by decide), hS.2.2.2.1]; rfl) ?_
                          refine g_iast F 1 dX9_written_361 rfl (by omega) (by decide) (w2 := [ob 9 q [.ref (r 0), .ref (r 1), .ref (r 2), .int (nI rc), .ref (r 3), .int (nI tl), .ref (r 4), .ref (r 5), .ref (r 6), .ref (r 7), .ref (r 8), .ref (r 9), .ref (r 10), .ref (r 11), .ref (r 12), .int (nI at9), .int (lf9), .int (pl9), .int (vl9), .int (nI fa), .int (nI rs9), .int (cs), .int (nI dn)], ai E (r 0) 892 (up (shf Sv 870 (sZ C)) 868 (sW C + 1)), ai E (r 4) 3 B, ai E (r 5) 3 Q, ax E (r 6) 3 K, ai E (r 8) 4 (fun k => wrT C l1 p1 v1 (2 * 4 + k)), ai E (r 9) 4 (fun k => wrT C l1 p1 v1 (1 * 4 + k)), ai E (r 10) 4 (fun k => wrT C l1 p1 v1 (0 * 4 + k)), ai E (r 11) 4 M2_181]) rfl ?_
                          refine g_aload_n F 0 dX9_written_362 rfl rfl ?_
                          refine g_get F 0 0 dX9_written_363 rfl rfl (by decide) (by decide +kernel) (by decide +kernel) rfl ?_
                          refine g_sipush (v := nI 869) F dX9_written_366 (by decide) ?_
                          refine g_iload F 8 dX9_written_369 rfl ?_
                          refine g_iast F 1 dX9_written_371 rfl (by omega) (by decide) (w2 := [ob 9 q [.ref (r 0), .ref (r 1), .ref (r 2), .int (nI rc), .ref (r 3), .int (nI tl), .ref (r 4), .ref (r 5), .ref (r 6), .ref (r 7), .ref (r 8), .ref (r 9), .ref (r 10), .ref (r 11), .ref (r 12), .int (nI at9), .int (lf9), .int (pl9), .int (vl9), .int (nI fa), .int (nI rs9), .int (cs), .int (nI dn)], ai E (r 0) 892 (up (up (shf Sv 870 (sZ C)) 868 (sW C + 1)) 869 (b3 C)), ai E (r 4) 3 B, ai E (r 5) 3 Q, ax E (r 6) 3 K, ai E (r 8) 4 (fun k => wrT C l1 p1 v1 (2 * 4 + k)), ai E (r 9) 4 (fun k => wrT C l1 p1 v1 (1 * 4 + k)), ai E (r 10) 4 (fun k => wrT C l1 p1 v1 (0 * 4 + k)), ai E (r 11) 4 M2_181]) rfl ?_
                          refine g_aload_n F 0 dX9_written_372 rfl rfl ?_
                          refine g_get F 0 0 dX9_written_373 rfl rfl (by decide) (by decide +kernel) (by decide +kernel) rfl ?_
                          refine g_sipush (v := nI 870) F dX9_written_376 (by decide) ?_
                          refine g_aload_n F 0 dX9_written_379 rfl rfl ?_
                          refine g_get F 0 12 dX9_written_380 rfl rfl (by decide) (by decide +kernel) (by decide +kernel) rfl ?_
                          refine g_callSiR (n := 1) F [7] (c_X9_sumIn l E (r 10) (fun k => wrT C l1 p1 v1 (0 * 4 + k)) (by exact fun _ _ => hT9 _)) dX9_written_383 rfl (by decide) rfl rfl rfl (Nat.le_of_ble_eq_true rfl) ⟨Nat.le_of_ble_eq_true rfl, Nat.le_of_ble_eq_true rfl⟩ rfl rfl ⟨Nat.le_of_ble_eq_true rfl, Nat.le_of_ble_eq_true rfl⟩ ggX9_written_X9_sumIn (by decide +kernel) (by decide +kernel) (by decide +kernel) (by decide +kernel) (fun r u hp => by obtain ⟨-, h⟩ := hp; exact h) ?_
                          rintro r_383 u_383 ⟨rfl, -⟩
                          refine g_iast F 1 dX9_written_386 rfl (by omega) (by decide) (w2 := [ob 9 q [.ref (r 0), .ref (r 1), .ref (r 2), .int (nI rc), .ref (r 3), .int (nI tl), .ref (r 4), .ref (r 5), .ref (r 6), .ref (r 7), .ref (r 8), .ref (r 9), .ref (r 10), .ref (r 11), .ref (r 12), .int (nI at9), .int (lf9), .int (pl9), .int (vl9), .int (nI fa), .int (nI rs9), .int (cs), .int (nI dn)], ai E (r 0) 892 (up (up (up (shf Sv 870 (sZ C)) 868 (sW C + 1)) 869 (b3 C)) 870 (sm (fun k => wrT C l1 p1 v1 (0 * 4 + k)) 0)), ai E (r 4) 3 B, ai E (r 5) 3 Q, ax E (r 6) 3 K, ai E (r 8) 4 (fun k => wrT C l1 p1 v1 (2 * 4 + k)), ai E (r 9) 4 (fun k => wrT C l1 p1 v1 (1 * 4 + k)), ai E (r 10) 4 (fun k => wrT C l1 p1 v1 (0 * 4 + k)), ai E (r 11) 4 M2_181]) rfl ?_
                          refine g_aload_n F 0 dX9_written_387 rfl rfl ?_
                          refine g_get F 0 0 dX9_written_388 rfl rfl (by decide) (by decide +kernel) (by decide +kernel) rfl ?_
                          refine g_sipush (v := nI 864) F dX9_written_391 (by decide) ?_
                          refine g_dup2 F dX9_written_394 rfl rfl ?_
                          refine g_iald F 1 dX9_written_395 rfl (by omega) (by decide) ?_
                          refine g_top (nI ((up (up (up (shf Sv 870 (sZ C)) 868 (sW C + 1)) 869 (b3 C)) 870 (sm (fun k => wrT C l1 p1 v1 (0 * 4 + k)) 0)) 864)) (nI (sZ C)) (by rw [up_n _ _ (by decide), up_n _ _ (by decide), up_n _ _ (by decide), shf_lo (by decide), hS.2.2.1]; rfl) ?_
                          refine g_iconst (v := nI 1) F dX9_written_396 (by decide) ?_
                          refine g_iaddN F dX9_written_397 ?_
                          refine g_iast F 1 dX9_written_398 rfl (by omega) (by decide) (w2 := [ob 9 q [.ref (r 0), .ref (r 1), .ref (r 2), .int (nI rc), .ref (r 3), .int (nI tl), .ref (r 4), .ref (r 5), .ref (r 6), .ref (r 7), .ref (r 8), .ref (r 9), .ref (r 10), .ref (r 11), .ref (r 12), .int (nI at9), .int (lf9), .int (pl9), .int (vl9), .int (nI fa), .int (nI rs9), .int (cs), .int (nI dn)], ai E (r 0) 892 (up (up (up (up (shf Sv 870 (sZ C)) 868 (sW C + 1)) 869 (b3 C)) 870 (sm (fun k => wrT C l1 p1 v1 (0 * 4 + k)) 0)) 864 ((sZ C) + 1)), ai E (r 4) 3 B, ai E (r 5) 3 Q, ax E (r 6) 3 K, ai E (r 8) 4 (fun k => wrT C l1 p1 v1 (2 * 4 + k)), ai E (r 9) 4 (fun k => wrT C l1 p1 v1 (1 * 4 + k)), ai E (r 10) 4 (fun k => wrT C l1 p1 v1 (0 * 4 + k)), ai E (r 11) 4 M2_181]) rfl ?_
                          refine g_aload_n F 0 dX9_written_399 rfl rfl ?_
                          refine g_get F 0 0 dX9_written_400 rfl rfl (by decide) (by decide +kernel) (by decide +kernel) rfl ?_
                          refine g_sipush (v := nI 865) F dX9_written_403 (by decide) ?_
                          refine g_dup2 F dX9_written_406 rfl rfl ?_
                          refine g_iald F 1 dX9_written_407 rfl (by omega) (by decide) ?_
                          refine g_top (nI ((up (up (up (up (shf Sv 870 (sZ C)) 868 (sW C + 1)) 869 (b3 C)) 870 (sm (fun k => wrT C l1 p1 v1 (0 * 4 + k)) 0)) 864 ((sZ C) + 1)) 865)) (nI (sW C + 1)) (by rw [up_n _ _ (by decide), up_n _ _ (by decide), up_n _ _ (by decide), up_n _ _ (by decide), shf_lo (by decide), hS.2.2.2.1]; rfl) ?_
                          refine g_iconst (v := nI 1) F dX9_written_408 (by decide) ?_
                          refine g_iaddN F dX9_written_409 ?_
                          refine g_iast F 1 dX9_written_410 rfl (by omega) (by decide) (w2 := [ob 9 q [.ref (r 0), .ref (r 1), .ref (r 2), .int (nI rc), .ref (r 3), .int (nI tl), .ref (r 4), .ref (r 5), .ref (r 6), .ref (r 7), .ref (r 8), .ref (r 9), .ref (r 10), .ref (r 11), .ref (r 12), .int (nI at9), .int (lf9), .int (pl9), .int (vl9), .int (nI fa), .int (nI rs9), .int (cs), .int (nI dn)], ai E (r 0) 892 (up (up (up (up (up (shf Sv 870 (sZ C)) 868 (sW C + 1)) 869 (b3 C)) 870 (sm (fun k => wrT C l1 p1 v1 (0 * 4 + k)) 0)) 864 ((sZ C) + 1)) 865 ((sW C + 1) + 1)), ai E (r 4) 3 B, ai E (r 5) 3 Q, ax E (r 6) 3 K, ai E (r 8) 4 (fun k => wrT C l1 p1 v1 (2 * 4 + k)), ai E (r 9) 4 (fun k => wrT C l1 p1 v1 (1 * 4 + k)), ai E (r 10) 4 (fun k => wrT C l1 p1 v1 (0 * 4 + k)), ai E (r 11) 4 M2_181]) rfl ?_
                          refine g_aload_n F 0 dX9_written_411 rfl rfl ?_
                          refine g_get F 0 0 dX9_written_412 rfl rfl (by decide) (by decide +kernel) (by decide +kernel) rfl ?_
                          refine g_sipush (v := nI 866) F dX9_written_415 (by decide) ?_
                          refine g_iconst (v := nI 0) F dX9_written_418 (by decide) ?_
                          refine g_iast F 1 dX9_written_419 rfl (by omega) (by decide) (w2 := [ob 9 q [.ref (r 0), .ref (r 1), .ref (r 2), .int (nI rc), .ref (r 3), .int (nI tl), .ref (r 4), .ref (r 5), .ref (r 6), .ref (r 7), .ref (r 8), .ref (r 9), .ref (r 10), .ref (r 11), .ref (r 12), .int (nI at9), .int (lf9), .int (pl9), .int (vl9), .int (nI fa), .int (nI rs9), .int (cs), .int (nI dn)], ai E (r 0) 892 (up (up (up (up (up (up (shf Sv 870 (sZ C)) 868 (sW C + 1)) 869 (b3 C)) 870 (sm (fun k => wrT C l1 p1 v1 (0 * 4 + k)) 0)) 864 ((sZ C) + 1)) 865 ((sW C + 1) + 1)) 866 0), ai E (r 4) 3 B, ai E (r 5) 3 Q, ax E (r 6) 3 K, ai E (r 8) 4 (fun k => wrT C l1 p1 v1 (2 * 4 + k)), ai E (r 9) 4 (fun k => wrT C l1 p1 v1 (1 * 4 + k)), ai E (r 10) 4 (fun k => wrT C l1 p1 v1 (0 * 4 + k)), ai E (r 11) 4 M2_181]) rfl ?_
                          refine g_aload_n F 0 dX9_written_420 rfl rfl ?_
                          refine g_get F 0 0 dX9_written_421 rfl rfl (by decide) (by decide +kernel) (by decide +kernel) rfl ?_
                          refine g_sipush (v := nI 867) F dX9_written_424 (by decide) ?_
                          refine g_dup2 F dX9_written_427 rfl rfl ?_
                          refine g_iald F 1 dX9_written_428 rfl (by omega) (by decide) ?_
                          refine g_top (nI ((up (up (up (up (up (up (shf Sv 870 (sZ C)) 868 (sW C + 1)) 869 (b3 C)) 870 (sm (fun k => wrT C l1 p1 v1 (0 * 4 + k)) 0)) 864 ((sZ C) + 1)) 865 ((sW C + 1) + 1)) 866 0) 867)) (nI (sW C)) (by rw [up_n _ _ (by decide), up_n _ _ (by decide), up_n _ _ (by decide), up_n _ _ (by decide), up_n _ _ (by decide), up_n _ _ (by decide), shf_lo (by decide), hS.2.2.2.2.2.1]; rfl) ?_
                          refine g_iconst (v := nI 1) F dX9_written_429 (by decide) ?_
                          refine g_iaddN F dX9_written_430 ?_
                          refine g_iast F 1 dX9_written_431 rfl (by omega) (by decide) (w2 := [ob 9 q [.ref (r 0), .ref (r 1), .ref (r 2), .int (nI rc), .ref (r 3), .int (nI tl), .ref (r 4), .ref (r 5), .ref (r 6), .ref (r 7), .ref (r 8), .ref (r 9), .ref (r 10), .ref (r 11), .ref (r 12), .int (nI at9), .int (lf9), .int (pl9), .int (vl9), .int (nI fa), .int (nI rs9), .int (cs), .int (nI dn)], ai E (r 0) 892 (up (up (up (up (up (up (up (shf Sv 870 (sZ C)) 868 (sW C + 1)) 869 (b3 C)) 870 (sm (fun k => wrT C l1 p1 v1 (0 * 4 + k)) 0)) 864 ((sZ C) + 1)) 865 ((sW C + 1) + 1)) 866 0) 867 ((sW C) + 1)), ai E (r 4) 3 B, ai E (r 5) 3 Q, ax E (r 6) 3 K, ai E (r 8) 4 (fun k => wrT C l1 p1 v1 (2 * 4 + k)), ai E (r 9) 4 (fun k => wrT C l1 p1 v1 (1 * 4 + k)), ai E (r 10) 4 (fun k => wrT C l1 p1 v1 (0 * 4 + k)), ai E (r 11) 4 M2_181]) rfl ?_
                          refine g_iload F 4 dX9_written_432 rfl ?_
                          exact hret _ _ _ _ dX9_written_434 ⟨(up (up (up (up (up (up (up (shf Sv 870 (sZ C)) 868 (sW C + 1)) 869 (b3 C)) 870 (sm (fun k => wrT C l1 p1 v1 (0 * 4 + k)) 0)) 864 ((sZ C) + 1)) 865 ((sW C + 1) + 1)) 866 0) 867 ((sW C) + 1)), (fun k => wrT C l1 p1 v1 (2 * 4 + k)), (fun k => wrT C l1 p1 v1 (1 * 4 + k)), (fun k => wrT C l1 p1 v1 (0 * 4 + k)), M2_181, (by exact (Rel_wr hS (b3 C) (sm (fun k => wrT C l1 p1 v1 (0 * 4 + k)) 0)).congr (fun j hj => (by show _ = cN (sM C) (sN C) (b1 C) (b2 C) (b3 C) (wrT C l1 p1 v1) j; rw [h39, swp_0]; rw [show sM C = 1 from c140]; exact wr_1 hb1 hb2 hb3 hne.1 hne.2.1 hne.2.2 j)) (fun _ _ => rfl) rfl rfl rfl (fun _ _ => ⟨rfl, rfl, rfl⟩)), rfl, (by rfl)⟩
                        · skip
                          refine g_aload_n F 0 dX9_written_324 rfl rfl ?_
                          refine g_get F 0 0 dX9_written_325 rfl rfl (by decide) (by decide +kernel) (by decide +kernel) rfl ?_
                          refine g_iload F 9 dX9_written_328 rfl ?_
                          refine g_aload_n F 0 dX9_written_330 rfl rfl ?_
                          refine g_get F 0 0 dX9_written_331 rfl rfl (by decide) (by decide +kernel) (by decide +kernel) rfl ?_
                          refine g_iload F 9 dX9_written_334 rfl ?_
                          refine g_iconst (v := nI 3) F dX9_written_336 (by decide) ?_
                          refine g_isubN F dX9_written_337 (by omega) ?_
                          refine g_iald F 1 dX9_written_338 rfl (by omega) (by decide) ?_
                          refine g_iast F 1 dX9_written_339 rfl (by omega) (by decide) (w2 := [ob 9 q [.ref (r 0), .ref (r 1), .ref (r 2), .int (nI rc), .ref (r 3), .int (nI tl), .ref (r 4), .ref (r 5), .ref (r 6), .ref (r 7), .ref (r 8), .ref (r 9), .ref (r 10), .ref (r 11), .ref (r 12), .int (nI at9), .int (lf9), .int (pl9), .int (vl9), .int (nI fa), .int (nI rs9), .int (cs), .int (nI dn)], ai E (r 0) 892 (up (shf Sv k (sZ C)) k ((shf Sv k (sZ C)) (k - 3))), ai E (r 4) 3 B, ai E (r 5) 3 Q, ax E (r 6) 3 K, ai E (r 8) 4 (fun k => wrT C l1 p1 v1 (2 * 4 + k)), ai E (r 9) 4 (fun k => wrT C l1 p1 v1 (1 * 4 + k)), ai E (r 10) 4 (fun k => wrT C l1 p1 v1 (0 * 4 + k)), ai E (r 11) 4 M2_181]) rfl ?_
                          refine g_iinc (k := 9) (v := nI (k - 1)) (lv2 := [(9, .int (nI (k - 1))), (0, .ref q), (1, .int (nI l1)), (2, .int (nI p1)), (3, .int (nI v1)), (4, .int (nI (wtC C l1 (2 * 4 + p1)))), (5, .int (nI (sM C))), (6, .int (nI (b1 C))), (7, .int (nI (b2 C))), (8, .int (nI (b3 C)))]) F dX9_written_340 rfl (pk_dec (by omega)) (by decide) rfl ?_
                          refine g_goto (tgt := 316) F dX9_written_343 (by decide) ?_
                          refine g_aiC 1 rfl (shf Sv (k - 1) (sZ C)) (by intro j hj; exact shf_s (by omega) (by omega)) (w2 := [ob 9 q [.ref (r 0), .ref (r 1), .ref (r 2), .int (nI rc), .ref (r 3), .int (nI tl), .ref (r 4), .ref (r 5), .ref (r 6), .ref (r 7), .ref (r 8), .ref (r 9), .ref (r 10), .ref (r 11), .ref (r 12), .int (nI at9), .int (lf9), .int (pl9), .int (vl9), .int (nI fa), .int (nI rs9), .int (cs), .int (nI dn)], ai E (r 0) 892 (shf Sv (k - 1) (sZ C)), ai E (r 4) 3 B, ai E (r 5) 3 Q, ax E (r 6) 3 K, ai E (r 8) 4 (fun k => wrT C l1 p1 v1 (2 * 4 + k)), ai E (r 9) 4 (fun k => wrT C l1 p1 v1 (1 * 4 + k)), ai E (r 10) 4 (fun k => wrT C l1 p1 v1 (0 * 4 + k)), ai E (r 11) 4 M2_181]) rfl ?_
                          refine g_lv [1, 2, 3, 4, 5, 6, 7, 8, 9, 0] rfl ?_
                          exact ih316 (k - 1) (by omega) (by omega)
                    refine g_aiC 1 rfl (shf Sv (868 + 3 * sZ C + 2) (sZ C)) (by intro j hj; exact (if_neg (by omega)).symm) (w2 := [ob 9 q [.ref (r 0), .ref (r 1), .ref (r 2), .int (nI rc), .ref (r 3), .int (nI tl), .ref (r 4), .ref (r 5), .ref (r 6), .ref (r 7), .ref (r 8), .ref (r 9), .ref (r 10), .ref (r 11), .ref (r 12), .int (nI at9), .int (lf9), .int (pl9), .int (vl9), .int (nI fa), .int (nI rs9), .int (cs), .int (nI dn)], ai E (r 0) 892 (shf Sv (868 + 3 * sZ C + 2) (sZ C)), ai E (r 4) 3 B, ai E (r 5) 3 Q, ax E (r 6) 3 K, ai E (r 8) 4 (fun k => wrT C l1 p1 v1 (2 * 4 + k)), ai E (r 9) 4 (fun k => wrT C l1 p1 v1 (1 * 4 + k)), ai E (r 10) 4 (fun k => wrT C l1 p1 v1 (0 * 4 + k)), ai E (r 11) 4 M2_181]) rfl ?_
                    refine g_lv [1, 2, 3, 4, 5, 6, 7, 8, 9, 0] rfl ?_
                    exact loop316 ((868 + 3 * sZ C + 2) + 1) (868 + 3 * sZ C + 2) (Nat.lt_succ_self _) (by omega)
                  · skip
                    exact absurd c257 (by omega)
            refine g_lv [6, 7, 8, 9, 5, 4, 3, 2, 1, 0] rfl ?_
            exact loop248 ((4 - 0) + 1) 0 S2_242 (Nat.lt_succ_self _) (by omega) (by exact Or.inr rfl) (by rw [swp_0]; exact hR2_242)
          · skip
            exact absurd c197 (by omega)
      · skip
        refine g_aload_n F 0 dX9_written_9 rfl rfl ?_
        refine g_get F 0 12 dX9_written_10 rfl rfl (by decide) (by decide +kernel) (by decide +kernel) rfl ?_
        refine g_iload F 4 dX9_written_13 rfl ?_
        refine g_aload_n F 0 dX9_written_15 rfl rfl ?_
        refine g_aload_n F 0 dX9_written_16 rfl rfl ?_
        refine g_get F 0 8 dX9_written_17 rfl rfl (by decide) (by decide +kernel) (by decide +kernel) rfl ?_
        refine g_iconst (v := nI 0) F dX9_written_20 (by decide) ?_
        refine g_xald F 4 dX9_written_21 rfl (by omega) (by decide) ?_
        refine g_top (K 0) (nI (wDC C 0 l1 0)) (by rw [hg0.1]) ?_
        refine g_aload_n F 0 dX9_written_22 rfl rfl ?_
        refine g_get F 0 6 dX9_written_23 rfl rfl (by decide) (by decide +kernel) (by decide +kernel) rfl ?_
        refine g_iconst (v := nI 0) F dX9_written_26 (by decide) ?_
        refine g_iald F 2 dX9_written_27 rfl (by omega) (by decide) ?_
        refine g_top (nI (B 0)) (nI (wBC C 0 l1 0)) (by rw [hg0.2.1]) ?_
        refine g_iload F 4 dX9_written_28 rfl ?_
        refine g_callViR (n := 3) F [0, 1] (c_X9_contentOf l E q r rc tl at9 lf9 pl9 vl9 fa rs9 cs dn S C (wDC C 0 l1 0) (wBC C 0 l1 0) i (by assumption) (by omega) (by omega) (by omega)) dX9_written_30 rfl (by decide) rfl rfl rfl (Nat.le_of_ble_eq_true rfl) ⟨Nat.le_of_ble_eq_true rfl, Nat.le_of_ble_eq_true rfl⟩ rfl rfl ⟨Nat.le_of_ble_eq_true rfl, Nat.le_of_ble_eq_true rfl⟩ 0 rfl rfl gX9_written_X9_contentOf (by decide +kernel) (fun r u hp => by obtain ⟨-, h⟩ := hp; exact h) ?_
        rintro r_30 u_30 ⟨rfl, -⟩
        refine g_iast F 7 dX9_written_33 rfl (by omega) (by decide) (w2 := [ob 9 q [.ref (r 0), .ref (r 1), .ref (r 2), .int (nI rc), .ref (r 3), .int (nI tl), .ref (r 4), .ref (r 5), .ref (r 6), .ref (r 7), .ref (r 8), .ref (r 9), .ref (r 10), .ref (r 11), .ref (r 12), .int (nI at9), .int (lf9), .int (pl9), .int (vl9), .int (nI fa), .int (nI rs9), .int (cs), .int (nI dn)], ai E (r 0) 892 S, ai E (r 4) 3 B, ai E (r 5) 3 Q, ax E (r 6) 3 K, ai E (r 8) 4 Lv, ai E (r 9) 4 Pv, ai E (r 10) 4 (up Rv i (nu (sN C) (wDC C 0 l1 0) (wBC C 0 l1 0) i)), ai E (r 11) 4 Mo]) rfl ?_
        refine g_aload_n F 0 dX9_written_34 rfl rfl ?_
        refine g_get F 0 11 dX9_written_35 rfl rfl (by decide) (by decide +kernel) (by decide +kernel) rfl ?_
        refine g_iload F 4 dX9_written_38 rfl ?_
        refine g_aload_n F 0 dX9_written_40 rfl rfl ?_
        refine g_aload_n F 0 dX9_written_41 rfl rfl ?_
        refine g_get F 0 8 dX9_written_42 rfl rfl (by decide) (by decide +kernel) (by decide +kernel) rfl ?_
        refine g_iconst (v := nI 1) F dX9_written_45 (by decide) ?_
        refine g_xald F 4 dX9_written_46 rfl (by omega) (by decide) ?_
        refine g_top (K 1) (nI (wDC C 0 l1 1)) (by rw [hg1.1]) ?_
        refine g_aload_n F 0 dX9_written_47 rfl rfl ?_
        refine g_get F 0 6 dX9_written_48 rfl rfl (by decide) (by decide +kernel) (by decide +kernel) rfl ?_
        refine g_iconst (v := nI 1) F dX9_written_51 (by decide) ?_
        refine g_iald F 2 dX9_written_52 rfl (by omega) (by decide) ?_
        refine g_top (nI (B 1)) (nI (wBC C 0 l1 1)) (by rw [hg1.2.1]) ?_
        refine g_iload F 4 dX9_written_53 rfl ?_
        refine g_callViR (n := 3) F [0, 1] (c_X9_contentOf l E q r rc tl at9 lf9 pl9 vl9 fa rs9 cs dn S C (wDC C 0 l1 1) (wBC C 0 l1 1) i (by assumption) (by omega) (by omega) (by omega)) dX9_written_55 rfl (by decide) rfl rfl rfl (Nat.le_of_ble_eq_true rfl) ⟨Nat.le_of_ble_eq_true rfl, Nat.le_of_ble_eq_true rfl⟩ rfl rfl ⟨Nat.le_of_ble_eq_true rfl, Nat.le_of_ble_eq_true rfl⟩ 0 rfl rfl gX9_written_X9_contentOf (by decide +kernel) (fun r u hp => by obtain ⟨-, h⟩ := hp; exact h) ?_
        rintro r_55 u_55 ⟨rfl, -⟩
        refine g_iast F 6 dX9_written_58 rfl (by omega) (by decide) (w2 := [ob 9 q [.ref (r 0), .ref (r 1), .ref (r 2), .int (nI rc), .ref (r 3), .int (nI tl), .ref (r 4), .ref (r 5), .ref (r 6), .ref (r 7), .ref (r 8), .ref (r 9), .ref (r 10), .ref (r 11), .ref (r 12), .int (nI at9), .int (lf9), .int (pl9), .int (vl9), .int (nI fa), .int (nI rs9), .int (cs), .int (nI dn)], ai E (r 0) 892 S, ai E (r 4) 3 B, ai E (r 5) 3 Q, ax E (r 6) 3 K, ai E (r 8) 4 Lv, ai E (r 9) 4 (up Pv i (nu (sN C) (wDC C 0 l1 1) (wBC C 0 l1 1) i)), ai E (r 10) 4 (up Rv i (nu (sN C) (wDC C 0 l1 0) (wBC C 0 l1 0) i)), ai E (r 11) 4 Mo]) rfl ?_
        refine g_aload_n F 0 dX9_written_59 rfl rfl ?_
        refine g_get F 0 10 dX9_written_60 rfl rfl (by decide) (by decide +kernel) (by decide +kernel) rfl ?_
        refine g_iload F 4 dX9_written_63 rfl ?_
        refine g_aload_n F 0 dX9_written_65 rfl rfl ?_
        refine g_aload_n F 0 dX9_written_66 rfl rfl ?_
        refine g_get F 0 8 dX9_written_67 rfl rfl (by decide) (by decide +kernel) (by decide +kernel) rfl ?_
        refine g_iconst (v := nI 2) F dX9_written_70 (by decide) ?_
        refine g_xald F 4 dX9_written_71 rfl (by omega) (by decide) ?_
        refine g_top (K 2) (nI (wDC C 0 l1 2)) (by rw [hg2.1]) ?_
        refine g_aload_n F 0 dX9_written_72 rfl rfl ?_
        refine g_get F 0 6 dX9_written_73 rfl rfl (by decide) (by decide +kernel) (by decide +kernel) rfl ?_
        refine g_iconst (v := nI 2) F dX9_written_76 (by decide) ?_
        refine g_iald F 2 dX9_written_77 rfl (by omega) (by decide) ?_
        refine g_top (nI (B 2)) (nI (wBC C 0 l1 2)) (by rw [hg2.2.1]) ?_
        refine g_iload F 4 dX9_written_78 rfl ?_
        refine g_callViR (n := 3) F [0, 1] (c_X9_contentOf l E q r rc tl at9 lf9 pl9 vl9 fa rs9 cs dn S C (wDC C 0 l1 2) (wBC C 0 l1 2) i (by assumption) (by omega) (by omega) (by omega)) dX9_written_80 rfl (by decide) rfl rfl rfl (Nat.le_of_ble_eq_true rfl) ⟨Nat.le_of_ble_eq_true rfl, Nat.le_of_ble_eq_true rfl⟩ rfl rfl ⟨Nat.le_of_ble_eq_true rfl, Nat.le_of_ble_eq_true rfl⟩ 0 rfl rfl gX9_written_X9_contentOf (by decide +kernel) (fun r u hp => by obtain ⟨-, h⟩ := hp; exact h) ?_
        rintro r_80 u_80 ⟨rfl, -⟩
        refine g_iast F 5 dX9_written_83 rfl (by omega) (by decide) (w2 := [ob 9 q [.ref (r 0), .ref (r 1), .ref (r 2), .int (nI rc), .ref (r 3), .int (nI tl), .ref (r 4), .ref (r 5), .ref (r 6), .ref (r 7), .ref (r 8), .ref (r 9), .ref (r 10), .ref (r 11), .ref (r 12), .int (nI at9), .int (lf9), .int (pl9), .int (vl9), .int (nI fa), .int (nI rs9), .int (cs), .int (nI dn)], ai E (r 0) 892 S, ai E (r 4) 3 B, ai E (r 5) 3 Q, ax E (r 6) 3 K, ai E (r 8) 4 (up Lv i (nu (sN C) (wDC C 0 l1 2) (wBC C 0 l1 2) i)), ai E (r 9) 4 (up Pv i (nu (sN C) (wDC C 0 l1 1) (wBC C 0 l1 1) i)), ai E (r 10) 4 (up Rv i (nu (sN C) (wDC C 0 l1 0) (wBC C 0 l1 0) i)), ai E (r 11) 4 Mo]) rfl ?_
        refine g_iinc (k := 4) (v := nI (i + 1)) (lv2 := [(4, .int (nI (i + 1))), (0, .ref q), (1, .int (nI l1)), (2, .int (nI p1)), (3, .int (nI v1))]) F dX9_written_84 rfl (nI_1 _) (by decide) rfl ?_
        refine g_goto (tgt := 3) F dX9_written_87 (by decide) ?_
        refine g_lv [1, 2, 3, 4, 0] rfl ?_
        exact ih3 (i + 1) (up Lv i (nu (sN C) (wDC C 0 l1 2) (wBC C 0 l1 2) i)) (up Pv i (nu (sN C) (wDC C 0 l1 1) (wBC C 0 l1 1) i)) (up Rv i (nu (sN C) (wDC C 0 l1 0) (wBC C 0 l1 0) i)) (by omega) (by omega) (by intro j hj; by_cases z : j = i; (rw [z, up_s, up_s, up_s, wtC_at (by omega), wtC_at (by omega), wtC_at (by omega)]; exact ⟨rfl, rfl, rfl⟩); (rw [up_n _ _ z, up_n _ _ z, up_n _ _ z]; exact hq j (by omega)))
  refine g_lv [1, 2, 3, 4, 0] rfl ?_
  exact loop3 ((4 - 0) + 1) 0 La Pa Ra (Nat.lt_succ_self _) (by omega) (by intro j hj; omega)
