/-! the reference's history, its roots and their owners -/
theorem Rel.arr {S T : Nat → Nat} {C : CS} (h : Rel S C) (h8 : sZ C ≤ 8) (e : ∀ j : Nat, j < 892 → S j = T j) : Rel T C := by
  obtain ⟨h1, h2, h3, h4, h5, h6, h7⟩ := h
  refine ⟨fun j hj => by rw [← e j (by omega)]; exact h1 j hj, fun j hj => by rw [← e _ (by omega)]; exact h2 j hj, by rw [← e _ (by omega)]; exact h3, by rw [← e _ (by omega)]; exact h4, by rw [← e _ (by omega)]; exact h5, by rw [← e _ (by omega)]; exact h6, fun i hi => ?_⟩
  obtain ⟨a, b, c⟩ := h7 i hi
  exact ⟨by rw [← e _ (by omega)]; exact a, by rw [← e _ (by omega)]; exact b, by rw [← e _ (by omega)]; exact c⟩
def RelH (HH : Nat → Nat) (H : Nat → CS) (n : Nat) : Prop := ∀ i : Nat, i < n → Rel (fun j => HH (892 * i + j)) (H i) ∧ IC (H i)
theorem RelH.arr {HH H2 : Nat → Nat} {H : Nat → CS} {n : Nat} (h : RelH HH H n) (e : ∀ j : Nat, j < 892 * n → HH j = H2 j) : RelH H2 H n := fun i hi => ⟨(h i hi).1.arr (h i hi).2.2.2.2.1 (fun j hj => e _ (by omega)), (h i hi).2⟩
theorem RelH.add {HH : Nat → Nat} {H : Nat → CS} {n : Nat} {C : CS} (h : RelH HH H n) {S : Nat → Nat} (hR : Rel S C) (hI : IC C) (e : ∀ j : Nat, j < 892 → HH (892 * n + j) = S j) {G : Nat → CS} (hG : ∀ i : Nat, i < n → G i = H i) (hn : G n = C) : RelH HH G (n + 1) := fun i hi => by
  by_cases z : i = n
  · rw [z, hn]; exact ⟨hR.arr hI.2.2.2.1 (fun j hj => (e j hj).symm), hI⟩
  · rw [hG i (by omega)]; exact h i (by omega)
def drf (S : Nat → Nat) (a k : Nat) : Nat → Nat := fun j => if 868 + 3 * a ≤ j ∧ j < k then S (j + 3) else S j
theorem drf_lo {S : Nat → Nat} {a k j : Nat} (h : j < 868) : drf S a k j = S j := if_neg (by omega)
theorem drf_s {S : Nat → Nat} {a k j : Nat} (h : 868 + 3 * a ≤ k) : up (drf S a k) k (drf S a k (k + 3)) j = drf S a (k + 1) j := by
  have e : drf S a k (k + 3) = S (k + 3) := if_neg (by omega)
  rw [e]
  show (if j = k then S (k + 3) else if 868 + 3 * a ≤ j ∧ j < k then S (j + 3) else S j) = if 868 + 3 * a ≤ j ∧ j < k + 1 then S (j + 3) else S j
  by_cases h1 : j = k
  · rw [if_pos h1, if_pos (by omega), h1]
  · rw [if_neg h1]
    by_cases h2 : 868 + 3 * a ≤ j ∧ j < k
    · rw [if_pos h2, if_pos (by omega)]
    · rw [if_neg h2, if_neg (by omega)]
def drS (C : CS) (a : Nat) : CS := (sN C, sU C, rmi (sn C) a 1 (sZ C), rmi (sb C) a 1 (sZ C), rmi (ss C) a 1 (sZ C), sZ C - 1, sM C, sW C)
theorem Rel.drop {S : Nat → Nat} {C : CS} (h : Rel S C) {a : Nat} (ha : a < sZ C) : Rel (up (drf S a (868 + 3 * (sZ C - 1))) 864 (sZ C - 1)) (drS C a) := by
  obtain ⟨h1, h2, h3, h4, h5, h6, h7⟩ := h
  have lo : ∀ j : Nat, j < 868 → ¬ j = 864 → up (drf S a (868 + 3 * (sZ C - 1))) 864 (sZ C - 1) j = S j := fun j hj h9 => by
    rw [up_n _ _ h9, drf_lo hj]
  refine ⟨fun j hj => by rw [lo j (by omega) (by omega)]; exact h1 j hj, fun j hj => by rw [lo _ (by omega) (by omega)]; exact h2 j hj, up_s _ _ _, by rw [lo _ (by omega) (by omega)]; exact h4, by rw [lo _ (by omega) (by omega)]; exact h5, by rw [lo _ (by omega) (by omega)]; exact h6, fun i hi => ?_⟩
  have hi3 : i < sZ C - 1 := hi
  have sh : ∀ p : Nat, p < 3 → up (drf S a (868 + 3 * (sZ C - 1))) 864 (sZ C - 1) (868 + 3 * i + p) = if a ≤ i then S (868 + 3 * (i + 1) + p) else S (868 + 3 * i + p) := fun p hp => by
    rw [up_n _ _ (by omega)]
    show (if 868 + 3 * a ≤ 868 + 3 * i + p ∧ 868 + 3 * i + p < 868 + 3 * (sZ C - 1) then S (868 + 3 * i + p + 3) else S (868 + 3 * i + p)) = _
    by_cases z : a ≤ i
    · rw [if_pos z, if_pos (by omega), show 868 + 3 * i + p + 3 = 868 + 3 * (i + 1) + p by omega]
    · rw [if_neg z, if_neg (by omega)]
  have rm9 : ∀ f : Nat → Nat, rmi f a 1 (sZ C) i = if a ≤ i then f (i + 1) else f i := fun f => by
    unfold rmi
    by_cases z : a ≤ i
    · rw [if_pos z, if_pos (by omega)]
    · rw [if_neg z, if_neg (by omega)]
  have k1 := h7 i (by omega)
  have k2 := h7 (i + 1) (by omega)
  refine ⟨?_, ?_, ?_⟩
  · refine (sh 0 (by decide)).trans ?_
    show _ = rmi (sn C) a 1 (sZ C) i
    rw [rm9]
    by_cases z : a ≤ i
    · rw [if_pos z, if_pos z]; exact k2.1
    · rw [if_neg z, if_neg z]; exact k1.1
  · refine (sh 1 (by decide)).trans ?_
    show _ = rmi (sb C) a 1 (sZ C) i
    rw [rm9]
    by_cases z : a ≤ i
    · rw [if_pos z, if_pos z]; exact k2.2.1
    · rw [if_neg z, if_neg z]; exact k1.2.1
  · refine (sh 2 (by decide)).trans ?_
    show _ = rmi (ss C) a 1 (sZ C) i
    rw [rm9]
    by_cases z : a ≤ i
    · rw [if_pos z, if_pos z]; exact k2.2.2
    · rw [if_neg z, if_neg z]; exact k1.2.2
/-- owners as bits: below the bit of a root what came before, at it whether the root owns the block -/
def OB (r : Nat) (W A Ow : Nat → Nat) : Prop := ∀ b : Nat, b < 96 → Ow b = W b + 2 ^ r * A b ∧ W b < 2 ^ r ∧ A b ≤ 1
theorem or_bit : ∀ r : Nat, r < 8 → ∀ w : Nat, w < 2 ^ r → ∀ a : Nat, a < 2 → (w + 2 ^ r * a) ||| 2 ^ r = w + 2 ^ r * 1 := by decide +kernel
theorem OB.own {r : Nat} {W A Ow : Nat → Nat} (h : OB r W A Ow) (hr : r < 8) {b : Nat} (hb : b < 96) : OB r W (ad A b) (up Ow b (Ow b ||| 2 ^ r)) := by
  intro k hk
  have e : ad A b = up A b 1 := if_pos hb
  obtain ⟨q1, q2, q3⟩ := h k hk
  rw [e]
  by_cases z : k = b
  · subst z
    rw [up_s, up_s]
    exact ⟨by rw [q1]; exact or_bit r hr _ q2 _ (by omega), q2, Nat.le_refl 1⟩
  · rw [up_n _ _ z, up_n _ _ z]; exact h k hk
noncomputable def obs (C : CS) : Nat → Nat → Nat
  | 0, _ => 0
  | i + 1, b => obs C i b + 2 ^ i * own C i b
theorem own_BU (C : CS) (r : Nat) : BU (own C r) := ab_BU (fun _ => Nat.zero_le 1) _ _
theorem obs_lt (C : CS) : ∀ i b, obs C i b < 2 ^ i
  | 0, b => Nat.one_pos
  | i + 1, b => by
    have h1 := obs_lt C i b
    have h2 := own_BU C i b
    show obs C i b + 2 ^ i * own C i b < 2 ^ (i + 1)
    rw [Nat.pow_succ]
    rcases (show own C i b = 0 ∨ own C i b = 1 by omega) with h | h <;> rw [h] <;> omega
theorem obs_bit {C : CS} {b r : Nat} : ∀ z, r < z → obs C z b / 2 ^ r % 2 = own C r b
  | 0, h => by omega
  | z + 1, h => by
    show (obs C z b + 2 ^ z * own C z b) / 2 ^ r % 2 = own C r b
    by_cases y : r = z
    · subst y
      rw [Nat.add_mul_div_left _ _ (Nat.two_pow_pos r), Nat.div_eq_of_lt (obs_lt C r b), Nat.zero_add]
      have := own_BU C r b
      exact Nat.mod_eq_of_lt (by omega)
    · obtain ⟨m, rfl⟩ : ∃ m, z = r + (m + 1) := ⟨z - r - 1, by omega⟩
      rw [show 2 ^ (r + (m + 1)) * own C (r + (m + 1)) b = 2 ^ r * (2 * (2 ^ m * own C (r + (m + 1)) b)) by rw [Nat.pow_add, Nat.pow_succ, Nat.mul_assoc, Nat.mul_comm (2 ^ m) 2, Nat.mul_assoc], Nat.add_mul_div_left _ _ (Nat.two_pow_pos r), Nat.add_mul_mod_self_left]
      exact obs_bit (r + (m + 1)) (by omega)
theorem obs_0 {C : CS} {b : Nat} : ∀ z, obs C z b = 0 ↔ ∀ r : Nat, r < z → own C r b = 0
  | 0 => ⟨fun _ r h => by omega, fun _ => rfl⟩
  | z + 1 => by
    have ih := obs_0 (C := C) (b := b) z
    have h9 : obs C (z + 1) b = obs C z b + 2 ^ z * own C z b := rfl
    have hp := Nat.two_pow_pos z
    constructor
    · intro h r hr
      rw [h9] at h
      by_cases y : r = z
      · rw [y]
        rcases Nat.eq_zero_or_pos (own C z b) with q | q
        · exact q
        · have := Nat.mul_pos hp q; omega
      · exact ih.mp (by omega) r (by omega)
    · intro h
      rw [h9, ih.mpr (fun r hr => h r (by omega)), h z (by omega)]
      rfl
/-- adding to a set: what comes is in, whatever was -/
def Ad (f : (Nat → Nat) → (Nat → Nat)) : Prop := ∀ U k, f U k = if f (fun _ => 0) k = 0 then U k else 1
theorem Ad_id : Ad (fun U => U) := fun U k => (if_pos rfl).symm
theorem Ad_comp {f g : (Nat → Nat) → (Nat → Nat)} (hf : Ad f) (hg : Ad g) : Ad (fun U => g (f U)) := fun U k => by
  show g (f U) k = if g (f (fun _ => 0)) k = 0 then U k else 1
  rw [hg (f U) k, hg (f (fun _ => 0)) k]
  by_cases h : g (fun _ => 0) k = 0
  · rw [if_pos h, if_pos h, hf U k]
  · rw [if_neg h, if_neg h, if_neg (by decide)]
theorem Ad_ad (b : Nat) : Ad (fun U => ad U b) := fun U k => by
  show ad U b k = if ad (fun _ => 0) b k = 0 then U k else 1
  unfold ad
  by_cases hb : b < 96
  · rw [if_pos hb, if_pos hb]
    by_cases z : k = b
    · rw [z, up_s, up_s]; rfl
    · rw [up_n _ _ z, up_n _ _ z]; rfl
  · rw [if_neg hb, if_neg hb]; rfl
theorem Ad_ad4 (N : Nat → Nat) (c b : Nat) : ∀ k, Ad (fun U => ad4 N c b U k)
  | 0 => Ad_id
  | k + 1 => Ad_comp (Ad_ad4 N c b k) (Ad_ad _)
theorem Ad_ap (N : Nat → Nat) (q : Nat) : Ad (fun U => ap N q U) := by
  unfold ap
  by_cases h : q / 256 < 96
  · simp only [if_pos h]
    exact Ad_comp (Ad_ad _) (Ad_ad4 _ _ _ _)
  · simp only [if_neg h]
    exact Ad_id
theorem Ad_ab4 (N : Nat → Nat) (c b : Nat) : ∀ k, Ad (fun U => ab4 N c b U k)
  | 0 => Ad_id
  | k + 1 => Ad_comp (Ad_ab4 N c b k) (Ad_ap N _)
theorem Ad_ab (N : Nat → Nat) (b s : Nat) : Ad (fun U => ab N b s U) := Ad_comp (f := fun U => ad U b) (g := fun U => ab4 N (cf N b s) b U 4) (Ad_ad b) (Ad_ab4 N (cf N b s) b 4)
theorem su_obs {C : CS} {b : Nat} : ∀ z, su (sN C) (sb C) (ss C) z b = if obs C z b = 0 then 0 else 1
  | 0 => rfl
  | z + 1 => by
    have ih := su_obs (C := C) (b := b) z
    show ab (sN C) (sb C z) (ss C z) (su (sN C) (sb C) (ss C) z) b = _
    refine (Ad_ab (sN C) (sb C z) (ss C z) _ b).trans ?_
    have e : ab (sN C) (sb C z) (ss C z) (fun _ => 0) b = own C z b := rfl
    have h9 : obs C (z + 1) b = obs C z b + 2 ^ z * own C z b := rfl
    have hp := Nat.two_pow_pos z
    show (if ab (sN C) (sb C z) (ss C z) (fun _ => 0) b = 0 then _ else _) = _
    rw [e, h9]
    by_cases h : own C z b = 0
    · rw [if_pos h, h, Nat.mul_zero, Nat.add_zero]; exact ih
    · rw [if_neg h, if_neg]
      have := Nat.mul_pos hp (Nat.pos_of_ne_zero h)
      omega
theorem oth_0 {C : CS} {r b : Nat} : ∀ z, oth C r z b = 0 ↔ ∀ i : Nat, i < z → ¬ i = r → own C i b = 0
  | 0 => ⟨fun _ i h => by omega, fun _ => rfl⟩
  | z + 1 => by
    have ih := oth_0 (C := C) (r := r) (b := b) z
    have e : oth C r (z + 1) b = if z = r then oth C r z b else if own C z b = 0 then oth C r z b else 1 := by
      show (if z = r then oth C r z else ab (sN C) (sb C z) (ss C z) (oth C r z)) b = _
      by_cases h : z = r
      · rw [if_pos h, if_pos h]
      · rw [if_neg h, if_neg h]
        exact Ad_ab (sN C) (sb C z) (ss C z) _ b
    rw [e]
    by_cases h : z = r
    · rw [if_pos h, ih]
      exact ⟨fun q i hi hr => q i (by omega) hr, fun q i hi hr => q i (by omega) hr⟩
    · rw [if_neg h]
      by_cases h2 : own C z b = 0
      · rw [if_pos h2, ih]
        refine ⟨fun q i hi hr => ?_, fun q i hi hr => q i (by omega) hr⟩
        by_cases y : i = z
        · rw [y]; exact h2
        · exact q i (by omega) hr
      · rw [if_neg h2]
        exact ⟨fun q => absurd q (by decide), fun q => absurd (q z (by omega) h) h2⟩
theorem obs_eq {C : CS} {r b : Nat} : ∀ z, r < z → (obs C z b = 2 ^ r ↔ (own C r b = 1 ∧ oth C r z b = 0)) := fun z hz => by
  have hp := Nat.two_pow_pos r
  have hb := obs_bit (C := C) (b := b) z hz
  constructor
  · intro h
    have h1 : own C r b = 1 := by
      rw [← hb, h, Nat.div_self hp]
    refine ⟨h1, (oth_0 z).mpr (fun i hi hr => ?_)⟩
    have hb2 := obs_bit (C := C) (b := b) z hi
    rw [h] at hb2
    rw [← hb2]
    by_cases y : i < r
    · obtain ⟨m, rfl⟩ : ∃ m, r = i + (m + 1) := ⟨r - i - 1, by omega⟩
      rw [Nat.pow_add, Nat.mul_div_cancel_left _ (Nat.two_pow_pos i), Nat.pow_succ, Nat.mul_mod_left]
    · rw [Nat.div_eq_of_lt (Nat.pow_lt_pow_right (by decide) (by omega))]
  · intro ⟨h1, h2⟩
    have h3 := (oth_0 z).mp h2
    have key : ∀ n, n ≤ z → obs C n b = if r < n then 2 ^ r else 0 := by
      intro n
      induction n with
      | zero => intro _; rfl
      | succ n ih =>
        intro hn
        show obs C n b + 2 ^ n * own C n b = _
        rw [ih (by omega)]
        by_cases y : n = r
        · rw [y, h1, if_neg (by omega), if_pos (by omega)]; omega
        · rw [h3 n (by omega) y]
          by_cases w : r < n
          · rw [if_pos w, if_pos (by omega)]; omega
          · rw [if_neg w, if_neg (by omega)]; omega
    rw [key z (Nat.le_refl z), if_pos hz]
theorem shr_bit : ∀ r : Nat, r < 8 → ∀ x : Nat, x < 256 → ((nI x >>> (nI r &&& 31)) &&& nI 1) = nI (x / 2 ^ r % 2) := by decide +kernel
theorem IC_dr {C : CS} (h : IC C) {a : Nat} (ha : a < sZ C) (h2 : 2 ≤ sZ C) : IC (drS C a) := by
  refine ⟨h.1, h.2.1, ?_, ?_, h.2.2.2.2.1, fun i hi => rmi_lt (fun j hj => h.rb hj) hi, fun i hi => rmi_lt (fun j hj => h.rs hj) hi⟩
  · show 1 ≤ sZ C - 1; omega
  · have := h.2.2.2.1
    show sZ C - 1 ≤ 8; omega
def frU (C : CS) : Nat → Nat := su (sN C) (sb C) (ss C) (sZ C)
set_option maxHeartbeats 4000000 in
set_option maxRecDepth 100000 in
theorem c_X9_copy (l : Launch) (E : En) (a1 : Nat) (n1 : Nat) (Fm : Nat → Nat) (f : Nat) (a2 : Nat) (n2 : Nat) (To : Nat → Nat) (t : Nat) (h1 : f + 892 ≤ n1) (h2 : t + 892 ≤ n2) (h3 : n1 < 2 ^ 31) (h4 : n2 < 2 ^ 31) : CtV l yX9_copy wsX9_copy ({ frames := 0, cells := 0, slots := 0, locals := 0 } : Room) E [.ref a1, .int (nI f), .ref a2, .int (nI t)] [ai E a1 n1 Fm, ai E a2 n2 To] (fun uu => ∃ (T2 : Nat → Nat), ((∀ k : Nat, k < 892 → T2 (t + k) = Fm (f + k)) ∧ ∀ j : Nat, ¬ (t ≤ j ∧ j < t + 892) → T2 j = To j) ∧ uu = [ai E a1 n1 Fm, ai E a2 n2 T2]) := by
  refine CtV.of cX9_copy 5 RX9 rfl (by decide) rfl (Nat.le_of_ble_eq_true rfl) ?_
  intro Γ F hin0 hret
  show G Γ E 0 0 0 [(0, .ref a1), (1, .int (nI f)), (2, .ref a2), (3, .int (nI t))] [] [ai E a1 n1 Fm, ai E a2 n2 To]
  refine g_iconst (v := nI 0) F dX9_copy_0 (by decide) ?_
  refine g_istore (lv2 := [(4, .int (nI 0)), (0, .ref a1), (1, .int (nI f)), (2, .ref a2), (3, .int (nI t))]) F dX9_copy_1 (by decide) rfl ?_
  have loop3 : ∀ (n : Nat) (i : Nat) (Tv : Nat → Nat), 892 - i < n → (i ≤ 892) → ((∀ k : Nat, k < i → Tv (t + k) = Fm (f + k)) ∧ ∀ j : Nat, ¬ (t ≤ j ∧ j < t + i) → Tv j = To j) → G Γ E 0 0 3 [(0, .ref a1), (1, .int (nI f)), (2, .ref a2), (3, .int (nI t)), (4, .int (nI i))] [] [ai E a1 n1 Fm, ai E a2 n2 Tv] := by
    intro n
    induction n with
    | zero => intro i Tv hz; exact absurd hz (Nat.not_lt_zero _)
    | succ n ih3 =>
      intro i Tv hz3 hi hT
      refine g_iload F 4 dX9_copy_3 rfl ?_
      refine g_sipush (v := nI 892) F dX9_copy_5 (by decide) ?_
      refine g_icmp_geN (tgt := 29) F dX9_copy_8 (by decide) (by omega) (by omega) (fun c8 => ?_) (fun c8 => ?_)
      · skip
        exact hret _ _ _ dX9_copy_29 ⟨Tv, (by have e9 : i = 892 := (by omega); rw [e9] at hT; exact hT), (by rfl)⟩
      · skip
        refine g_aload_n F 2 dX9_copy_11 rfl rfl ?_
        refine g_iload_n F 3 dX9_copy_12 rfl rfl ?_
        refine g_iload F 4 dX9_copy_13 rfl ?_
        refine g_iaddN F dX9_copy_15 ?_
        refine g_aload_n F 0 dX9_copy_16 rfl rfl ?_
        refine g_iload_n F 1 dX9_copy_17 rfl rfl ?_
        refine g_iload F 4 dX9_copy_18 rfl ?_
        refine g_iaddN F dX9_copy_20 ?_
        refine g_iald F 0 dX9_copy_21 rfl (by omega) (by omega) ?_
        refine g_iast F 1 dX9_copy_22 rfl (by omega) (by omega) (w2 := [ai E a1 n1 Fm, ai E a2 n2 (up Tv (t + i) (Fm (f + i)))]) rfl ?_
        refine g_iinc (k := 4) (v := nI (i + 1)) (lv2 := [(4, .int (nI (i + 1))), (0, .ref a1), (1, .int (nI f)), (2, .ref a2), (3, .int (nI t))]) F dX9_copy_23 rfl (nI_1 _) (by decide) rfl ?_
        refine g_goto (tgt := 3) F dX9_copy_26 (by decide) ?_
        refine g_lv [1, 2, 3, 4, 0] rfl ?_
        exact ih3 (i + 1) (up Tv (t + i) (Fm (f + i))) (by omega) (by omega) (by exact ⟨fun k hk => by (by_cases z : k = i); (rw [z, up_s]); (rw [up_n _ _ (by omega)]; exact hT.1 k (by omega)), fun j hj => by (rw [up_n _ _ (by omega)]; exact hT.2 j (by omega))⟩)
  refine g_lv [1, 2, 3, 4, 0] rfl ?_
  exact loop3 ((892 - 0) + 1) 0 To (Nat.lt_succ_self _) (by omega) (by exact ⟨fun k hk => by omega, fun _ _ => rfl⟩)
set_option maxHeartbeats 4000000 in
set_option maxRecDepth 100000 in
theorem c_X9_record (l : Launch) (E : En) (q : Nat) (r : Nat → Nat) (rc : Nat) (tl : Nat) (at9 : Nat) (lf9 : Int32) (pl9 : Int32) (vl9 : Int32) (fa : Nat) (rs9 : Nat) (cs : Int32) (dn : Nat) (S : Nat → Nat) (C : CS) (HH : Nat → Nat) (H : Nat → CS) (hR : Rel S C) (hI : IC C) (hRH : RelH HH H rc) (hrc : rc ≤ 3) : CtV l yX9_record wsX9_record ({ frames := 1, cells := 0, slots := 0, locals := 24 } : Room) E [.ref q] [ob 9 q [.ref (r 0), .ref (r 1), .ref (r 2), .int (nI rc), .ref (r 3), .int (nI tl), .ref (r 4), .ref (r 5), .ref (r 6), .ref (r 7), .ref (r 8), .ref (r 9), .ref (r 10), .ref (r 11), .ref (r 12), .int (nI at9), .int (lf9), .int (pl9), .int (vl9), .int (nI fa), .int (nI rs9), .int (cs), .int (nI dn)], ai E (r 0) 892 S, ai E (r 2) 2676 HH] (fun uu => ∃ (H2 : Nat → Nat), (RelH H2 (rcH C H rc) (rcn rc)) ∧ uu = [ob 9 q [.ref (r 0), .ref (r 1), .ref (r 2), .int (nI (rcn rc)), .ref (r 3), .int (nI tl), .ref (r 4), .ref (r 5), .ref (r 6), .ref (r 7), .ref (r 8), .ref (r 9), .ref (r 10), .ref (r 11), .ref (r 12), .int (nI at9), .int (lf9), .int (pl9), .int (vl9), .int (nI fa), .int (nI rs9), .int (cs), .int (nI dn)], ai E (r 0) 892 S, ai E (r 2) 2676 H2]) := by
  refine CtV.of cX9_record 2 RX9 rfl (by decide) rfl (Nat.le_of_ble_eq_true rfl) ?_
  intro Γ F hin0 hret
  show G Γ E 0 0 0 [(0, .ref q)] [] [ob 9 q [.ref (r 0), .ref (r 1), .ref (r 2), .int (nI rc), .ref (r 3), .int (nI tl), .ref (r 4), .ref (r 5), .ref (r 6), .ref (r 7), .ref (r 8), .ref (r 9), .ref (r 10), .ref (r 11), .ref (r 12), .int (nI at9), .int (lf9), .int (pl9), .int (vl9), .int (nI fa), .int (nI rs9), .int (cs), .int (nI dn)], ai E (r 0) 892 S, ai E (r 2) 2676 HH]
  refine g_aload_n F 0 dX9_record_0 rfl rfl ?_
  refine g_get F 0 3 dX9_record_1 rfl rfl (by decide) (by decide +kernel) (by decide +kernel) rfl ?_
  refine g_iconst (v := nI 3) F dX9_record_4 (by decide) ?_
  refine g_icmp_neN (tgt := 49) F dX9_record_5 (by decide) (by omega) (by omega) (fun c5 => ?_) (fun c5 => ?_)
  · skip
    refine g_aload_n F 0 dX9_record_49 rfl rfl ?_
    refine g_get F 0 0 dX9_record_50 rfl rfl (by decide) (by decide +kernel) (by decide +kernel) rfl ?_
    refine g_iconst (v := nI 0) F dX9_record_53 (by decide) ?_
    refine g_aload_n F 0 dX9_record_54 rfl rfl ?_
    refine g_get F 0 2 dX9_record_55 rfl rfl (by decide) (by decide +kernel) (by decide +kernel) rfl ?_
    refine g_aload_n F 0 dX9_record_58 rfl rfl ?_
    refine g_get F 0 3 dX9_record_59 rfl rfl (by decide) (by decide +kernel) (by decide +kernel) rfl ?_
    refine g_sipush (v := nI 892) F dX9_record_62 (by decide) ?_
    refine g_imulN F dX9_record_65 ?_
    refine g_callSvW (n := 4) F [1, 2] (c_X9_copy l E (r 0) 892 S 0 (r 2) 2676 HH (rc * 892) (by omega) (by omega) (by omega) (by omega)) dX9_record_66 rfl (by decide) rfl rfl rfl (Nat.le_of_ble_eq_true rfl) ⟨Nat.le_of_ble_eq_true rfl, Nat.le_of_ble_eq_true rfl⟩ rfl rfl ⟨Nat.le_of_ble_eq_true rfl, Nat.le_of_ble_eq_true rfl⟩ ggX9_record_X9_copy (by decide +kernel) (by decide +kernel) (by decide +kernel) (by decide +kernel) (fun u hp => by obtain ⟨_, -, rfl⟩ := hp; rfl) ?_
    rintro u_66 ⟨T2_66, hT_66, rfl⟩
    refine g_ws (w2 := [ob 9 q [.ref (r 0), .ref (r 1), .ref (r 2), .int (nI rc), .ref (r 3), .int (nI tl), .ref (r 4), .ref (r 5), .ref (r 6), .ref (r 7), .ref (r 8), .ref (r 9), .ref (r 10), .ref (r 11), .ref (r 12), .int (nI at9), .int (lf9), .int (pl9), .int (vl9), .int (nI fa), .int (nI rs9), .int (cs), .int (nI dn)], ai E (r 0) 892 S, ai E (r 2) 2676 T2_66]) rfl ?_
    refine g_aload_n F 0 dX9_record_69 rfl rfl ?_
    refine g_dup F dX9_record_70 rfl ?_
    refine g_get F 0 3 dX9_record_71 rfl rfl (by decide) (by decide +kernel) (by decide +kernel) rfl ?_
    refine g_iconst (v := nI 1) F dX9_record_74 (by decide) ?_
    refine g_iaddN F dX9_record_75 ?_
    refine g_put F 0 3 dX9_record_76 rfl rfl (by decide) (by decide +kernel) (by decide +kernel) tyX9_ok nmX9 rfl (by decide +kernel) rfl rfl (Nat.le_of_ble_eq_true rfl) rfl (ty := .int) (w2 := [ob 9 q [.ref (r 0), .ref (r 1), .ref (r 2), .int (nI (rc + 1)), .ref (r 3), .int (nI tl), .ref (r 4), .ref (r 5), .ref (r 6), .ref (r 7), .ref (r 8), .ref (r 9), .ref (r 10), .ref (r 11), .ref (r 12), .int (nI at9), .int (lf9), .int (pl9), .int (vl9), .int (nI fa), .int (nI rs9), .int (cs), .int (nI dn)], ai E (r 0) 892 S, ai E (r 2) 2676 T2_66]) rfl ?_
    exact hret _ _ _ dX9_record_79 ⟨T2_66, (by 
          have e5 : rcn rc = rc + 1 := if_pos (by omega)
          rw [e5]
          have e6 : rcH C H rc = fun j => if j = rc then C else H j := if_pos (by omega)
          rw [e6]
          exact (hRH.arr (fun j hj => (hT_66.2 j (by omega)).symm)).add hR hI (fun j hj => by rw [show 892 * rc + j = rc * 892 + j by omega, hT_66.1 j hj, Nat.zero_add]) (fun i9 hi9 => if_neg (by omega)) (if_pos rfl)), (by have e5 : rcn rc = rc + 1 := if_pos (by omega); rw [e5])⟩
  · skip
    refine g_iconst (v := nI 0) F dX9_record_8 (by decide) ?_
    refine g_istore_n (lv2 := [(1, .int (nI 0)), (0, .ref q)]) F dX9_record_9 rfl (by decide) rfl ?_
    have loop10 : ∀ (n : Nat) (i : Nat) (Hv : Nat → Nat), 1784 - i < n → (i ≤ 1784) → ((∀ j : Nat, j < i → Hv j = HH (j + 892)) ∧ ∀ j : Nat, i ≤ j → Hv j = HH j) → G Γ E 0 0 10 [(0, .ref q), (1, .int (nI i))] [] [ob 9 q [.ref (r 0), .ref (r 1), .ref (r 2), .int (nI rc), .ref (r 3), .int (nI tl), .ref (r 4), .ref (r 5), .ref (r 6), .ref (r 7), .ref (r 8), .ref (r 9), .ref (r 10), .ref (r 11), .ref (r 12), .int (nI at9), .int (lf9), .int (pl9), .int (vl9), .int (nI fa), .int (nI rs9), .int (cs), .int (nI dn)], ai E (r 0) 892 S, ai E (r 2) 2676 Hv] := by
      intro n
      induction n with
      | zero => intro i Hv hz; exact absurd hz (Nat.not_lt_zero _)
      | succ n ih10 =>
        intro i Hv hz10 hi hH
        refine g_iload_n F 1 dX9_record_10 rfl rfl ?_
        refine g_sipush (v := nI 1784) F dX9_record_11 (by decide) ?_
        refine g_icmp_geN (tgt := 39) F dX9_record_14 (by decide) (by omega) (by omega) (fun c14 => ?_) (fun c14 => ?_)
        · skip
          refine g_aload_n F 0 dX9_record_39 rfl rfl ?_
          refine g_dup F dX9_record_40 rfl ?_
          refine g_get F 0 3 dX9_record_41 rfl rfl (by decide) (by decide +kernel) (by decide +kernel) rfl ?_
          refine g_iconst (v := nI 1) F dX9_record_44 (by decide) ?_
          refine g_isubN F dX9_record_45 (by omega) ?_
          refine g_put F 0 3 dX9_record_46 rfl rfl (by decide) (by decide +kernel) (by decide +kernel) tyX9_ok nmX9 rfl (by decide +kernel) rfl rfl (Nat.le_of_ble_eq_true rfl) rfl (ty := .int) (w2 := [ob 9 q [.ref (r 0), .ref (r 1), .ref (r 2), .int (nI (rc - 1)), .ref (r 3), .int (nI tl), .ref (r 4), .ref (r 5), .ref (r 6), .ref (r 7), .ref (r 8), .ref (r 9), .ref (r 10), .ref (r 11), .ref (r 12), .int (nI at9), .int (lf9), .int (pl9), .int (vl9), .int (nI fa), .int (nI rs9), .int (cs), .int (nI dn)], ai E (r 0) 892 S, ai E (r 2) 2676 Hv]) rfl ?_
          refine g_aload_n F 0 dX9_record_49 rfl rfl ?_
          refine g_get F 0 0 dX9_record_50 rfl rfl (by decide) (by decide +kernel) (by decide +kernel) rfl ?_
          refine g_iconst (v := nI 0) F dX9_record_53 (by decide) ?_
          refine g_aload_n F 0 dX9_record_54 rfl rfl ?_
          refine g_get F 0 2 dX9_record_55 rfl rfl (by decide) (by decide +kernel) (by decide +kernel) rfl ?_
          refine g_aload_n F 0 dX9_record_58 rfl rfl ?_
          refine g_get F 0 3 dX9_record_59 rfl rfl (by decide) (by decide +kernel) (by decide +kernel) rfl ?_
          refine g_sipush (v := nI 892) F dX9_record_62 (by decide) ?_
          refine g_imulN F dX9_record_65 ?_
          refine g_callSvW (n := 4) F [1, 2] (c_X9_copy l E (r 0) 892 S 0 (r 2) 2676 Hv ((rc - 1) * 892) (by omega) (by omega) (by omega) (by omega)) dX9_record_66 rfl (by decide) rfl rfl rfl (Nat.le_of_ble_eq_true rfl) ⟨Nat.le_of_ble_eq_true rfl, Nat.le_of_ble_eq_true rfl⟩ rfl rfl ⟨Nat.le_of_ble_eq_true rfl, Nat.le_of_ble_eq_true rfl⟩ ggX9_record_X9_copy (by decide +kernel) (by decide +kernel) (by decide +kernel) (by decide +kernel) (fun u hp => by obtain ⟨_, -, rfl⟩ := hp; rfl) ?_
          rintro u_66 ⟨T2_66, hT_66, rfl⟩
          refine g_ws (w2 := [ob 9 q [.ref (r 0), .ref (r 1), .ref (r 2), .int (nI (rc - 1)), .ref (r 3), .int (nI tl), .ref (r 4), .ref (r 5), .ref (r 6), .ref (r 7), .ref (r 8), .ref (r 9), .ref (r 10), .ref (r 11), .ref (r 12), .int (nI at9), .int (lf9), .int (pl9), .int (vl9), .int (nI fa), .int (nI rs9), .int (cs), .int (nI dn)], ai E (r 0) 892 S, ai E (r 2) 2676 T2_66]) rfl ?_
          refine g_aload_n F 0 dX9_record_69 rfl rfl ?_
          refine g_dup F dX9_record_70 rfl ?_
          refine g_get F 0 3 dX9_record_71 rfl rfl (by decide) (by decide +kernel) (by decide +kernel) rfl ?_
          refine g_iconst (v := nI 1) F dX9_record_74 (by decide) ?_
          refine g_iaddN F dX9_record_75 ?_
          refine g_put F 0 3 dX9_record_76 rfl rfl (by decide) (by decide +kernel) (by decide +kernel) tyX9_ok nmX9 rfl (by decide +kernel) rfl rfl (Nat.le_of_ble_eq_true rfl) rfl (ty := .int) (w2 := [ob 9 q [.ref (r 0), .ref (r 1), .ref (r 2), .int (nI ((rc - 1) + 1)), .ref (r 3), .int (nI tl), .ref (r 4), .ref (r 5), .ref (r 6), .ref (r 7), .ref (r 8), .ref (r 9), .ref (r 10), .ref (r 11), .ref (r 12), .int (nI at9), .int (lf9), .int (pl9), .int (vl9), .int (nI fa), .int (nI rs9), .int (cs), .int (nI dn)], ai E (r 0) 892 S, ai E (r 2) 2676 T2_66]) rfl ?_
          exact hret _ _ _ dX9_record_79 ⟨T2_66, (by 
                have e5 : rcn rc = 2 + 1 := (by rw [show rc = 3 from c5]; rfl); rw [e5]; have e6 : ∀ j : Nat, rcH C H rc j = if j = 0 then H 1 else if j = 1 then H 2 else if j = 2 then C else H j := fun j => by (rw [show rc = 3 from c5]; rfl)
                have hA : RelH T2_66 (fun j => H (j + 1)) 2 := fun i9 hi9 => ⟨(hRH (i9 + 1) (by omega)).1.arr (hRH (i9 + 1) (by omega)).2.2.2.2.1 (fun j hj => by rw [hT_66.2 _ (by omega), hH.1 _ (by omega), show 892 * i9 + j + 892 = 892 * (i9 + 1) + j by omega]), (hRH (i9 + 1) (by omega)).2⟩
                exact hA.add hR hI (fun j hj => by rw [show 892 * 2 + j = (rc - 1) * 892 + j by omega, hT_66.1 j hj, Nat.zero_add]) (fun i9 hi9 => by rw [e6]; rcases (show i9 = 0 ∨ i9 = 1 by omega) with rfl | rfl <;> rfl) (by rw [e6]; rfl)), (by have e5 : rcn rc = rc - 1 + 1 := (by rw [show rc = 3 from c5]; rfl); rw [e5])⟩
        · skip
          refine g_aload_n F 0 dX9_record_17 rfl rfl ?_
          refine g_get F 0 2 dX9_record_18 rfl rfl (by decide) (by decide +kernel) (by decide +kernel) rfl ?_
          refine g_iload_n F 1 dX9_record_21 rfl rfl ?_
          refine g_aload_n F 0 dX9_record_22 rfl rfl ?_
          refine g_get F 0 2 dX9_record_23 rfl rfl (by decide) (by decide +kernel) (by decide +kernel) rfl ?_
          refine g_iload_n F 1 dX9_record_26 rfl rfl ?_
          refine g_sipush (v := nI 892) F dX9_record_27 (by decide) ?_
          refine g_iaddN F dX9_record_30 ?_
          refine g_iald F 2 dX9_record_31 rfl (by omega) (by decide) ?_
          refine g_iast F 2 dX9_record_32 rfl (by omega) (by decide) (w2 := [ob 9 q [.ref (r 0), .ref (r 1), .ref (r 2), .int (nI rc), .ref (r 3), .int (nI tl), .ref (r 4), .ref (r 5), .ref (r 6), .ref (r 7), .ref (r 8), .ref (r 9), .ref (r 10), .ref (r 11), .ref (r 12), .int (nI at9), .int (lf9), .int (pl9), .int (vl9), .int (nI fa), .int (nI rs9), .int (cs), .int (nI dn)], ai E (r 0) 892 S, ai E (r 2) 2676 (up Hv i (Hv (i + 892)))]) rfl ?_
          refine g_iinc (k := 1) (v := nI (i + 1)) (lv2 := [(1, .int (nI (i + 1))), (0, .ref q)]) F dX9_record_33 rfl (nI_1 _) (by decide) rfl ?_
          refine g_goto (tgt := 10) F dX9_record_36 (by decide) ?_
          refine g_lv [1, 0] rfl ?_
          exact ih10 (i + 1) (up Hv i (Hv (i + 892))) (by omega) (by omega) (by exact ⟨fun k hk => by (by_cases z : k = i); (rw [z, up_s, hH.2 _ (by omega)]); (rw [up_n _ _ z]; exact hH.1 k (by omega)), fun j hj => by (rw [up_n _ _ (by omega)]; exact hH.2 j (by omega))⟩)
    refine g_lv [1, 0] rfl ?_
    exact loop10 ((1784 - 0) + 1) 0 HH (Nat.lt_succ_self _) (by omega) (by exact ⟨fun k hk => by omega, fun _ _ => rfl⟩)
set_option maxHeartbeats 4000000 in
set_option maxRecDepth 100000 in
theorem c_X9_dropRoot (l : Launch) (E : En) (q : Nat) (r : Nat → Nat) (rc : Nat) (tl : Nat) (at9 : Nat) (lf9 : Int32) (pl9 : Int32) (vl9 : Int32) (fa : Nat) (rs9 : Nat) (cs : Int32) (dn : Nat) (S : Nat → Nat) (C : CS) (a : Nat) (hR : Rel S C) (hz8 : sZ C ≤ 8) (ha : a < sZ C) : CtV l yX9_dropRoot wsX9_dropRoot ({ frames := 0, cells := 0, slots := 0, locals := 0 } : Room) E [.ref q, .int (nI a)] [ob 9 q [.ref (r 0), .ref (r 1), .ref (r 2), .int (nI rc), .ref (r 3), .int (nI tl), .ref (r 4), .ref (r 5), .ref (r 6), .ref (r 7), .ref (r 8), .ref (r 9), .ref (r 10), .ref (r 11), .ref (r 12), .int (nI at9), .int (lf9), .int (pl9), .int (vl9), .int (nI fa), .int (nI rs9), .int (cs), .int (nI dn)], ai E (r 0) 892 S] (fun uu => ∃ (S2 : Nat → Nat), (Rel S2 (drS C a)) ∧ uu = [ob 9 q [.ref (r 0), .ref (r 1), .ref (r 2), .int (nI rc), .ref (r 3), .int (nI tl), .ref (r 4), .ref (r 5), .ref (r 6), .ref (r 7), .ref (r 8), .ref (r 9), .ref (r 10), .ref (r 11), .ref (r 12), .int (nI at9), .int (lf9), .int (pl9), .int (vl9), .int (nI fa), .int (nI rs9), .int (cs), .int (nI dn)], ai E (r 0) 892 S2]) := by
  refine CtV.of cX9_dropRoot 3 RX9 rfl (by decide) rfl (Nat.le_of_ble_eq_true rfl) ?_
  intro Γ F hin0 hret
  show G Γ E 0 0 0 [(0, .ref q), (1, .int (nI a))] [] [ob 9 q [.ref (r 0), .ref (r 1), .ref (r 2), .int (nI rc), .ref (r 3), .int (nI tl), .ref (r 4), .ref (r 5), .ref (r 6), .ref (r 7), .ref (r 8), .ref (r 9), .ref (r 10), .ref (r 11), .ref (r 12), .int (nI at9), .int (lf9), .int (pl9), .int (vl9), .int (nI fa), .int (nI rs9), .int (cs), .int (nI dn)], ai E (r 0) 892 S]
  refine g_sipush (v := nI 868) F dX9_dropRoot_0 (by decide) ?_
  refine g_iconst (v := nI 3) F dX9_dropRoot_3 (by decide) ?_
  refine g_iload_n F 1 dX9_dropRoot_4 rfl rfl ?_
  refine g_imulN F dX9_dropRoot_5 ?_
  refine g_iaddN F dX9_dropRoot_6 ?_
  refine g_istore_n (lv2 := [(2, .int (nI (868 + (3 * a)))), (0, .ref q), (1, .int (nI a))]) F dX9_dropRoot_7 rfl (by decide) rfl ?_
  have loop8 : ∀ (n : Nat) (k : Nat), 868 + 3 * (sZ C - 1) - k < n → (868 + 3 * a ≤ k ∧ k ≤ 868 + 3 * (sZ C - 1)) → G Γ E 0 0 8 [(0, .ref q), (1, .int (nI a)), (2, .int (nI k))] [] [ob 9 q [.ref (r 0), .ref (r 1), .ref (r 2), .int (nI rc), .ref (r 3), .int (nI tl), .ref (r 4), .ref (r 5), .ref (r 6), .ref (r 7), .ref (r 8), .ref (r 9), .ref (r 10), .ref (r 11), .ref (r 12), .int (nI at9), .int (lf9), .int (pl9), .int (vl9), .int (nI fa), .int (nI rs9), .int (cs), .int (nI dn)], ai E (r 0) 892 (drf S a k)] := by
    intro n
    induction n with
    | zero => intro k hz; exact absurd hz (Nat.not_lt_zero _)
    | succ n ih8 =>
      intro k hz8 hk
      refine g_iload_n F 2 dX9_dropRoot_8 rfl rfl ?_
      refine g_sipush (v := nI 868) F dX9_dropRoot_9 (by decide) ?_
      refine g_iconst (v := nI 3) F dX9_dropRoot_12 (by decide) ?_
      refine g_aload_n F 0 dX9_dropRoot_13 rfl rfl ?_
      refine g_get F 0 0 dX9_dropRoot_14 rfl rfl (by decide) (by decide +kernel) (by decide +kernel) rfl ?_
      refine g_sipush (v := nI 864) F dX9_dropRoot_17 (by decide) ?_
      refine g_iald F 1 dX9_dropRoot_20 rfl (by omega) (by decide) ?_
      refine g_top (nI ((drf S a k) 864)) (nI (sZ C)) (by rw [drf_lo (by decide), hR.2.2.1]) ?_
      refine g_iconst (v := nI 1) F dX9_dropRoot_21 (by decide) ?_
      refine g_isubN F dX9_dropRoot_22 (by omega) ?_
      refine g_imulN F dX9_dropRoot_23 ?_
      refine g_iaddN F dX9_dropRoot_24 ?_
      refine g_icmp_geN (tgt := 48) F dX9_dropRoot_25 (by decide) (by omega) (by omega) (fun c25 => ?_) (fun c25 => ?_)
      · skip
        have h39 : k = 868 + 3 * (sZ C - 1) := by omega
        refine g_aload_n F 0 dX9_dropRoot_48 rfl rfl ?_
        refine g_get F 0 0 dX9_dropRoot_49 rfl rfl (by decide) (by decide +kernel) (by decide +kernel) rfl ?_
        refine g_sipush (v := nI 864) F dX9_dropRoot_52 (by decide) ?_
        refine g_dup2 F dX9_dropRoot_55 rfl rfl ?_
        refine g_iald F 1 dX9_dropRoot_56 rfl (by omega) (by decide) ?_
        refine g_top (nI ((drf S a k) 864)) (nI (sZ C)) (by rw [drf_lo (by decide), hR.2.2.1]) ?_
        refine g_iconst (v := nI 1) F dX9_dropRoot_57 (by decide) ?_
        refine g_isubN F dX9_dropRoot_58 (by omega) ?_
        refine g_iast F 1 dX9_dropRoot_59 rfl (by omega) (by decide) (w2 := [ob 9 q [.ref (r 0), .ref (r 1), .ref (r 2), .int (nI rc), .ref (r 3), .int (nI tl), .ref (r 4), .ref (r 5), .ref (r 6), .ref (r 7), .ref (r 8), .ref (r 9), .ref (r 10), .ref (r 11), .ref (r 12), .int (nI at9), .int (lf9), .int (pl9), .int (vl9), .int (nI fa), .int (nI rs9), .int (cs), .int (nI dn)], ai E (r 0) 892 (up (drf S a k) 864 ((sZ C) - 1))]) rfl ?_
        exact hret _ _ _ dX9_dropRoot_60 ⟨(up (drf S a k) 864 ((sZ C) - 1)), (by rw [h39]; exact hR.drop ha), (by rfl)⟩
      · skip
        refine g_aload_n F 0 dX9_dropRoot_28 rfl rfl ?_
        refine g_get F 0 0 dX9_dropRoot_29 rfl rfl (by decide) (by decide +kernel) (by decide +kernel) rfl ?_
        refine g_iload_n F 2 dX9_dropRoot_32 rfl rfl ?_
        refine g_aload_n F 0 dX9_dropRoot_33 rfl rfl ?_
        refine g_get F 0 0 dX9_dropRoot_34 rfl rfl (by decide) (by decide +kernel) (by decide +kernel) rfl ?_
        refine g_iload_n F 2 dX9_dropRoot_37 rfl rfl ?_
        refine g_iconst (v := nI 3) F dX9_dropRoot_38 (by decide) ?_
        refine g_iaddN F dX9_dropRoot_39 ?_
        refine g_iald F 1 dX9_dropRoot_40 rfl (by omega) (by decide) ?_
        refine g_iast F 1 dX9_dropRoot_41 rfl (by omega) (by decide) (w2 := [ob 9 q [.ref (r 0), .ref (r 1), .ref (r 2), .int (nI rc), .ref (r 3), .int (nI tl), .ref (r 4), .ref (r 5), .ref (r 6), .ref (r 7), .ref (r 8), .ref (r 9), .ref (r 10), .ref (r 11), .ref (r 12), .int (nI at9), .int (lf9), .int (pl9), .int (vl9), .int (nI fa), .int (nI rs9), .int (cs), .int (nI dn)], ai E (r 0) 892 (up (drf S a k) k ((drf S a k) (k + 3)))]) rfl ?_
        refine g_iinc (k := 2) (v := nI (k + 1)) (lv2 := [(2, .int (nI (k + 1))), (0, .ref q), (1, .int (nI a))]) F dX9_dropRoot_42 rfl (nI_1 _) (by decide) rfl ?_
        refine g_goto (tgt := 8) F dX9_dropRoot_45 (by decide) ?_
        refine g_aiC 1 rfl (drf S a (k + 1)) (by intro j hj; exact drf_s hk.1) (w2 := [ob 9 q [.ref (r 0), .ref (r 1), .ref (r 2), .int (nI rc), .ref (r 3), .int (nI tl), .ref (r 4), .ref (r 5), .ref (r 6), .ref (r 7), .ref (r 8), .ref (r 9), .ref (r 10), .ref (r 11), .ref (r 12), .int (nI at9), .int (lf9), .int (pl9), .int (vl9), .int (nI fa), .int (nI rs9), .int (cs), .int (nI dn)], ai E (r 0) 892 (drf S a (k + 1))]) rfl ?_
        refine g_lv [1, 2, 0] rfl ?_
        exact ih8 (k + 1) (by omega) (by omega)
  refine g_aiC 1 rfl (drf S a (868 + 3 * a)) (by intro j hj; exact (if_neg (by omega)).symm) (w2 := [ob 9 q [.ref (r 0), .ref (r 1), .ref (r 2), .int (nI rc), .ref (r 3), .int (nI tl), .ref (r 4), .ref (r 5), .ref (r 6), .ref (r 7), .ref (r 8), .ref (r 9), .ref (r 10), .ref (r 11), .ref (r 12), .int (nI at9), .int (lf9), .int (pl9), .int (vl9), .int (nI fa), .int (nI rs9), .int (cs), .int (nI dn)], ai E (r 0) 892 (drf S a (868 + 3 * a))]) rfl ?_
  refine g_lv [1, 2, 0] rfl ?_
  exact loop8 ((868 + 3 * (sZ C - 1) - (868 + 3 * a)) + 1) (868 + 3 * a) (Nat.lt_succ_self _) (by omega)
set_option maxHeartbeats 4000000 in
set_option maxRecDepth 100000 in
theorem c_X9_owns (l : Launch) (E : En) (q : Nat) (r : Nat → Nat) (rc : Nat) (tl : Nat) (at9 : Nat) (lf9 : Int32) (pl9 : Int32) (vl9 : Int32) (fa : Nat) (rs9 : Nat) (cs : Int32) (dn : Nat) (Ow : Nat → Nat) (W : Nat → Nat) (A : Nat → Nat) (b : Nat) (i : Nat) (hO : OB i W A Ow) (hb : b < 96) (hi : i < 8) : CtV l yX9_owns wsX9_owns ({ frames := 0, cells := 0, slots := 0, locals := 0 } : Room) E [.ref q, .int (nI b), .int (nI i)] [ob 9 q [.ref (r 0), .ref (r 1), .ref (r 2), .int (nI rc), .ref (r 3), .int (nI tl), .ref (r 4), .ref (r 5), .ref (r 6), .ref (r 7), .ref (r 8), .ref (r 9), .ref (r 10), .ref (r 11), .ref (r 12), .int (nI at9), .int (lf9), .int (pl9), .int (vl9), .int (nI fa), .int (nI rs9), .int (cs), .int (nI dn)], ai E (r 12) 96 Ow] (fun uu => ∃ (O2 : Nat → Nat), (OB i W (ad A b) O2) ∧ uu = [ob 9 q [.ref (r 0), .ref (r 1), .ref (r 2), .int (nI rc), .ref (r 3), .int (nI tl), .ref (r 4), .ref (r 5), .ref (r 6), .ref (r 7), .ref (r 8), .ref (r 9), .ref (r 10), .ref (r 11), .ref (r 12), .int (nI at9), .int (lf9), .int (pl9), .int (vl9), .int (nI fa), .int (nI rs9), .int (cs), .int (nI dn)], ai E (r 12) 96 O2]) := by
  refine CtV.of cX9_owns 3 RX9 rfl (by decide) rfl (Nat.le_of_ble_eq_true rfl) ?_
  intro Γ F hin0 hret
  show G Γ E 0 0 0 [(0, .ref q), (1, .int (nI b)), (2, .int (nI i))] [] [ob 9 q [.ref (r 0), .ref (r 1), .ref (r 2), .int (nI rc), .ref (r 3), .int (nI tl), .ref (r 4), .ref (r 5), .ref (r 6), .ref (r 7), .ref (r 8), .ref (r 9), .ref (r 10), .ref (r 11), .ref (r 12), .int (nI at9), .int (lf9), .int (pl9), .int (vl9), .int (nI fa), .int (nI rs9), .int (cs), .int (nI dn)], ai E (r 12) 96 Ow]
  refine g_aload_n F 0 dX9_owns_0 rfl rfl ?_
  refine g_get F 0 14 dX9_owns_1 rfl rfl (by decide) (by decide +kernel) (by decide +kernel) rfl ?_
  refine g_iload_n F 1 dX9_owns_4 rfl rfl ?_
  refine g_dup2 F dX9_owns_5 rfl rfl ?_
  refine g_iald F 1 dX9_owns_6 rfl (by omega) (by decide) ?_
  refine g_iconst (v := nI 1) F dX9_owns_7 (by decide) ?_
  refine g_iload_n F 2 dX9_owns_8 rfl rfl ?_
  refine g_ishl F dX9_owns_9 ?_
  refine g_top ((nI 1) <<< ((nI i) &&& 31)) (nI (2 ^ i)) (by exact shl1 i (by omega)) ?_
  refine g_ior F dX9_owns_10 ?_
  refine g_top ((nI (Ow b)) ||| (nI (2 ^ i))) (nI (Ow b ||| 2 ^ i)) (by exact nI_or _ _) ?_
  refine g_iast F 1 dX9_owns_11 rfl (by omega) (by decide) (w2 := [ob 9 q [.ref (r 0), .ref (r 1), .ref (r 2), .int (nI rc), .ref (r 3), .int (nI tl), .ref (r 4), .ref (r 5), .ref (r 6), .ref (r 7), .ref (r 8), .ref (r 9), .ref (r 10), .ref (r 11), .ref (r 12), .int (nI at9), .int (lf9), .int (pl9), .int (vl9), .int (nI fa), .int (nI rs9), .int (cs), .int (nI dn)], ai E (r 12) 96 (up Ow b (Ow b ||| 2 ^ i))]) rfl ?_
  exact hret _ _ _ dX9_owns_12 ⟨(up Ow b (Ow b ||| 2 ^ i)), (by exact hO.own hi hb), (by rfl)⟩
set_option maxHeartbeats 4000000 in
set_option maxRecDepth 100000 in
theorem c_X9_toldBy (l : Launch) (E : En) (q : Nat) (r : Nat → Nat) (rc : Nat) (tl : Nat) (at9 : Nat) (lf9 : Int32) (pl9 : Int32) (vl9 : Int32) (fa : Nat) (rs9 : Nat) (cs : Int32) (dn : Nat) (S : Nat → Nat) (C : CS) (b : Nat) (s : Nat) (hR : Rel S C) (hI : IC C) (hb : b < 2 ^ 31) (hs : s < 2 ^ 31) : CtI l yX9_toldBy wsX9_toldBy ({ frames := 3, cells := 0, slots := 0, locals := 67 } : Room) E [.ref q, .int (nI b), .int (nI s)] [ob 9 q [.ref (r 0), .ref (r 1), .ref (r 2), .int (nI rc), .ref (r 3), .int (nI tl), .ref (r 4), .ref (r 5), .ref (r 6), .ref (r 7), .ref (r 8), .ref (r 9), .ref (r 10), .ref (r 11), .ref (r 12), .int (nI at9), .int (lf9), .int (pl9), .int (vl9), .int (nI fa), .int (nI rs9), .int (cs), .int (nI dn)], ai E (r 0) 892 S] (fun rr uu => rr = (nI (cf (sN C) b s)) ∧ uu = [ob 9 q [.ref (r 0), .ref (r 1), .ref (r 2), .int (nI rc), .ref (r 3), .int (nI tl), .ref (r 4), .ref (r 5), .ref (r 6), .ref (r 7), .ref (r 8), .ref (r 9), .ref (r 10), .ref (r 11), .ref (r 12), .int (nI at9), .int (lf9), .int (pl9), .int (vl9), .int (nI fa), .int (nI rs9), .int (cs), .int (nI dn)], ai E (r 0) 892 S]) := by
  refine CtI.of cX9_toldBy 3 RX9 .int rfl (by decide) rfl (Or.inl rfl) (Nat.le_of_ble_eq_true rfl) (fun h => by cases h) ?_
  intro Γ F hret
  show G Γ E 0 0 0 [(0, .ref q), (1, .int (nI b)), (2, .int (nI s))] [] [ob 9 q [.ref (r 0), .ref (r 1), .ref (r 2), .int (nI rc), .ref (r 3), .int (nI tl), .ref (r 4), .ref (r 5), .ref (r 6), .ref (r 7), .ref (r 8), .ref (r 9), .ref (r 10), .ref (r 11), .ref (r 12), .int (nI at9), .int (lf9), .int (pl9), .int (vl9), .int (nI fa), .int (nI rs9), .int (cs), .int (nI dn)], ai E (r 0) 892 S]
  refine g_aload_n F 0 dX9_toldBy_0 rfl rfl ?_
  refine g_iload_n F 1 dX9_toldBy_1 rfl rfl ?_
  refine g_iload_n F 2 dX9_toldBy_2 rfl rfl ?_
  refine g_callViR (n := 2) F [0, 1] (c_X9_takenFrom l E q r rc tl at9 lf9 pl9 vl9 fa rs9 cs dn S C b s (by assumption) (by assumption) (by omega) (by omega)) dX9_toldBy_3 rfl (by decide) rfl rfl rfl (Nat.le_of_ble_eq_true rfl) ⟨Nat.le_of_ble_eq_true rfl, Nat.le_of_ble_eq_true rfl⟩ rfl rfl ⟨Nat.le_of_ble_eq_true rfl, Nat.le_of_ble_eq_true rfl⟩ 0 rfl rfl gX9_toldBy_X9_takenFrom (by decide +kernel) (fun r u hp => by obtain ⟨-, h⟩ := hp; exact h) ?_
  rintro r_3 u_3 ⟨rfl, -⟩
  refine g_iconst (v := nI 1) F dX9_toldBy_6 (by decide) ?_
  have htk := tk_le (sN C) b s
  refine g_icmp_neN (tgt := 14) F dX9_toldBy_7 (by decide) (by omega) (by omega) (fun c7 => ?_) (fun c7 => ?_)
  · skip
    refine g_iconst (v := nI 0) F dX9_toldBy_14 (by decide) ?_
    exact hret _ _ _ _ dX9_toldBy_15 ⟨(congrArg nI (by unfold cf; (repeat' split) <;> omega)), rfl⟩
  · skip
    refine g_iconst (v := nI 1) F dX9_toldBy_10 (by decide) ?_
    refine g_goto (tgt := 15) F dX9_toldBy_11 (by decide) ?_
    exact hret _ _ _ _ dX9_toldBy_15 ⟨(congrArg nI (by unfold cf; (repeat' split) <;> omega)), rfl⟩
set_option maxHeartbeats 4000000 in
set_option maxRecDepth 100000 in
theorem c_X9_ownsChildren (l : Launch) (E : En) (q : Nat) (r : Nat → Nat) (rc : Nat) (tl : Nat) (at9 : Nat) (lf9 : Int32) (pl9 : Int32) (vl9 : Int32) (fa : Nat) (rs9 : Nat) (cs : Int32) (dn : Nat) (S : Nat → Nat) (C : CS) (Ow : Nat → Nat) (W : Nat → Nat) (A : Nat → Nat) (b : Nat) (s : Nat) (i : Nat) (hR : Rel S C) (hI : IC C) (hO : OB i W A Ow) (hb : b < 96) (hi : i < 8) (hs : s < 2 ^ 31) : CtV l yX9_ownsChildren wsX9_ownsChildren ({ frames := 4, cells := 0, slots := 0, locals := 89 } : Room) E [.ref q, .int (nI b), .int (nI s), .int (nI i)] [ob 9 q [.ref (r 0), .ref (r 1), .ref (r 2), .int (nI rc), .ref (r 3), .int (nI tl), .ref (r 4), .ref (r 5), .ref (r 6), .ref (r 7), .ref (r 8), .ref (r 9), .ref (r 10), .ref (r 11), .ref (r 12), .int (nI at9), .int (lf9), .int (pl9), .int (vl9), .int (nI fa), .int (nI rs9), .int (cs), .int (nI dn)], ai E (r 0) 892 S, ai E (r 12) 96 Ow] (fun uu => ∃ (O2 : Nat → Nat), (OB i W (ad4 (sN C) (cf (sN C) b s) b (ad A b) 4) O2) ∧ uu = [ob 9 q [.ref (r 0), .ref (r 1), .ref (r 2), .int (nI rc), .ref (r 3), .int (nI tl), .ref (r 4), .ref (r 5), .ref (r 6), .ref (r 7), .ref (r 8), .ref (r 9), .ref (r 10), .ref (r 11), .ref (r 12), .int (nI at9), .int (lf9), .int (pl9), .int (vl9), .int (nI fa), .int (nI rs9), .int (cs), .int (nI dn)], ai E (r 0) 892 S, ai E (r 12) 96 O2]) := by
  refine CtV.of cX9_ownsChildren 7 RX9 rfl (by decide) rfl (Nat.le_of_ble_eq_true rfl) ?_
  intro Γ F hin0 hret
  show G Γ E 0 0 0 [(0, .ref q), (1, .int (nI b)), (2, .int (nI s)), (3, .int (nI i))] [] [ob 9 q [.ref (r 0), .ref (r 1), .ref (r 2), .int (nI rc), .ref (r 3), .int (nI tl), .ref (r 4), .ref (r 5), .ref (r 6), .ref (r 7), .ref (r 8), .ref (r 9), .ref (r 10), .ref (r 11), .ref (r 12), .int (nI at9), .int (lf9), .int (pl9), .int (vl9), .int (nI fa), .int (nI rs9), .int (cs), .int (nI dn)], ai E (r 0) 892 S, ai E (r 12) 96 Ow]
  refine g_aload_n F 0 dX9_ownsChildren_0 rfl rfl ?_
  refine g_iload_n F 1 dX9_ownsChildren_1 rfl rfl ?_
  refine g_iload_n F 2 dX9_ownsChildren_2 rfl rfl ?_
  refine g_callViR (n := 2) F [0, 1] (c_X9_toldBy l E q r rc tl at9 lf9 pl9 vl9 fa rs9 cs dn S C b s (by assumption) (by assumption) (by omega) (by omega)) dX9_ownsChildren_3 rfl (by decide) rfl rfl rfl (Nat.le_of_ble_eq_true rfl) ⟨Nat.le_of_ble_eq_true rfl, Nat.le_of_ble_eq_true rfl⟩ rfl rfl ⟨Nat.le_of_ble_eq_true rfl, Nat.le_of_ble_eq_true rfl⟩ 0 rfl rfl gX9_ownsChildren_X9_toldBy (by decide +kernel) (fun r u hp => by obtain ⟨-, h⟩ := hp; exact h) ?_
  rintro r_3 u_3 ⟨rfl, -⟩
  refine g_istore (lv2 := [(4, .int (nI (cf (sN C) b s))), (0, .ref q), (1, .int (nI b)), (2, .int (nI s)), (3, .int (nI i))]) F dX9_ownsChildren_6 (by decide) rfl ?_
  refine g_aload_n F 1 dX9_ownsChildren_8 rfl rfl ?_
  refine g_iload_n F 2 dX9_ownsChildren_9 rfl rfl ?_
  refine g_iload_n F 4 dX9_ownsChildren_10 rfl rfl ?_
  refine g_callVvW (n := 2) F [0, 2] (c_X9_owns l E q r rc tl at9 lf9 pl9 vl9 fa rs9 cs dn Ow W A b i (by assumption) (by omega) (by omega)) dX9_ownsChildren_11 rfl (by decide) rfl rfl rfl (Nat.le_of_ble_eq_true rfl) ⟨Nat.le_of_ble_eq_true rfl, Nat.le_of_ble_eq_true rfl⟩ rfl rfl ⟨Nat.le_of_ble_eq_true rfl, Nat.le_of_ble_eq_true rfl⟩ 0 rfl rfl gX9_ownsChildren_X9_owns (by decide +kernel) (fun u hp => by obtain ⟨_, -, rfl⟩ := hp; rfl) ?_
  rintro u_11 ⟨O2_11, hO2_11, rfl⟩
  refine g_ws (w2 := [ob 9 q [.ref (r 0), .ref (r 1), .ref (r 2), .int (nI rc), .ref (r 3), .int (nI tl), .ref (r 4), .ref (r 5), .ref (r 6), .ref (r 7), .ref (r 8), .ref (r 9), .ref (r 10), .ref (r 11), .ref (r 12), .int (nI at9), .int (lf9), .int (pl9), .int (vl9), .int (nI fa), .int (nI rs9), .int (cs), .int (nI dn)], ai E (r 0) 892 S, ai E (r 12) 96 O2_11]) rfl ?_
  refine g_iconst (v := nI 0) F dX9_ownsChildren_14 (by decide) ?_
  refine g_istore (lv2 := [(5, .int (nI 0)), (4, .int (nI (cf (sN C) b s))), (0, .ref q), (1, .int (nI b)), (2, .int (nI s)), (3, .int (nI i))]) F dX9_ownsChildren_15 (by decide) rfl ?_
  have loop17 : ∀ (n : Nat) (i4 : Nat) (Ov : Nat → Nat), 4 - i4 < n → (i4 ≤ 4) → (OB i W (ad4 (sN C) (cf (sN C) b s) b (ad A b) i4) Ov) → G Γ E 0 0 17 [(0, .ref q), (1, .int (nI b)), (2, .int (nI s)), (3, .int (nI i)), (4, .int (nI (cf (sN C) b s))), (5, .int (nI i4))] [] [ob 9 q [.ref (r 0), .ref (r 1), .ref (r 2), .int (nI rc), .ref (r 3), .int (nI tl), .ref (r 4), .ref (r 5), .ref (r 6), .ref (r 7), .ref (r 8), .ref (r 9), .ref (r 10), .ref (r 11), .ref (r 12), .int (nI at9), .int (lf9), .int (pl9), .int (vl9), .int (nI fa), .int (nI rs9), .int (cs), .int (nI dn)], ai E (r 0) 892 S, ai E (r 12) 96 Ov] := by
    intro n
    induction n with
    | zero => intro i4 Ov hz; exact absurd hz (Nat.not_lt_zero _)
    | succ n ih17 =>
      intro i4 Ov hz17 hi4 hO
      refine g_iload F 5 dX9_ownsChildren_17 rfl ?_
      refine g_iconst (v := nI 4) F dX9_ownsChildren_19 (by decide) ?_
      refine g_icmp_geN (tgt := 58) F dX9_ownsChildren_20 (by decide) (by omega) (by omega) (fun c20 => ?_) (fun c20 => ?_)
      · skip
        exact hret _ _ _ dX9_ownsChildren_58 ⟨Ov, (by have e9 : i4 = 4 := (by omega); rw [e9] at hO; exact hO), (by rfl)⟩
      · skip
        refine g_aload_n F 0 dX9_ownsChildren_23 rfl rfl ?_
        refine g_iload F 4 dX9_ownsChildren_24 rfl ?_
        refine g_iload_n F 1 dX9_ownsChildren_26 rfl rfl ?_
        refine g_iload F 5 dX9_ownsChildren_27 rfl ?_
        refine g_callViR (n := 3) F [0, 1] (c_X9_contentOf l E q r rc tl at9 lf9 pl9 vl9 fa rs9 cs dn S C (cf (sN C) b s) b i4 (by assumption) (by exact cf_lt _ _ _) (by omega) (by omega)) dX9_ownsChildren_29 rfl (by decide) rfl rfl rfl (Nat.le_of_ble_eq_true rfl) ⟨Nat.le_of_ble_eq_true rfl, Nat.le_of_ble_eq_true rfl⟩ rfl rfl ⟨Nat.le_of_ble_eq_true rfl, Nat.le_of_ble_eq_true rfl⟩ 0 rfl rfl gX9_ownsChildren_X9_contentOf (by decide +kernel) (fun r u hp => by obtain ⟨-, h⟩ := hp; exact h) ?_
        rintro r_29 u_29 ⟨rfl, -⟩
        have hnq : nu (sN C) (cf (sN C) b s) b i4 < 65536 := hI.1 _
        refine g_sipush (v := nI 256) F dX9_ownsChildren_32 (by decide) ?_
        refine g_idivN F dX9_ownsChildren_35 (by omega) (by decide) (by decide) ?_
        refine g_istore (lv2 := [(6, .int (nI ((nu (sN C) (cf (sN C) b s) b i4) / 256))), (0, .ref q), (1, .int (nI b)), (2, .int (nI s)), (3, .int (nI i)), (4, .int (nI (cf (sN C) b s))), (5, .int (nI i4))]) F dX9_ownsChildren_36 (by decide) rfl ?_
        refine g_iload F 0 dX9_ownsChildren_38 rfl ?_
        refine g_bipush (v := nI 96) F dX9_ownsChildren_40 (by decide) ?_
        refine g_icmp_geN (tgt := 52) F dX9_ownsChildren_42 (by decide) (by omega) (by omega) (fun c42 => ?_) (fun c42 => ?_)
        · skip
          refine g_iinc (k := 6) (v := nI (i4 + 1)) (lv2 := [(5, .int (nI (i4 + 1))), (6, .int (nI ((nu (sN C) (cf (sN C) b s) b i4) / 256))), (0, .ref q), (1, .int (nI b)), (2, .int (nI s)), (3, .int (nI i)), (4, .int (nI (cf (sN C) b s)))]) F dX9_ownsChildren_52 rfl (nI_1 _) (by decide) rfl ?_
          refine g_goto (tgt := 17) F dX9_ownsChildren_55 (by decide) ?_
          refine g_lv [2, 3, 4, 5, 6, 0] rfl ?_
          exact ih17 (i4 + 1) Ov (by omega) (by omega) (by have e9 : ad (ad4 (sN C) (cf (sN C) b s) b (ad A b) i4) (nu (sN C) (cf (sN C) b s) b i4 / 256) = ad4 (sN C) (cf (sN C) b s) b (ad A b) i4 := if_neg (by omega); exact (show OB i W (ad _ _) Ov from e9.symm ▸ hO))
        · skip
          refine g_aload_n F 1 dX9_ownsChildren_45 rfl rfl ?_
          refine g_iload F 0 dX9_ownsChildren_46 rfl ?_
          refine g_iload_n F 4 dX9_ownsChildren_48 rfl rfl ?_
          refine g_callVvW (n := 2) F [0, 2] (c_X9_owns l E q r rc tl at9 lf9 pl9 vl9 fa rs9 cs dn Ov W (ad4 (sN C) (cf (sN C) b s) b (ad A b) i4) ((nu (sN C) (cf (sN C) b s) b i4) / 256) i (by assumption) (by omega) (by omega)) dX9_ownsChildren_49 rfl (by decide) rfl rfl rfl (Nat.le_of_ble_eq_true rfl) ⟨Nat.le_of_ble_eq_true rfl, Nat.le_of_ble_eq_true rfl⟩ rfl rfl ⟨Nat.le_of_ble_eq_true rfl, Nat.le_of_ble_eq_true rfl⟩ 0 rfl rfl gX9_ownsChildren_X9_owns (by decide +kernel) (fun u hp => by obtain ⟨_, -, rfl⟩ := hp; rfl) ?_
          rintro u_49 ⟨O2_49, hO2_49, rfl⟩
          refine g_ws (w2 := [ob 9 q [.ref (r 0), .ref (r 1), .ref (r 2), .int (nI rc), .ref (r 3), .int (nI tl), .ref (r 4), .ref (r 5), .ref (r 6), .ref (r 7), .ref (r 8), .ref (r 9), .ref (r 10), .ref (r 11), .ref (r 12), .int (nI at9), .int (lf9), .int (pl9), .int (vl9), .int (nI fa), .int (nI rs9), .int (cs), .int (nI dn)], ai E (r 0) 892 S, ai E (r 12) 96 O2_49]) rfl ?_
          refine g_iinc (k := 6) (v := nI (i4 + 1)) (lv2 := [(5, .int (nI (i4 + 1))), (6, .int (nI ((nu (sN C) (cf (sN C) b s) b i4) / 256))), (0, .ref q), (1, .int (nI b)), (2, .int (nI s)), (3, .int (nI i)), (4, .int (nI (cf (sN C) b s)))]) F dX9_ownsChildren_52 rfl (nI_1 _) (by decide) rfl ?_
          refine g_goto (tgt := 17) F dX9_ownsChildren_55 (by decide) ?_
          refine g_lv [2, 3, 4, 5, 6, 0] rfl ?_
          exact ih17 (i4 + 1) O2_49 (by omega) (by omega) (by exact hO2_49)
  refine g_lv [2, 3, 4, 5, 1, 0] rfl ?_
  exact loop17 ((4 - 0) + 1) 0 O2_11 (Nat.lt_succ_self _) (by omega) (by exact hO2_11)
set_option maxHeartbeats 4000000 in
set_option maxRecDepth 100000 in
theorem c_X9_findOwners (l : Launch) (E : En) (q : Nat) (r : Nat → Nat) (rc : Nat) (tl : Nat) (at9 : Nat) (lf9 : Int32) (pl9 : Int32) (vl9 : Int32) (fa : Nat) (rs9 : Nat) (cs : Int32) (dn : Nat) (S : Nat → Nat) (C : CS) (Ow : Nat → Nat) (hR : Rel S C) (hI : IC C) : CtV l yX9_findOwners wsX9_findOwners ({ frames := 5, cells := 0, slots := 0, locals := 115 } : Room) E [.ref q] [ob 9 q [.ref (r 0), .ref (r 1), .ref (r 2), .int (nI rc), .ref (r 3), .int (nI tl), .ref (r 4), .ref (r 5), .ref (r 6), .ref (r 7), .ref (r 8), .ref (r 9), .ref (r 10), .ref (r 11), .ref (r 12), .int (nI at9), .int (lf9), .int (pl9), .int (vl9), .int (nI fa), .int (nI rs9), .int (cs), .int (nI dn)], ai E (r 0) 892 S, ai E (r 12) 96 Ow] (fun uu => ∃ (O2 : Nat → Nat), (∀ b : Nat, b < 96 → O2 b = obs C (sZ C) b) ∧ uu = [ob 9 q [.ref (r 0), .ref (r 1), .ref (r 2), .int (nI rc), .ref (r 3), .int (nI tl), .ref (r 4), .ref (r 5), .ref (r 6), .ref (r 7), .ref (r 8), .ref (r 9), .ref (r 10), .ref (r 11), .ref (r 12), .int (nI at9), .int (lf9), .int (pl9), .int (vl9), .int (nI fa), .int (nI rs9), .int (cs), .int (nI dn)], ai E (r 0) 892 S, ai E (r 12) 96 O2]) := by
  refine CtV.of cX9_findOwners 6 RX9 rfl (by decide) rfl (Nat.le_of_ble_eq_true rfl) ?_
  intro Γ F hin0 hret
  show G Γ E 0 0 0 [(0, .ref q)] [] [ob 9 q [.ref (r 0), .ref (r 1), .ref (r 2), .int (nI rc), .ref (r 3), .int (nI tl), .ref (r 4), .ref (r 5), .ref (r 6), .ref (r 7), .ref (r 8), .ref (r 9), .ref (r 10), .ref (r 11), .ref (r 12), .int (nI at9), .int (lf9), .int (pl9), .int (vl9), .int (nI fa), .int (nI rs9), .int (cs), .int (nI dn)], ai E (r 0) 892 S, ai E (r 12) 96 Ow]
  have hz8 := hI.2.2.2.1
  refine g_iconst (v := nI 0) F dX9_findOwners_0 (by decide) ?_
  refine g_istore_n (lv2 := [(1, .int (nI 0)), (0, .ref q)]) F dX9_findOwners_1 rfl (by decide) rfl ?_
  have loop2 : ∀ (n : Nat) (i : Nat) (Ov : Nat → Nat), 96 - i < n → (i ≤ 96) → (∀ j : Nat, j < i → Ov j = 0) → G Γ E 0 0 2 [(0, .ref q), (1, .int (nI i))] [] [ob 9 q [.ref (r 0), .ref (r 1), .ref (r 2), .int (nI rc), .ref (r 3), .int (nI tl), .ref (r 4), .ref (r 5), .ref (r 6), .ref (r 7), .ref (r 8), .ref (r 9), .ref (r 10), .ref (r 11), .ref (r 12), .int (nI at9), .int (lf9), .int (pl9), .int (vl9), .int (nI fa), .int (nI rs9), .int (cs), .int (nI dn)], ai E (r 0) 892 S, ai E (r 12) 96 Ov] := by
    intro n
    induction n with
    | zero => intro i Ov hz; exact absurd hz (Nat.not_lt_zero _)
    | succ n ih2 =>
      intro i Ov hz2 hi hO
      refine g_iload_n F 1 dX9_findOwners_2 rfl rfl ?_
      refine g_bipush (v := nI 96) F dX9_findOwners_3 (by decide) ?_
      refine g_icmp_geN (tgt := 21) F dX9_findOwners_5 (by decide) (by omega) (by omega) (fun c5 => ?_) (fun c5 => ?_)
      · skip
        refine g_iconst (v := nI 0) F dX9_findOwners_21 (by decide) ?_
        refine g_istore_n (lv2 := [(1, .int (nI 0)), (0, .ref q)]) F dX9_findOwners_22 rfl (by decide) rfl ?_
        have loop23 : ∀ (n : Nat) (i1 : Nat) (Ov1 : Nat → Nat), sZ C - i1 < n → (i1 ≤ sZ C) → (∀ b : Nat, b < 96 → Ov1 b = obs C i1 b) → G Γ E 0 0 23 [(0, .ref q), (1, .int (nI i1))] [] [ob 9 q [.ref (r 0), .ref (r 1), .ref (r 2), .int (nI rc), .ref (r 3), .int (nI tl), .ref (r 4), .ref (r 5), .ref (r 6), .ref (r 7), .ref (r 8), .ref (r 9), .ref (r 10), .ref (r 11), .ref (r 12), .int (nI at9), .int (lf9), .int (pl9), .int (vl9), .int (nI fa), .int (nI rs9), .int (cs), .int (nI dn)], ai E (r 0) 892 S, ai E (r 12) 96 Ov1] := by
          intro n
          induction n with
          | zero => intro i1 Ov1 hz; exact absurd hz (Nat.not_lt_zero _)
          | succ n ih23 =>
            intro i1 Ov1 hz23 hi1 hO1
            refine g_iload_n F 1 dX9_findOwners_23 rfl rfl ?_
            refine g_aload_n F 0 dX9_findOwners_24 rfl rfl ?_
            refine g_get F 0 0 dX9_findOwners_25 rfl rfl (by decide) (by decide +kernel) (by decide +kernel) rfl ?_
            refine g_sipush (v := nI 864) F dX9_findOwners_28 (by decide) ?_
            refine g_iald F 1 dX9_findOwners_31 rfl (by omega) (by decide) ?_
            refine g_top (nI (S 864)) (nI (sZ C)) (by rw [hR.2.2.1]) ?_
            refine g_icmp_geN (tgt := 119) F dX9_findOwners_32 (by decide) (by omega) (by omega) (fun c32 => ?_) (fun c32 => ?_)
            · skip
              exact hret _ _ _ dX9_findOwners_119 ⟨Ov1, (by have e9 : i1 = sZ C := (by omega); rw [e9] at hO1; exact hO1), (by rfl)⟩
            · skip
              have hrb := hI.rb c32
              have hrs := hI.rs c32
              have hr7 := hR.2.2.2.2.2.2 i1 c32
              refine g_aload_n F 0 dX9_findOwners_35 rfl rfl ?_
              refine g_iload_n F 1 dX9_findOwners_36 rfl rfl ?_
              refine g_iconst (v := nI 1) F dX9_findOwners_37 (by decide) ?_
              refine g_callViR (n := 2) F [0, 1] (c_X9_rootPart l E q r rc tl at9 lf9 pl9 vl9 fa rs9 cs dn S C i1 1 (by omega) (by omega)) dX9_findOwners_38 rfl (by decide) rfl rfl rfl (Nat.le_of_ble_eq_true rfl) ⟨Nat.le_of_ble_eq_true rfl, Nat.le_of_ble_eq_true rfl⟩ rfl rfl ⟨Nat.le_of_ble_eq_true rfl, Nat.le_of_ble_eq_true rfl⟩ 0 rfl rfl gX9_findOwners_X9_rootPart (by decide +kernel) (fun r u hp => by obtain ⟨-, h⟩ := hp; exact h) ?_
              rintro r_38 u_38 ⟨rfl, -⟩
              refine g_top (nI (S (868 + 3 * i1 + 1))) (nI (sb C i1)) (by rw [hr7.2.1]) ?_
              refine g_istore_n (lv2 := [(2, .int (nI (sb C i1))), (0, .ref q), (1, .int (nI i1))]) F dX9_findOwners_41 rfl (by decide) rfl ?_
              refine g_aload_n F 1 dX9_findOwners_42 rfl rfl ?_
              refine g_iload_n F 0 dX9_findOwners_43 rfl rfl ?_
              refine g_aload_n F 1 dX9_findOwners_44 rfl rfl ?_
              refine g_iload_n F 2 dX9_findOwners_45 rfl rfl ?_
              refine g_iconst (v := nI 2) F dX9_findOwners_46 (by decide) ?_
              refine g_callViR (n := 2) F [0, 1] (c_X9_rootPart l E q r rc tl at9 lf9 pl9 vl9 fa rs9 cs dn S C i1 2 (by omega) (by omega)) dX9_findOwners_47 rfl (by decide) rfl rfl rfl (Nat.le_of_ble_eq_true rfl) ⟨Nat.le_of_ble_eq_true rfl, Nat.le_of_ble_eq_true rfl⟩ rfl rfl ⟨Nat.le_of_ble_eq_true rfl, Nat.le_of_ble_eq_true rfl⟩ 0 rfl rfl gX9_findOwners_X9_rootPart (by decide +kernel) (fun r u hp => by obtain ⟨-, h⟩ := hp; exact h) ?_
              rintro r_47 u_47 ⟨rfl, -⟩
              refine g_top (nI (S (868 + 3 * i1 + 2))) (nI (ss C i1)) (by rw [hr7.2.2]) ?_
              refine g_callViR (n := 2) F [0, 1] (c_X9_toldBy l E q r rc tl at9 lf9 pl9 vl9 fa rs9 cs dn S C (sb C i1) (ss C i1) (by assumption) (by assumption) (by omega) (by omega)) dX9_findOwners_50 rfl (by decide) rfl rfl rfl (Nat.le_of_ble_eq_true rfl) ⟨Nat.le_of_ble_eq_true rfl, Nat.le_of_ble_eq_true rfl⟩ rfl rfl ⟨Nat.le_of_ble_eq_true rfl, Nat.le_of_ble_eq_true rfl⟩ 0 rfl rfl gX9_findOwners_X9_toldBy (by decide +kernel) (fun r u hp => by obtain ⟨-, h⟩ := hp; exact h) ?_
              rintro r_50 u_50 ⟨rfl, -⟩
              refine g_istore_n (lv2 := [(3, .int (nI (cf (sN C) (sb C i1) (ss C i1)))), (2, .int (nI (sb C i1))), (0, .ref q), (1, .int (nI i1))]) F dX9_findOwners_53 rfl (by decide) rfl ?_
              refine g_aload_n F 2 dX9_findOwners_54 rfl rfl ?_
              refine g_iload_n F 1 dX9_findOwners_55 rfl rfl ?_
              refine g_iload_n F 3 dX9_findOwners_56 rfl rfl ?_
              refine g_callVvW (n := 2) F [0, 2] (c_X9_owns l E q r rc tl at9 lf9 pl9 vl9 fa rs9 cs dn Ov1 (obs C i1) (fun _ => 0) (sb C i1) i1 (by exact fun b hb => ⟨by (rw [hO1 b hb]; rfl), obs_lt C i1 b, Nat.zero_le 1⟩) (by omega) (by omega)) dX9_findOwners_57 rfl (by decide) rfl rfl rfl (Nat.le_of_ble_eq_true rfl) ⟨Nat.le_of_ble_eq_true rfl, Nat.le_of_ble_eq_true rfl⟩ rfl rfl ⟨Nat.le_of_ble_eq_true rfl, Nat.le_of_ble_eq_true rfl⟩ 0 rfl rfl gX9_findOwners_X9_owns (by decide +kernel) (fun u hp => by obtain ⟨_, -, rfl⟩ := hp; rfl) ?_
              rintro u_57 ⟨O2_57, hO2_57, rfl⟩
              refine g_ws (w2 := [ob 9 q [.ref (r 0), .ref (r 1), .ref (r 2), .int (nI rc), .ref (r 3), .int (nI tl), .ref (r 4), .ref (r 5), .ref (r 6), .ref (r 7), .ref (r 8), .ref (r 9), .ref (r 10), .ref (r 11), .ref (r 12), .int (nI at9), .int (lf9), .int (pl9), .int (vl9), .int (nI fa), .int (nI rs9), .int (cs), .int (nI dn)], ai E (r 0) 892 S, ai E (r 12) 96 O2_57]) rfl ?_
              refine g_iconst (v := nI 0) F dX9_findOwners_60 (by decide) ?_
              refine g_istore (lv2 := [(4, .int (nI 0)), (3, .int (nI (cf (sN C) (sb C i1) (ss C i1)))), (2, .int (nI (sb C i1))), (0, .ref q), (1, .int (nI i1))]) F dX9_findOwners_61 (by decide) rfl ?_
              have loop63 : ∀ (n : Nat) (i4 : Nat) (Ov4 : Nat → Nat), 4 - i4 < n → (i4 ≤ 4) → (OB i1 (obs C i1) (ab4 (sN C) (cf (sN C) (sb C i1) (ss C i1)) (sb C i1) (ad (fun _ => 0) (sb C i1)) i4) Ov4) → G Γ E 0 0 63 [(0, .ref q), (1, .int (nI i1)), (2, .int (nI (sb C i1))), (3, .int (nI (cf (sN C) (sb C i1) (ss C i1)))), (4, .int (nI i4))] [] [ob 9 q [.ref (r 0), .ref (r 1), .ref (r 2), .int (nI rc), .ref (r 3), .int (nI tl), .ref (r 4), .ref (r 5), .ref (r 6), .ref (r 7), .ref (r 8), .ref (r 9), .ref (r 10), .ref (r 11), .ref (r 12), .int (nI at9), .int (lf9), .int (pl9), .int (vl9), .int (nI fa), .int (nI rs9), .int (cs), .int (nI dn)], ai E (r 0) 892 S, ai E (r 12) 96 Ov4] := by
                intro n
                induction n with
                | zero => intro i4 Ov4 hz; exact absurd hz (Nat.not_lt_zero _)
                | succ n ih63 =>
                  intro i4 Ov4 hz63 hi4 hO4
                  refine g_iload F 4 dX9_findOwners_63 rfl ?_
                  refine g_iconst (v := nI 4) F dX9_findOwners_65 (by decide) ?_
                  refine g_icmp_geN (tgt := 113) F dX9_findOwners_66 (by decide) (by omega) (by omega) (fun c66 => ?_) (fun c66 => ?_)
                  · skip
                    refine g_iinc (k := 1) (v := nI (i1 + 1)) (lv2 := [(1, .int (nI (i1 + 1))), (0, .ref q), (2, .int (nI (sb C i1))), (3, .int (nI (cf (sN C) (sb C i1) (ss C i1)))), (4, .int (nI i4))]) F dX9_findOwners_113 rfl (nI_1 _) (by decide) rfl ?_
                    refine g_goto (tgt := 23) F dX9_findOwners_116 (by decide) ?_
                    refine g_lv [1, 0] rfl ?_
                    exact ih23 (i1 + 1) Ov4 (by omega) (by omega) (by intro b hb; have e9 : i4 = 4 := (by omega); rw [e9] at hO4; exact (hO4 b hb).1)
                  · skip
                    refine g_aload_n F 0 dX9_findOwners_69 rfl rfl ?_
                    refine g_iload_n F 3 dX9_findOwners_70 rfl rfl ?_
                    refine g_iload_n F 2 dX9_findOwners_71 rfl rfl ?_
                    refine g_iload F 4 dX9_findOwners_72 rfl ?_
                    refine g_callViR (n := 3) F [0, 1] (c_X9_contentOf l E q r rc tl at9 lf9 pl9 vl9 fa rs9 cs dn S C (cf (sN C) (sb C i1) (ss C i1)) (sb C i1) i4 (by assumption) (by exact cf_lt _ _ _) (by omega) (by omega)) dX9_findOwners_74 rfl (by decide) rfl rfl rfl (Nat.le_of_ble_eq_true rfl) ⟨Nat.le_of_ble_eq_true rfl, Nat.le_of_ble_eq_true rfl⟩ rfl rfl ⟨Nat.le_of_ble_eq_true rfl, Nat.le_of_ble_eq_true rfl⟩ 0 rfl rfl gX9_findOwners_X9_contentOf (by decide +kernel) (fun r u hp => by obtain ⟨-, h⟩ := hp; exact h) ?_
                    rintro r_74 u_74 ⟨rfl, -⟩
                    refine g_istore (lv2 := [(5, .int (nI (nu (sN C) (cf (sN C) (sb C i1) (ss C i1)) (sb C i1) i4))), (0, .ref q), (1, .int (nI i1)), (2, .int (nI (sb C i1))), (3, .int (nI (cf (sN C) (sb C i1) (ss C i1)))), (4, .int (nI i4))]) F dX9_findOwners_77 (by decide) rfl ?_
                    have hnq : nu (sN C) (cf (sN C) (sb C i1) (ss C i1)) (sb C i1) i4 < 65536 := hI.1 _
                    refine g_iload F 0 dX9_findOwners_79 rfl ?_
                    refine g_sipush (v := nI 256) F dX9_findOwners_81 (by decide) ?_
                    refine g_idivN F dX9_findOwners_84 (by omega) (by decide) (by decide) ?_
                    refine g_bipush (v := nI 96) F dX9_findOwners_85 (by decide) ?_
                    refine g_icmp_geN (tgt := 107) F dX9_findOwners_87 (by decide) (by omega) (by omega) (fun c87 => ?_) (fun c87 => ?_)
                    · skip
                      refine g_iinc (k := 5) (v := nI (i4 + 1)) (lv2 := [(4, .int (nI (i4 + 1))), (5, .int (nI (nu (sN C) (cf (sN C) (sb C i1) (ss C i1)) (sb C i1) i4))), (0, .ref q), (1, .int (nI i1)), (2, .int (nI (sb C i1))), (3, .int (nI (cf (sN C) (sb C i1) (ss C i1))))]) F dX9_findOwners_107 rfl (nI_1 _) (by decide) rfl ?_
                      refine g_goto (tgt := 63) F dX9_findOwners_110 (by decide) ?_
                      refine g_lv [2, 3, 4, 5, 0] rfl ?_
                      exact ih63 (i4 + 1) Ov4 (by omega) (by omega) (by have e9 : ap (sN C) (nu (sN C) (cf (sN C) (sb C i1) (ss C i1)) (sb C i1) i4) ((ab4 (sN C) (cf (sN C) (sb C i1) (ss C i1)) (sb C i1) (ad (fun _ => 0) (sb C i1)) i4)) = (ab4 (sN C) (cf (sN C) (sb C i1) (ss C i1)) (sb C i1) (ad (fun _ => 0) (sb C i1)) i4) := if_neg (by omega); exact (show OB i1 (obs C i1) (ap _ _ _) Ov4 from e9.symm ▸ hO4))
                    · skip
                      refine g_aload_n F 1 dX9_findOwners_90 rfl rfl ?_
                      refine g_iload F 0 dX9_findOwners_91 rfl ?_
                      refine g_sipush (v := nI 256) F dX9_findOwners_93 (by decide) ?_
                      refine g_idivN F dX9_findOwners_96 (by omega) (by decide) (by decide) ?_
                      refine g_iload F 0 dX9_findOwners_97 rfl ?_
                      refine g_sipush (v := nI 256) F dX9_findOwners_99 (by decide) ?_
                      refine g_iremN F dX9_findOwners_102 (by omega) (by decide) (by decide) ?_
                      refine g_iload_n F 2 dX9_findOwners_103 rfl rfl ?_
                      refine g_callVvW (n := 3) F [0, 1, 2] (c_X9_ownsChildren l E q r rc tl at9 lf9 pl9 vl9 fa rs9 cs dn S C Ov4 (obs C i1) (ab4 (sN C) (cf (sN C) (sb C i1) (ss C i1)) (sb C i1) (ad (fun _ => 0) (sb C i1)) i4) ((nu (sN C) (cf (sN C) (sb C i1) (ss C i1)) (sb C i1) i4) / 256) ((nu (sN C) (cf (sN C) (sb C i1) (ss C i1)) (sb C i1) i4) % 256) i1 (by assumption) (by assumption) (by exact hO4) (by omega) (by omega) (by omega)) dX9_findOwners_104 rfl (by decide) rfl rfl rfl (Nat.le_of_ble_eq_true rfl) ⟨Nat.le_of_ble_eq_true rfl, Nat.le_of_ble_eq_true rfl⟩ rfl rfl ⟨Nat.le_of_ble_eq_true rfl, Nat.le_of_ble_eq_true rfl⟩ 0 rfl rfl gX9_findOwners_X9_ownsChildren (by decide +kernel) (fun u hp => by obtain ⟨_, -, rfl⟩ := hp; rfl) ?_
                      rintro u_104 ⟨O2_104, hO2_104, rfl⟩
                      refine g_ws (w2 := [ob 9 q [.ref (r 0), .ref (r 1), .ref (r 2), .int (nI rc), .ref (r 3), .int (nI tl), .ref (r 4), .ref (r 5), .ref (r 6), .ref (r 7), .ref (r 8), .ref (r 9), .ref (r 10), .ref (r 11), .ref (r 12), .int (nI at9), .int (lf9), .int (pl9), .int (vl9), .int (nI fa), .int (nI rs9), .int (cs), .int (nI dn)], ai E (r 0) 892 S, ai E (r 12) 96 O2_104]) rfl ?_
                      refine g_iinc (k := 5) (v := nI (i4 + 1)) (lv2 := [(4, .int (nI (i4 + 1))), (5, .int (nI (nu (sN C) (cf (sN C) (sb C i1) (ss C i1)) (sb C i1) i4))), (0, .ref q), (1, .int (nI i1)), (2, .int (nI (sb C i1))), (3, .int (nI (cf (sN C) (sb C i1) (ss C i1))))]) F dX9_findOwners_107 rfl (nI_1 _) (by decide) rfl ?_
                      refine g_goto (tgt := 63) F dX9_findOwners_110 (by decide) ?_
                      refine g_lv [2, 3, 4, 5, 0] rfl ?_
                      exact ih63 (i4 + 1) O2_104 (by omega) (by omega) (by have e9 : ap (sN C) (nu (sN C) (cf (sN C) (sb C i1) (ss C i1)) (sb C i1) i4) ((ab4 (sN C) (cf (sN C) (sb C i1) (ss C i1)) (sb C i1) (ad (fun _ => 0) (sb C i1)) i4)) = ad4 (sN C) (cf (sN C) (nu (sN C) (cf (sN C) (sb C i1) (ss C i1)) (sb C i1) i4 / 256) (nu (sN C) (cf (sN C) (sb C i1) (ss C i1)) (sb C i1) i4 % 256)) (nu (sN C) (cf (sN C) (sb C i1) (ss C i1)) (sb C i1) i4 / 256) (ad ((ab4 (sN C) (cf (sN C) (sb C i1) (ss C i1)) (sb C i1) (ad (fun _ => 0) (sb C i1)) i4)) (nu (sN C) (cf (sN C) (sb C i1) (ss C i1)) (sb C i1) i4 / 256)) 4 := if_pos (by omega); exact (show OB i1 (obs C i1) (ap _ _ _) O2_104 from e9.symm ▸ hO2_104))
              refine g_lv [3, 4, 2, 1, 0] rfl ?_
              exact loop63 ((4 - 0) + 1) 0 O2_57 (Nat.lt_succ_self _) (by omega) (by exact hO2_57)
        refine g_lv [1, 0] rfl ?_
        exact loop23 ((sZ C - 0) + 1) 0 Ov (Nat.lt_succ_self _) (by omega) (by intro b hb; exact hO b (by omega))
      · skip
        refine g_aload_n F 0 dX9_findOwners_8 rfl rfl ?_
        refine g_get F 0 14 dX9_findOwners_9 rfl rfl (by decide) (by decide +kernel) (by decide +kernel) rfl ?_
        refine g_iload_n F 1 dX9_findOwners_12 rfl rfl ?_
        refine g_iconst (v := nI 0) F dX9_findOwners_13 (by decide) ?_
        refine g_iast F 2 dX9_findOwners_14 rfl (by omega) (by decide) (w2 := [ob 9 q [.ref (r 0), .ref (r 1), .ref (r 2), .int (nI rc), .ref (r 3), .int (nI tl), .ref (r 4), .ref (r 5), .ref (r 6), .ref (r 7), .ref (r 8), .ref (r 9), .ref (r 10), .ref (r 11), .ref (r 12), .int (nI at9), .int (lf9), .int (pl9), .int (vl9), .int (nI fa), .int (nI rs9), .int (cs), .int (nI dn)], ai E (r 0) 892 S, ai E (r 12) 96 (up Ov i 0)]) rfl ?_
        refine g_iinc (k := 1) (v := nI (i + 1)) (lv2 := [(1, .int (nI (i + 1))), (0, .ref q)]) F dX9_findOwners_15 rfl (nI_1 _) (by decide) rfl ?_
        refine g_goto (tgt := 2) F dX9_findOwners_18 (by decide) ?_
        refine g_lv [1, 0] rfl ?_
        exact ih2 (i + 1) (up Ov i 0) (by omega) (by omega) (by intro j hj; by_cases z : j = i; (rw [z, up_s]); (rw [up_n _ _ z]; exact hO j (by omega)))
  refine g_lv [1, 0] rfl ?_
  exact loop2 ((96 - 0) + 1) 0 Ow (Nat.lt_succ_self _) (by omega) (by intro j hj; omega)
set_option maxHeartbeats 4000000 in
set_option maxRecDepth 100000 in
theorem c_X9_letGo (l : Launch) (E : En) (q : Nat) (r : Nat → Nat) (rc : Nat) (tl : Nat) (at9 : Nat) (lf9 : Int32) (pl9 : Int32) (vl9 : Int32) (fa : Nat) (rs9 : Nat) (cs : Int32) (dn : Nat) (S : Nat → Nat) (C : CS) (Ow : Nat → Nat) (hR : Rel S C) (hI : IC C) : CtI l yX9_letGo wsX9_letGo ({ frames := 6, cells := 0, slots := 0, locals := 140 } : Room) E [.ref q] [ob 9 q [.ref (r 0), .ref (r 1), .ref (r 2), .int (nI rc), .ref (r 3), .int (nI tl), .ref (r 4), .ref (r 5), .ref (r 6), .ref (r 7), .ref (r 8), .ref (r 9), .ref (r 10), .ref (r 11), .ref (r 12), .int (nI at9), .int (lf9), .int (pl9), .int (vl9), .int (nI fa), .int (nI rs9), .int (cs), .int (nI dn)], ai E (r 0) 892 S, ai E (r 12) 96 Ow] (fun rr uu => ∃ (S2 : Nat → Nat), ∃ (O2 : Nat → Nat), (Rel S2 (uS C (frU C))) ∧ rr = (nI (cw (sU C) (frU C) 96)) ∧ uu = [ob 9 q [.ref (r 0), .ref (r 1), .ref (r 2), .int (nI rc), .ref (r 3), .int (nI tl), .ref (r 4), .ref (r 5), .ref (r 6), .ref (r 7), .ref (r 8), .ref (r 9), .ref (r 10), .ref (r 11), .ref (r 12), .int (nI at9), .int (lf9), .int (pl9), .int (vl9), .int (nI fa), .int (nI rs9), .int (cs), .int (nI dn)], ai E (r 0) 892 S2, ai E (r 12) 96 O2]) := by
  refine CtI.of cX9_letGo 4 RX9 .int rfl (by decide) rfl (Or.inl rfl) (Nat.le_of_ble_eq_true rfl) (fun h => by cases h) ?_
  intro Γ F hret
  show G Γ E 0 0 0 [(0, .ref q)] [] [ob 9 q [.ref (r 0), .ref (r 1), .ref (r 2), .int (nI rc), .ref (r 3), .int (nI tl), .ref (r 4), .ref (r 5), .ref (r 6), .ref (r 7), .ref (r 8), .ref (r 9), .ref (r 10), .ref (r 11), .ref (r 12), .int (nI at9), .int (lf9), .int (pl9), .int (vl9), .int (nI fa), .int (nI rs9), .int (cs), .int (nI dn)], ai E (r 0) 892 S, ai E (r 12) 96 Ow]
  refine g_aload_n F 0 dX9_letGo_0 rfl rfl ?_
  refine g_callVvW (n := 0) F [0, 1, 2] (c_X9_findOwners l E q r rc tl at9 lf9 pl9 vl9 fa rs9 cs dn S C Ow (by assumption) (by assumption)) dX9_letGo_1 rfl (by decide) rfl rfl rfl (Nat.le_of_ble_eq_true rfl) ⟨Nat.le_of_ble_eq_true rfl, Nat.le_of_ble_eq_true rfl⟩ rfl rfl ⟨Nat.le_of_ble_eq_true rfl, Nat.le_of_ble_eq_true rfl⟩ 0 rfl rfl gX9_letGo_X9_findOwners (by decide +kernel) (fun u hp => by obtain ⟨_, -, rfl⟩ := hp; rfl) ?_
  rintro u_1 ⟨O2_1, hO2_1, rfl⟩
  refine g_ws (w2 := [ob 9 q [.ref (r 0), .ref (r 1), .ref (r 2), .int (nI rc), .ref (r 3), .int (nI tl), .ref (r 4), .ref (r 5), .ref (r 6), .ref (r 7), .ref (r 8), .ref (r 9), .ref (r 10), .ref (r 11), .ref (r 12), .int (nI at9), .int (lf9), .int (pl9), .int (vl9), .int (nI fa), .int (nI rs9), .int (cs), .int (nI dn)], ai E (r 0) 892 S, ai E (r 12) 96 O2_1]) rfl ?_
  refine g_iconst (v := nI 0) F dX9_letGo_4 (by decide) ?_
  refine g_istore_n (lv2 := [(1, .int (nI 0)), (0, .ref q)]) F dX9_letGo_5 rfl (by decide) rfl ?_
  refine g_iconst (v := nI 0) F dX9_letGo_6 (by decide) ?_
  refine g_istore_n (lv2 := [(2, .int (nI 0)), (1, .int (nI 0)), (0, .ref q)]) F dX9_letGo_7 rfl (by decide) rfl ?_
  have loop8 : ∀ (n : Nat) (i : Nat) (y : Nat) (Sv : Nat → Nat), 96 - i < n → (i ≤ 96) → (y = cw (sU C) (frU C) i) → (Rel Sv (uS C (fun j => if j < i then frU C j else sU C j))) → G Γ E 0 0 8 [(0, .ref q), (1, .int (nI y)), (2, .int (nI i))] [] [ob 9 q [.ref (r 0), .ref (r 1), .ref (r 2), .int (nI rc), .ref (r 3), .int (nI tl), .ref (r 4), .ref (r 5), .ref (r 6), .ref (r 7), .ref (r 8), .ref (r 9), .ref (r 10), .ref (r 11), .ref (r 12), .int (nI at9), .int (lf9), .int (pl9), .int (vl9), .int (nI fa), .int (nI rs9), .int (cs), .int (nI dn)], ai E (r 0) 892 Sv, ai E (r 12) 96 O2_1] := by
    intro n
    induction n with
    | zero => intro i y Sv hz; exact absurd hz (Nat.not_lt_zero _)
    | succ n ih8 =>
      intro i y Sv hz8 hi hy hS
      refine g_iload_n F 2 dX9_letGo_8 rfl rfl ?_
      refine g_bipush (v := nI 96) F dX9_letGo_9 (by decide) ?_
      refine g_icmp_geN (tgt := 72) F dX9_letGo_11 (by decide) (by omega) (by omega) (fun c11 => ?_) (fun c11 => ?_)
      · skip
        refine g_iload_n F 1 dX9_letGo_72 rfl rfl ?_
        exact hret _ _ _ _ dX9_letGo_73 ⟨Sv, O2_1, (by have e9 : i = 96 := (by omega); rw [e9] at hS; exact hS.congr (fun _ _ => rfl) (fun j hj => if_pos hj) rfl rfl rfl (fun _ _ => ⟨rfl, rfl, rfl⟩)), (congrArg nI (by rw [hy, show i = 96 by omega])), (by rfl)⟩
      · skip
        refine g_aload_n F 0 dX9_letGo_14 rfl rfl ?_
        refine g_get F 0 14 dX9_letGo_15 rfl rfl (by decide) (by decide +kernel) (by decide +kernel) rfl ?_
        refine g_iload_n F 2 dX9_letGo_18 rfl rfl ?_
        refine g_iald F 2 dX9_letGo_19 rfl (by omega) (by decide) ?_
        have hf7 : frU C i = if obs C (sZ C) i = 0 then 0 else 1 := su_obs _
        have ho7 := hO2_1 i (by omega)
        have ho6 : obs C (sZ C) i < 2 ^ 8 := Nat.lt_of_lt_of_le (obs_lt C _ i) (Nat.pow_le_pow_right (by decide) hI.2.2.2.1)
        have hu7 := hI.2.1 i
        have hs7 : Sv (768 + i) = sU C i := (hS.2.1 i (by omega)).trans (if_neg (by omega))
        refine g_if_neN (tgt := 27) F dX9_letGo_20 (by decide) (by omega) (fun c20 => ?_) (fun c20 => ?_)
        · skip
          refine g_iconst (v := nI 1) F dX9_letGo_27 (by decide) ?_
          refine g_istore_n (lv2 := [(3, .int (nI 1)), (0, .ref q), (1, .int (nI y)), (2, .int (nI i))]) F dX9_letGo_28 rfl (by decide) rfl ?_
          have hf8 : frU C i = 1 := by rw [hf7, if_neg (by omega)]
          have hf9 : ¬ frU C i = 0 := by omega
          refine g_iload_n F 2 dX9_letGo_29 rfl rfl ?_
          refine g_aload_n F 1 dX9_letGo_30 rfl rfl ?_
          refine g_get F 0 0 dX9_letGo_31 rfl rfl (by decide) (by decide +kernel) (by decide +kernel) rfl ?_
          refine g_sipush (v := nI 768) F dX9_letGo_34 (by decide) ?_
          refine g_iload_n F 3 dX9_letGo_37 rfl rfl ?_
          refine g_iaddN F dX9_letGo_38 ?_
          refine g_iald F 1 dX9_letGo_39 rfl (by omega) (by decide) ?_
          refine g_top (nI (Sv (768 + i))) (nI (sU C i)) (by rw [hs7]) ?_
          refine g_iconst (v := nI 1) F dX9_letGo_40 (by decide) ?_
          refine g_icmp_neN (tgt := 52) F dX9_letGo_41 (by decide) (by omega) (by omega) (fun c41 => ?_) (fun c41 => ?_)
          · skip
            refine g_iconst (v := nI 0) F dX9_letGo_52 (by decide) ?_
            refine g_iaddN F dX9_letGo_53 ?_
            refine g_istore_n (lv2 := [(1, .int (nI (y + 0))), (3, .int (nI 1)), (0, .ref q), (2, .int (nI i))]) F dX9_letGo_54 rfl (by decide) rfl ?_
            refine g_aload_n F 2 dX9_letGo_55 rfl rfl ?_
            refine g_get F 0 0 dX9_letGo_56 rfl rfl (by decide) (by decide +kernel) (by decide +kernel) rfl ?_
            refine g_sipush (v := nI 768) F dX9_letGo_59 (by decide) ?_
            refine g_iload_n F 3 dX9_letGo_62 rfl rfl ?_
            refine g_iaddN F dX9_letGo_63 ?_
            refine g_iload_n F 1 dX9_letGo_64 rfl rfl ?_
            refine g_iast F 1 dX9_letGo_65 rfl (by omega) (by decide) (w2 := [ob 9 q [.ref (r 0), .ref (r 1), .ref (r 2), .int (nI rc), .ref (r 3), .int (nI tl), .ref (r 4), .ref (r 5), .ref (r 6), .ref (r 7), .ref (r 8), .ref (r 9), .ref (r 10), .ref (r 11), .ref (r 12), .int (nI at9), .int (lf9), .int (pl9), .int (vl9), .int (nI fa), .int (nI rs9), .int (cs), .int (nI dn)], ai E (r 0) 892 (up Sv (768 + i) 1), ai E (r 12) 96 O2_1]) rfl ?_
            refine g_iinc (k := 3) (v := nI (i + 1)) (lv2 := [(2, .int (nI (i + 1))), (1, .int (nI (y + 0))), (3, .int (nI 1)), (0, .ref q)]) F dX9_letGo_66 rfl (nI_1 _) (by decide) rfl ?_
            refine g_goto (tgt := 8) F dX9_letGo_69 (by decide) ?_
            refine g_lv [3, 1, 0] rfl ?_
            exact ih8 (i + 1) (y + 0) (up Sv (768 + i) 1) (by omega) (by omega) (by rw [cw_s, hy]; rw [if_pos (show sU C i = 0 by omega)]) (by exact (hS.use (b := i) (v := 1) (by omega)).congr (fun _ _ => rfl) (fun j hj => by (show up (fun j => if j < i then frU C j else sU C j) i 1 j = if j < i + 1 then frU C j else sU C j); (by_cases z : j = i); (rw [z, up_s, if_pos (by omega)]; exact hf8.symm); (rw [up_n _ _ z]; by_cases z2 : j < i; (rw [if_pos z2, if_pos (by omega)]); (rw [if_neg z2, if_neg (by omega)]))) rfl rfl rfl (fun _ _ => ⟨rfl, rfl, rfl⟩))
          · skip
            refine g_iload_n F 0 dX9_letGo_44 rfl rfl ?_
            refine g_if_neN (tgt := 52) F dX9_letGo_45 (by decide) (by decide) (fun c45 => ?_) (fun c45 => absurd c45 (by decide))
            refine g_iconst (v := nI 0) F dX9_letGo_52 (by decide) ?_
            refine g_iaddN F dX9_letGo_53 ?_
            refine g_istore_n (lv2 := [(1, .int (nI (y + 0))), (3, .int (nI 1)), (0, .ref q), (2, .int (nI i))]) F dX9_letGo_54 rfl (by decide) rfl ?_
            refine g_aload_n F 2 dX9_letGo_55 rfl rfl ?_
            refine g_get F 0 0 dX9_letGo_56 rfl rfl (by decide) (by decide +kernel) (by decide +kernel) rfl ?_
            refine g_sipush (v := nI 768) F dX9_letGo_59 (by decide) ?_
            refine g_iload_n F 3 dX9_letGo_62 rfl rfl ?_
            refine g_iaddN F dX9_letGo_63 ?_
            refine g_iload_n F 1 dX9_letGo_64 rfl rfl ?_
            refine g_iast F 1 dX9_letGo_65 rfl (by omega) (by decide) (w2 := [ob 9 q [.ref (r 0), .ref (r 1), .ref (r 2), .int (nI rc), .ref (r 3), .int (nI tl), .ref (r 4), .ref (r 5), .ref (r 6), .ref (r 7), .ref (r 8), .ref (r 9), .ref (r 10), .ref (r 11), .ref (r 12), .int (nI at9), .int (lf9), .int (pl9), .int (vl9), .int (nI fa), .int (nI rs9), .int (cs), .int (nI dn)], ai E (r 0) 892 (up Sv (768 + i) 1), ai E (r 12) 96 O2_1]) rfl ?_
            refine g_iinc (k := 3) (v := nI (i + 1)) (lv2 := [(2, .int (nI (i + 1))), (1, .int (nI (y + 0))), (3, .int (nI 1)), (0, .ref q)]) F dX9_letGo_66 rfl (nI_1 _) (by decide) rfl ?_
            refine g_goto (tgt := 8) F dX9_letGo_69 (by decide) ?_
            refine g_lv [3, 1, 0] rfl ?_
            exact ih8 (i + 1) (y + 0) (up Sv (768 + i) 1) (by omega) (by omega) (by rw [cw_s, hy]; rw [if_neg (show ¬ sU C i = 0 by omega), if_neg hf9]) (by exact (hS.use (b := i) (v := 1) (by omega)).congr (fun _ _ => rfl) (fun j hj => by (show up (fun j => if j < i then frU C j else sU C j) i 1 j = if j < i + 1 then frU C j else sU C j); (by_cases z : j = i); (rw [z, up_s, if_pos (by omega)]; exact hf8.symm); (rw [up_n _ _ z]; by_cases z2 : j < i; (rw [if_pos z2, if_pos (by omega)]); (rw [if_neg z2, if_neg (by omega)]))) rfl rfl rfl (fun _ _ => ⟨rfl, rfl, rfl⟩))
        · skip
          refine g_iconst (v := nI 0) F dX9_letGo_23 (by decide) ?_
          refine g_goto (tgt := 28) F dX9_letGo_24 (by decide) ?_
          refine g_istore_n (lv2 := [(3, .int (nI 0)), (0, .ref q), (1, .int (nI y)), (2, .int (nI i))]) F dX9_letGo_28 rfl (by decide) rfl ?_
          have hf8 : frU C i = 0 := by rw [hf7, if_pos (by omega)]
          have hf9 : frU C i = 0 := hf8
          refine g_iload_n F 2 dX9_letGo_29 rfl rfl ?_
          refine g_aload_n F 1 dX9_letGo_30 rfl rfl ?_
          refine g_get F 0 0 dX9_letGo_31 rfl rfl (by decide) (by decide +kernel) (by decide +kernel) rfl ?_
          refine g_sipush (v := nI 768) F dX9_letGo_34 (by decide) ?_
          refine g_iload_n F 3 dX9_letGo_37 rfl rfl ?_
          refine g_iaddN F dX9_letGo_38 ?_
          refine g_iald F 1 dX9_letGo_39 rfl (by omega) (by decide) ?_
          refine g_top (nI (Sv (768 + i))) (nI (sU C i)) (by rw [hs7]) ?_
          refine g_iconst (v := nI 1) F dX9_letGo_40 (by decide) ?_
          refine g_icmp_neN (tgt := 52) F dX9_letGo_41 (by decide) (by omega) (by omega) (fun c41 => ?_) (fun c41 => ?_)
          · skip
            refine g_iconst (v := nI 0) F dX9_letGo_52 (by decide) ?_
            refine g_iaddN F dX9_letGo_53 ?_
            refine g_istore_n (lv2 := [(1, .int (nI (y + 0))), (3, .int (nI 0)), (0, .ref q), (2, .int (nI i))]) F dX9_letGo_54 rfl (by decide) rfl ?_
            refine g_aload_n F 2 dX9_letGo_55 rfl rfl ?_
            refine g_get F 0 0 dX9_letGo_56 rfl rfl (by decide) (by decide +kernel) (by decide +kernel) rfl ?_
            refine g_sipush (v := nI 768) F dX9_letGo_59 (by decide) ?_
            refine g_iload_n F 3 dX9_letGo_62 rfl rfl ?_
            refine g_iaddN F dX9_letGo_63 ?_
            refine g_iload_n F 1 dX9_letGo_64 rfl rfl ?_
            refine g_iast F 1 dX9_letGo_65 rfl (by omega) (by decide) (w2 := [ob 9 q [.ref (r 0), .ref (r 1), .ref (r 2), .int (nI rc), .ref (r 3), .int (nI tl), .ref (r 4), .ref (r 5), .ref (r 6), .ref (r 7), .ref (r 8), .ref (r 9), .ref (r 10), .ref (r 11), .ref (r 12), .int (nI at9), .int (lf9), .int (pl9), .int (vl9), .int (nI fa), .int (nI rs9), .int (cs), .int (nI dn)], ai E (r 0) 892 (up Sv (768 + i) 0), ai E (r 12) 96 O2_1]) rfl ?_
            refine g_iinc (k := 3) (v := nI (i + 1)) (lv2 := [(2, .int (nI (i + 1))), (1, .int (nI (y + 0))), (3, .int (nI 0)), (0, .ref q)]) F dX9_letGo_66 rfl (nI_1 _) (by decide) rfl ?_
            refine g_goto (tgt := 8) F dX9_letGo_69 (by decide) ?_
            refine g_lv [3, 1, 0] rfl ?_
            exact ih8 (i + 1) (y + 0) (up Sv (768 + i) 0) (by omega) (by omega) (by rw [cw_s, hy]; rw [if_pos (show sU C i = 0 by omega)]) (by exact (hS.use (b := i) (v := 0) (by omega)).congr (fun _ _ => rfl) (fun j hj => by (show up (fun j => if j < i then frU C j else sU C j) i 0 j = if j < i + 1 then frU C j else sU C j); (by_cases z : j = i); (rw [z, up_s, if_pos (by omega)]; exact hf8.symm); (rw [up_n _ _ z]; by_cases z2 : j < i; (rw [if_pos z2, if_pos (by omega)]); (rw [if_neg z2, if_neg (by omega)]))) rfl rfl rfl (fun _ _ => ⟨rfl, rfl, rfl⟩))
          · skip
            refine g_iload_n F 0 dX9_letGo_44 rfl rfl ?_
            refine g_if_neN (tgt := 52) F dX9_letGo_45 (by decide) (by decide) (fun c45 => absurd c45 (by decide)) (fun c45 => ?_)
            refine g_iconst (v := nI 1) F dX9_letGo_48 (by decide) ?_
            refine g_goto (tgt := 53) F dX9_letGo_49 (by decide) ?_
            refine g_iaddN F dX9_letGo_53 ?_
            refine g_istore_n (lv2 := [(1, .int (nI (y + 1))), (3, .int (nI 0)), (0, .ref q), (2, .int (nI i))]) F dX9_letGo_54 rfl (by decide) rfl ?_
            refine g_aload_n F 2 dX9_letGo_55 rfl rfl ?_
            refine g_get F 0 0 dX9_letGo_56 rfl rfl (by decide) (by decide +kernel) (by decide +kernel) rfl ?_
            refine g_sipush (v := nI 768) F dX9_letGo_59 (by decide) ?_
            refine g_iload_n F 3 dX9_letGo_62 rfl rfl ?_
            refine g_iaddN F dX9_letGo_63 ?_
            refine g_iload_n F 1 dX9_letGo_64 rfl rfl ?_
            refine g_iast F 1 dX9_letGo_65 rfl (by omega) (by decide) (w2 := [ob 9 q [.ref (r 0), .ref (r 1), .ref (r 2), .int (nI rc), .ref (r 3), .int (nI tl), .ref (r 4), .ref (r 5), .ref (r 6), .ref (r 7), .ref (r 8), .ref (r 9), .ref (r 10), .ref (r 11), .ref (r 12), .int (nI at9), .int (lf9), .int (pl9), .int (vl9), .int (nI fa), .int (nI rs9), .int (cs), .int (nI dn)], ai E (r 0) 892 (up Sv (768 + i) 0), ai E (r 12) 96 O2_1]) rfl ?_
            refine g_iinc (k := 3) (v := nI (i + 1)) (lv2 := [(2, .int (nI (i + 1))), (1, .int (nI (y + 1))), (3, .int (nI 0)), (0, .ref q)]) F dX9_letGo_66 rfl (nI_1 _) (by decide) rfl ?_
            refine g_goto (tgt := 8) F dX9_letGo_69 (by decide) ?_
            refine g_lv [3, 1, 0] rfl ?_
            exact ih8 (i + 1) (y + 1) (up Sv (768 + i) 0) (by omega) (by omega) (by rw [cw_s, hy]; rw [if_neg (show ¬ sU C i = 0 by omega), if_pos hf9]) (by exact (hS.use (b := i) (v := 0) (by omega)).congr (fun _ _ => rfl) (fun j hj => by (show up (fun j => if j < i then frU C j else sU C j) i 0 j = if j < i + 1 then frU C j else sU C j); (by_cases z : j = i); (rw [z, up_s, if_pos (by omega)]; exact hf8.symm); (rw [up_n _ _ z]; by_cases z2 : j < i; (rw [if_pos z2, if_pos (by omega)]); (rw [if_neg z2, if_neg (by omega)]))) rfl rfl rfl (fun _ _ => ⟨rfl, rfl, rfl⟩))
  refine g_lv [2, 1, 0] rfl ?_
  exact loop8 ((96 - 0) + 1) 0 0 S (Nat.lt_succ_self _) (by omega) (by rw [cw_0]) (by exact hR)
