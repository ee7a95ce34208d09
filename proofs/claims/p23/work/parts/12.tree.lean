/-! the law's own blocks, as they lie in its longs -/
theorem IC_wrS {C : CS} (h : IC C) {l p x : Nat} (hl : l < 16) (hp : p < 4) (hx : x < 1000) (hE : wrE C l = 0) : IC (wrS C l p x) := by
  obtain ⟨hN, hU, h1, h8, hm, hrb, hrs⟩ := h
  obtain ⟨hz, hu, hs⟩ := pw_ok hE
  have hc := cn_le (sU C) 96
  have lb1 : b1 C < 96 := ff_lt 96 (by omega)
  have cb1 : cn (up (sU C) (b1 C) 1) 96 = cn (sU C) 96 + 1 := cn_up (ff_at 96 lb1) 96 lb1
  have lb2 : b2 C < 96 := ff_lt 96 (by omega)
  have cb2 : cn (up (up (sU C) (b1 C) 1) (b2 C) 1) 96 = cn (up (sU C) (b1 C) 1) 96 + 1 := cn_up (ff_at 96 lb2) 96 lb2
  have lb3 : b3 C < 96 := ff_lt 96 (by omega)
  have k1 := ch_lt (v := 1) hl
  have k0 := ch_lt (v := 0) hl
  have q1 : ∀ j : Nat, cT1 (wtC C l) p x j < 65536 := fun j => by
    show up (wtC C l) _ x j < 65536
    unfold up; split
    · omega
    · exact wtc_lt hN _ _ _ _
  have q2 : ∀ j : Nat, cT2 (wtC C l) l p x (b1 C) j < 65536 := fun j => by
    show up (cT1 (wtC C l) p x) _ _ j < 65536
    have := sm_lt (cT1 (wtC C l) p x) (2 * 4)
    unfold up; split
    · omega
    · exact q1 j
  have q3 : ∀ j : Nat, wrT C l p x j < 65536 := fun j => by
    show up (cT2 (wtC C l) l p x (b1 C)) _ _ j < 65536
    have := sm_lt (cT2 (wtC C l) l p x (b1 C)) (1 * 4)
    unfold up; split
    · omega
    · exact q2 j
  have hT : ∀ v m, ∀ k, k < m → wrT C l p x (v * 4 + k) < 65536 := fun v m k _ => q3 _
  have hlf : BN (lf (sM C) (sN C) (b1 C) (b2 C) (wrT C l p x)) := by
    unfold lf
    (repeat' split)
    · exact ly_BN (ly_BN hN _ (hT _ _)) _ (hT _ _)
    · exact ly_BN hN _ (hT _ _)
    · exact ly_BN (ly_BN hN _ (hT _ _)) _ (hT _ _)
    · exact ly_BN (ly_BN hN _ (hT _ _)) _ (hT _ _)
  refine ⟨?_, ?_, ?_, ?_, ?_, ?_, ?_⟩
  · exact ly_BN (ly_BN (ly_BN (ly_BN hlf _ (hT _ _)) _ (hT _ _)) _ (hT _ _)) _ (hT _ _)
  · exact up_BU (up_BU (up_BU hU (Nat.le_refl 1)) (Nat.le_refl 1)) (Nat.le_refl 1)
  · show 1 ≤ sZ C + 1; omega
  · show sZ C + 1 ≤ 8; omega
  · show 0 < 4; omega
  · intro i hi
    show alt (sb C) (sZ C) (b3 C) i < 96
    have hi2 : i < sZ C + 1 := hi
    unfold alt; (repeat' split)
    · exact lb3
    · exact hrb _ (by omega)
    · omega
  · intro i hi
    show alt (ss C) (sZ C) (sm (wrT C l p x) (0 * 4)) i < 251
    have hi2 : i < sZ C + 1 := hi
    have := sm_lt (wrT C l p x) (0 * 4)
    unfold alt; (repeat' split)
    · exact this
    · exact hrs _ (by omega)
    · omega
theorem IC_nS {C : CS} (h : IC C) {N : Nat → Nat} (hN : BN N) : IC (nS C N) := ⟨hN, h.2⟩
theorem IC_fr {C : CS} (h : IC C) {a k : Nat} (hk : k < sZ C) : IC (frS C a k) := by
  refine ⟨h.1, su_BU _, ?_, ?_, h.2.2.2.2.1, fun i hi => rmi_lt (fun j hj => h.rb hj) hi, fun i hi => rmi_lt (fun j hj => h.rs hj) hi⟩
  · show 1 ≤ sZ C - k; omega
  · have := h.2.2.2.1
    show sZ C - k ≤ 8; omega
theorem b_ne {C : CS} (h1 : b1 C < 96) (h2 : b2 C < 96) (h3 : b3 C < 96) : b1 C ≠ b2 C ∧ b1 C ≠ b3 C ∧ b2 C ≠ b3 C := by
  have e2 : up (sU C) (b1 C) 1 (b2 C) = 0 := ff_at 96 h2
  have e3 : up (up (sU C) (b1 C) 1) (b2 C) 1 (b3 C) = 0 := ff_at 96 h3
  refine ⟨fun h => ?_, fun h => ?_, fun h => ?_⟩
  · rw [← h, up_s] at e2; exact absurd e2 (by decide)
  · have h4 : ¬ b1 C = b2 C := fun h5 => by
      rw [← h5, up_s] at e2; exact absurd e2 (by decide)
    rw [← h, up_n _ _ h4, up_s] at e3; exact absurd e3 (by decide)
  · rw [← h, up_s] at e3; exact absurd e3 (by decide)
theorem b_lt {C : CS} (h : 3 ≤ 96 - cn (sU C) 96) : b1 C < 96 ∧ b2 C < 96 ∧ b3 C < 96 := by
  have hc := cn_le (sU C) 96
  have lb1 : b1 C < 96 := ff_lt 96 (by omega)
  have cb1 : cn (up (sU C) (b1 C) 1) 96 = cn (sU C) 96 + 1 := cn_up (ff_at 96 lb1) 96 lb1
  have lb2 : b2 C < 96 := ff_lt 96 (by omega)
  have cb2 : cn (up (up (sU C) (b1 C) 1) (b2 C) 1) 96 = cn (up (sU C) (b1 C) 1) 96 + 1 := cn_up (ff_at 96 lb2) 96 lb2
  exact ⟨lb1, lb2, ff_lt 96 (by omega)⟩
theorem wrT_lt {C : CS} (h : IC C) {l p x : Nat} (hl : l < 16) (hx : x < 1000) (h1 : b1 C < 96) (h2 : b2 C < 96) (j : Nat) : wrT C l p x j < 65536 := by
  have q1 : ∀ j : Nat, cT1 (wtC C l) p x j < 65536 := fun j => by
    show up (wtC C l) _ x j < 65536
    unfold up; split
    · omega
    · exact wtc_lt h.1 _ _ _ _
  have q2 : ∀ j : Nat, cT2 (wtC C l) l p x (b1 C) j < 65536 := fun j => by
    show up (cT1 (wtC C l) p x) _ _ j < 65536
    have := sm_lt (cT1 (wtC C l) p x) (2 * 4)
    unfold up; split
    · omega
    · exact q1 j
  show up (cT2 (wtC C l) l p x (b1 C)) _ _ j < 65536
  have := sm_lt (cT2 (wtC C l) l p x (b1 C)) (1 * 4)
  unfold up; split
  · omega
  · exact q2 j
theorem dv_rng {x : Int32} {n : Nat} (hn : n < 2 ^ 31) (h : rng x n) : dv x < n := by
  obtain ⟨k, hk, rfl⟩ := rng_of hn h
  rw [dv_nI (by omega)]; exact hk
theorem rcn_le {n : Nat} (h : n ≤ 3) : rcn n ≤ 3 := by
  unfold rcn; split <;> omega
theorem rcH_BU {C : CS} {H : Nat → CS} {n : Nat} (hC : BU (sU C)) (hH : ∀ i : Nat, i < 3 → BU (sU (H i))) : ∀ i : Nat, i < 3 → BU (sU (rcH C H n i)) := by
  intro i hi
  by_cases h : n < 3
  · have e : rcH C H n = fun j => if j = n then C else H j := if_pos h
    rw [e]
    show BU (sU (if i = n then C else H i))
    by_cases z : i = n
    · rw [if_pos z]; exact hC
    · rw [if_neg z]; exact hH i hi
  · have e : rcH C H n = fun j => if j = 0 then H 1 else if j = 1 then H 2 else if j = 2 then C else H j := if_neg h
    rw [e]
    rcases (show i = 0 ∨ i = 1 ∨ i = 2 by omega) with rfl | rfl | rfl
    · exact hH 1 (by decide)
    · exact hH 2 (by decide)
    · exact hC
def ccf (N : Nat → Nat) (i b : Nat) : Nat → Nat := fun k => nu N i b k
noncomputable def cc (N : Nat → Nat) (i : Nat) : Nat → Int64 := fun b => pkN (ccf N i b)
/-- no block above 63 has a content -/
def ZB (N : Nat → Nat) : Prop := ∀ c b k : Nat, c < 2 → 64 ≤ b → b < 96 → k < 4 → nu N c b k = 0
theorem ccf_lt {N : Nat → Nat} (h : BN N) (i b : Nat) : ∀ j, j < 4 → ccf N i b j < 65536 := fun _ _ => h _
theorem cc_eq (N : Nat → Nat) (i b : Nat) : cc N i b = pkN (ccf N i b) := rfl
theorem cc_zero {N : Nat → Nat} (h : ZB N) {i b : Nat} (hi : i < 2) (hb : 64 ≤ b) (hb2 : b < 96) : (0 : Int64) = pkN (ccf N i b) := pk_zero (fun k hk => h i b k hi hb hb2 hk)
theorem sm_cc (N : Nat → Nat) (i b : Nat) : sm (ccf N i b) 0 = sm N ((i * 96 + b) * 4) := rfl
theorem al_cc {N : Nat → Nat} (h : BN N) (b : Nat) : lg_cmp (cc N 0 b) (cc N 1 b) = 0 ↔ al N b := by
  rw [lg_cmp_eq, cc_eq, cc_eq, pk_inj (ccf_lt h 0 b) (ccf_lt h 1 b)]
  exact Iff.rfl
theorem al_big {N : Nat → Nat} (h : ZB N) {b : Nat} (hb : 64 ≤ b) (hb2 : b < 96) : al N b := fun k hk => by
  rw [h 0 b k (by decide) hb hb2 hk, h 1 b k (by decide) hb hb2 hk]
theorem cc_upd {N N2 f : Nat → Nat} {i b : Nat} (h1 : ∀ k, k < 4 → f k = nu N2 i b k) (h2 : ∀ j k, j < 64 → ¬ j = b → k < 4 → nu N i j k = nu N2 i j k) : ∀ j, j < 64 → vp_updL (cc N i) b (pkN f) j = cc N2 i j := by
  intro j hj
  unfold vp_updL
  by_cases h : j = b
  · rw [if_pos h, h]; exact pk_congr h1
  · rw [if_neg h]; exact pk_congr (fun k hk => h2 j k hj h hk)
theorem nu_pn {N : Nat → Nat} {c b k v c2 b2 k2 : Nat} (hb : b < 96) (hb2 : b2 < 96) (hk : k < 4) (hk2 : k2 < 4) : nu (pn N c b k v) c2 b2 k2 = if c2 = c ∧ b2 = b ∧ k2 = k then v else nu N c2 b2 k2 := by
  unfold nu pn up
  by_cases h : c2 = c ∧ b2 = b ∧ k2 = k
  · rw [if_pos h, h.1, h.2.1, h.2.2, if_pos rfl]
  · rw [if_neg h, if_neg (fun z => h (by omega))]
theorem nu_ly {N T : Nat → Nat} {c b v c2 b2 k2 : Nat} (hb : b < 96) (hb2 : b2 < 96) (hk2 : k2 < 4) : ∀ m, m ≤ 4 → nu (ly N c b T v m) c2 b2 k2 = if c2 = c ∧ b2 = b ∧ k2 < m then T (v * 4 + k2) else nu N c2 b2 k2
  | 0, _ => by rw [if_neg (by omega)]; rfl
  | m + 1, hm => by
    show nu (pn (ly N c b T v m) c b m (wn T v m)) c2 b2 k2 = _
    rw [nu_pn hb hb2 (by omega) hk2, nu_ly hb hb2 hk2 m (by omega)]
    by_cases h : c2 = c ∧ b2 = b ∧ k2 = m
    · rw [if_pos h, if_pos ⟨h.1, h.2.1, by omega⟩, h.2.2]; rfl
    · rw [if_neg h]
      by_cases h2 : c2 = c ∧ b2 = b ∧ k2 < m
      · rw [if_pos h2, if_pos ⟨h2.1, h2.2.1, by omega⟩]
      · rw [if_neg h2, if_neg (fun z => h2 ⟨z.1, z.2.1, by have := z.2.2; have h9 : ¬ k2 = m := fun y => h ⟨z.1, z.2.1, y⟩; omega⟩)]
theorem nu_ly4 {N T : Nat → Nat} {c b v c2 b2 k2 : Nat} (hb : b < 96) (hb2 : b2 < 96) (hk2 : k2 < 4) : nu (ly N c b T v 4) c2 b2 k2 = if c2 = c ∧ b2 = b then T (v * 4 + k2) else nu N c2 b2 k2 := by
  rw [nu_ly hb hb2 hk2 4 (Nat.le_refl 4)]
  by_cases h : c2 = c ∧ b2 = b
  · rw [if_pos h, if_pos ⟨h.1, h.2, hk2⟩]
  · rw [if_neg h, if_neg (fun z => h ⟨z.1, z.2.1⟩)]
theorem nu_ly2 {N T : Nat → Nat} {b v c2 b2 k2 : Nat} (hc : c2 < 2) (hb : b < 96) (hb2 : b2 < 96) (hk2 : k2 < 4) : nu (ly2 N b T v) c2 b2 k2 = if b2 = b then T (v * 4 + k2) else nu N c2 b2 k2 := by
  unfold ly2
  rw [nu_ly4 hb hb2 hk2, nu_ly4 hb hb2 hk2]
  by_cases h : b2 = b
  · rw [if_pos h]
    rcases (show c2 = 0 ∨ c2 = 1 by omega) with rfl | rfl
    · rw [if_neg (by omega), if_pos ⟨rfl, h⟩]
    · rw [if_pos ⟨rfl, h⟩]
  · rw [if_neg h, if_neg (fun z => h z.2), if_neg (fun z => h z.2)]
/-! ways -/
theorem gl_is {N : Nat → Nat} {b s l v : Nat} (h : ∀ u, u < v → wd N b s l u < 2) (hv : v < 3) (h2 : wd N b s l v = 2) : gl N b s l = v := by
  unfold gl
  rcases (show v = 0 ∨ v = 1 ∨ v = 2 by omega) with rfl | rfl | rfl
  · rw [if_pos h2]
  · rw [if_neg (by have := h 0 (by omega); omega), if_pos h2]
  · rw [if_neg (by have := h 0 (by omega); omega), if_neg (by have := h 1 (by omega); omega), if_pos h2]
theorem gl_3 {N : Nat → Nat} {b s l : Nat} (h : ∀ u, u < 3 → wd N b s l u < 2) : gl N b s l = 3 := by
  unfold gl
  rw [if_neg (by have := h 0 (by omega); omega), if_neg (by have := h 1 (by omega); omega), if_neg (by have := h 2 (by omega); omega)]
theorem gl_lt {N : Nat → Nat} {b s l v : Nat} (h : v < gl N b s l) : wd N b s l v < 2 := by
  have h3 := wd_le N b s l v
  unfold gl at h
  by_cases h0 : wd N b s l 0 = 2
  · rw [if_pos h0] at h; omega
  · rw [if_neg h0] at h
    by_cases h1 : wd N b s l 1 = 2
    · rw [if_pos h1] at h
      rw [show v = 0 by omega]; have := wd_le N b s l 0; omega
    · rw [if_neg h1] at h
      by_cases h2 : wd N b s l 2 = 2
      · rw [if_pos h2] at h
        rcases (show v = 0 ∨ v = 1 by omega) with rfl | rfl <;> omega
      · rw [if_neg h2] at h
        rcases (show v = 0 ∨ v = 1 ∨ v = 2 by omega) with rfl | rfl | rfl <;> omega
theorem gl_sp (N : Nat → Nat) (b s l : Nat) : gl N b s l = 3 ↔ sp N b s l = 0 := by
  unfold gl sp
  (repeat' split) <;> omega
theorem sp_01 (N : Nat → Nat) (b s l : Nat) : sp N b s l ≤ 1 := by
  unfold sp
  (repeat' split) <;> omega
theorem wb_in {N : Nat → Nat} {b s l v : Nat} (h : v < gl N b s l) : wb N b s l v < 96 := tk_in (N := N) (s := wq N b s l v) (Nat.ne_of_lt (gl_lt h))
/-- what the law's row w holds of a way -/
def WX (N : Nat → Nat) (b s l : Nat) (W : Nat → Nat) : Prop := ∀ v : Nat, v < 3 → v ≤ gl N b s l → W v = wb N b s l v ∧ W (3 + v) = wq N b s l v ∧ W (6 + v) = wd N b s l v
theorem wb_lt {N : Nat → Nat} (h : BN N) {b s l : Nat} (hb : b < 65536) : ∀ v, wb N b s l v < 65536
  | 0 => hb
  | v + 1 => by
    rw [wb_s]
    have : nu N (wd N b s l v) (wb N b s l v) (ch l v) < 65536 := h _
    omega
theorem wq_lt {N : Nat → Nat} (h : BN N) {b s l : Nat} (hs : s < 65536) : ∀ v, wq N b s l v < 65536
  | 0 => hs
  | v + 1 => by rw [wq_s]; omega
/-! sets of blocks -/
def adt (F : (Nat → Nat) → Nat → Nat) : Prop := ∀ (U : Nat → Nat) (j : Nat), F U j = 0 ↔ U j = 0 ∧ F (fun _ => 0) j = 0
theorem adt_id : adt (fun U => U) := fun U j => ⟨fun h => ⟨h, rfl⟩, fun h => h.1⟩
theorem adt_ad (b : Nat) : adt (fun U => ad U b) := fun U j => by
  unfold ad up
  by_cases h : b < 96
  · simp only [if_pos h]
    by_cases h2 : j = b
    · simp only [if_pos h2]; exact ⟨fun z => absurd z (by decide), fun z => absurd z.2 (by decide)⟩
    · simp only [if_neg h2]; exact ⟨fun z => ⟨z, trivial⟩, fun z => z.1⟩
  · simp only [if_neg h]; exact ⟨fun z => ⟨z, trivial⟩, fun z => z.1⟩
theorem adt_comp {F G : (Nat → Nat) → Nat → Nat} (hF : adt F) (hG : adt G) : adt (fun U => F (G U)) := fun U j => by
  show F (G U) j = 0 ↔ U j = 0 ∧ F (G (fun _ => 0)) j = 0
  rw [hF (G U) j, hF (G (fun _ => 0)) j, hG U j]
  exact ⟨fun h => ⟨h.1.1, h.1.2, h.2⟩, fun h => ⟨⟨h.1, h.2.1⟩, h.2.2⟩⟩
theorem adt_ad4 (N : Nat → Nat) (c b : Nat) : ∀ k, adt (fun U => ad4 N c b U k)
  | 0 => adt_id
  | k + 1 => adt_comp (adt_ad (nu N c b k / 256)) (adt_ad4 N c b k)
theorem adt_ap (N : Nat → Nat) (q : Nat) : adt (fun U => ap N q U) := by
  by_cases h : q / 256 < 96
  · have e : (fun U => ap N q U) = fun U => ad4 N (cf N (q / 256) (q % 256)) (q / 256) (ad U (q / 256)) 4 := by
      funext U; exact if_pos h
    rw [e]
    exact adt_comp (adt_ad4 N _ _ 4) (adt_ad _)
  · have e : (fun U => ap N q U) = fun U => U := by
      funext U; exact if_neg h
    rw [e]; exact adt_id
theorem adt_ab4 (N : Nat → Nat) (c b : Nat) : ∀ k, adt (fun U => ab4 N c b U k)
  | 0 => adt_id
  | k + 1 => adt_comp (adt_ap N (nu N c b k)) (adt_ab4 N c b k)
theorem adt_ab (N : Nat → Nat) (b s : Nat) : adt (fun U => ab N b s U) := adt_comp (F := fun U => ab4 N (cf N b s) b U 4) (G := fun U => ad U b) (adt_ab4 N _ _ 4) (adt_ad b)
theorem ab_or (N : Nat → Nat) (b s : Nat) (U : Nat → Nat) (n : Nat) : bs U n ||| bs (ab N b s (fun _ => 0)) n = bs (ab N b s U) n := by
  rw [bs_or]
  refine bs_congr (fun j _ => ?_) n
  rw [show (ab N b s U j = 0 ↔ U j = 0 ∧ ab N b s (fun _ => 0) j = 0) from adt_ab N b s U j]
  by_cases h : U j = 0
  · rw [if_pos h]; exact ⟨fun z => ⟨h, z⟩, fun z => z.2⟩
  · rw [if_neg h]; exact ⟨fun z => absurd z h, fun z => absurd z.1 h⟩
theorem cn_congr {U V : Nat → Nat} : ∀ n, (∀ j, j < n → (U j = 0 ↔ V j = 0)) → cn U n = cn V n
  | 0, _ => by rw [cn_0, cn_0]
  | n + 1, h => by
    rw [cn_s, cn_s, cn_congr n (fun j hj => h j (by omega))]
    have := h n (Nat.lt_succ_self n)
    by_cases z : U n = 0
    · rw [if_pos z, if_pos (this.mp z)]
    · rw [if_neg z, if_neg (fun y => z (this.mpr y))]
theorem cw_cn (U V : Nat → Nat) : ∀ n, cn (fun j => if V j = 0 then U j else 0) n = cw U V n
  | 0 => by rw [cn_0, cw_0]
  | n + 1 => by
    rw [cn_s, cw_s, cw_cn U V n]
    by_cases h : U n = 0 <;> by_cases h2 : V n = 0 <;> simp [h, h2]
/-! copies -/
theorem cu_64 {N U : Nat → Nat} (h : ZB N) : ∀ n, 64 ≤ n → n ≤ 96 → cu N U n = cu N U 64 := by
  intro n
  induction n with
  | zero => intro h; omega
  | succ n ih =>
    intro h1 h2
    by_cases e : n + 1 = 64
    · rw [e]
    · rw [cu_a (Or.inr (al_big h (by omega) (by omega))), ih (by omega) (by omega)]
/-! a write -/
theorem ch_0 (l : Nat) : ch l 0 = l / 4 := if_pos rfl
theorem ch_1 (l : Nat) : ch l 1 = l % 4 := if_neg (by decide)
theorem cT3_2 (T : Nat → Nat) {l p x a b k : Nat} (hl : l < 16) (hk : k < 4) : cT3 T l p x a b (2 * 4 + k) = if k = p then x else T (2 * 4 + k) := by
  unfold cT3 cT2 cT1 up
  have h0 : ch l 0 < 4 := ch_lt hl
  have h1 : ch l 1 < 4 := ch_lt hl
  rw [if_neg (by omega), if_neg (by omega)]
  by_cases h : k = p
  · rw [if_pos h, if_pos (by omega)]
  · rw [if_neg h, if_neg (by omega)]
theorem sm_c12 (T : Nat → Nat) {l p x a b : Nat} (hl : l < 16) (hp : p < 4) : sm (cT1 T p x) (2 * 4) = sm (fun k => cT3 T l p x a b (2 * 4 + k)) 0 := by
  have e : ∀ k, k < 4 → cT1 T p x (2 * 4 + k) = cT3 T l p x a b (2 * 4 + k) := fun k hk => by
    rw [cT3_2 T hl hk]
    unfold cT1 up
    by_cases h : k = p
    · rw [if_pos h, if_pos (by omega)]
    · rw [if_neg h, if_neg (by omega)]
  have e0 := e 0 (by decide)
  have e1 := e 1 (by decide)
  have e2 := e 2 (by decide)
  have e3 := e 3 (by decide)
  unfold sm
  show _ = (4 * cT3 T l p x a b (2 * 4 + 0) + 3 * cT3 T l p x a b (2 * 4 + 1) + 2 * cT3 T l p x a b (2 * 4 + 2) + cT3 T l p x a b (2 * 4 + 3) + 7) % 251
  rw [← e0, ← e1, ← e2, ← e3]
theorem cT3_1 (T : Nat → Nat) {l p x a b k : Nat} (hl : l < 16) (hp : p < 4) (hk : k < 4) : cT3 T l p x a b (1 * 4 + k) = if k = l % 4 then 256 * a + sm (fun k => cT3 T l p x a b (2 * 4 + k)) 0 else T (1 * 4 + k) := by
  rw [← sm_c12 T hl hp]
  have h0 : ch l 0 < 4 := ch_lt hl
  show up (cT2 T l p x a) _ _ (1 * 4 + k) = _
  rw [up_n _ _ (by omega)]
  show up (cT1 T p x) _ _ (1 * 4 + k) = _
  unfold up
  rw [ch_1]
  by_cases h : k = l % 4
  · rw [if_pos h, if_pos (by omega)]
  · rw [if_neg h, if_neg (by omega)]
    unfold cT1 up
    rw [if_neg (by omega)]
theorem sm_c23 (T : Nat → Nat) {l p x a b : Nat} (hl : l < 16) : sm (cT2 T l p x a) (1 * 4) = sm (fun k => cT3 T l p x a b (1 * 4 + k)) 0 := by
  have h0 : ch l 0 < 4 := ch_lt hl
  have e : ∀ k, k < 4 → cT2 T l p x a (1 * 4 + k) = cT3 T l p x a b (1 * 4 + k) := fun k hk => by
    show _ = up (cT2 T l p x a) _ _ (1 * 4 + k)
    rw [up_n _ _ (by omega)]
  have e0 := e 0 (by decide)
  have e1 := e 1 (by decide)
  have e2 := e 2 (by decide)
  have e3 := e 3 (by decide)
  unfold sm
  show _ = (4 * cT3 T l p x a b (1 * 4 + 0) + 3 * cT3 T l p x a b (1 * 4 + 1) + 2 * cT3 T l p x a b (1 * 4 + 2) + cT3 T l p x a b (1 * 4 + 3) + 7) % 251
  rw [← e0, ← e1, ← e2, ← e3]
theorem cT3_0 (T : Nat → Nat) {l p x a b k : Nat} (hl : l < 16) (hk : k < 4) : cT3 T l p x a b (0 * 4 + k) = if k = l / 4 then 256 * b + sm (fun k => cT3 T l p x a b (1 * 4 + k)) 0 else T (0 * 4 + k) := by
  rw [← sm_c23 T hl]
  show up (cT2 T l p x a) _ _ (0 * 4 + k) = _
  unfold up
  rw [ch_0]
  by_cases h : k = l / 4
  · rw [if_pos h, if_pos (by omega)]
  · have h1 : ch l 1 < 4 := ch_lt hl
    rw [if_neg h, if_neg (by omega)]
    unfold cT2 cT1 up
    rw [if_neg (by omega), if_neg (by omega)]
/-- a block of the way that a write lays -/
def bk4 (T : Nat → Nat) (v : Nat) : Nat → Nat := fun k => T (v * 4 + k)
theorem sm_bk (T : Nat → Nat) (v : Nat) : sm (bk4 T v) 0 = sm T (v * 4) := rfl
theorem wr_now {N : Nat → Nat} {b s l p x a c : Nat} (hl : l < 16) : pkN (up (ccf N (wd N b s l 2) (wb N b s l 2)) p x) = pkN (bk4 (cT3 (wtc N b s l) l p x a c) 2) := pk_congr (fun k hk => by
  show _ = cT3 _ l p x a c (2 * 4 + k)
  rw [cT3_2 _ hl hk, wtc_at hk]
  rfl)
theorem wr_up {N : Nat → Nat} {b s l p x a c : Nat} (hl : l < 16) (hp : p < 4) : pkN (up (ccf N (wd N b s l 1) (wb N b s l 1)) (l % 4) (256 * a + sm (bk4 (cT3 (wtc N b s l) l p x a c) 2) 0)) = pkN (bk4 (cT3 (wtc N b s l) l p x a c) 1) := pk_congr (fun k hk => by
  show _ = cT3 _ l p x a c (1 * 4 + k)
  rw [cT3_1 _ hl hp hk, wtc_at hk]
  rfl)
theorem wr_top {N : Nat → Nat} {b s l p x a c : Nat} (hl : l < 16) : pkN (up (ccf N (wd N b s l 0) (wb N b s l 0)) (l / 4) (256 * c + sm (bk4 (cT3 (wtc N b s l) l p x a c) 1) 0)) = pkN (bk4 (cT3 (wtc N b s l) l p x a c) 0) := pk_congr (fun k hk => by
  show _ = cT3 _ l p x a c (0 * 4 + k)
  rw [cT3_0 _ hl hk, wtc_at hk]
  rfl)
/-- what a write lays for the leaf and for the parent in the copy 0 -/
def w1f (mi : Nat) (N T : Nat → Nat) (a : Nat) : Nat → Nat := if mi = 1 then (fun k => if k < 2 then T (2 * 4 + k) else nu N 0 a k) else if mi = 3 then bk4 T 1 else bk4 T 2
def w2f (mi : Nat) (N T : Nat → Nat) (b : Nat) : Nat → Nat := if mi = 2 then ccf N 0 b else if mi = 3 then bk4 T 2 else bk4 T 1
theorem nu_cN0 {mi : Nat} {N T : Nat → Nat} {a b c b2 k2 : Nat} (ha : a < 96) (hb : b < 96) (hc : c < 96) (hab : a ≠ b) (hac : a ≠ c) (hbc : b ≠ c) (hb2 : b2 < 96) (hk2 : k2 < 4) : nu (cN mi N a b c T) 0 b2 k2 = if b2 = c then T (0 * 4 + k2) else if b2 = b then w2f mi N T b k2 else if b2 = a then w1f mi N T a k2 else nu N 0 b2 k2 := by
  unfold cN
  rw [nu_ly4 hc hb2 hk2, if_neg (by omega), nu_ly4 hb hb2 hk2, if_neg (by omega), nu_ly4 ha hb2 hk2, if_neg (by omega), nu_ly4 hc hb2 hk2]
  by_cases h : b2 = c
  · rw [if_pos ⟨rfl, h⟩, if_pos h]
  · rw [if_neg (fun z => h z.2), if_neg h]
    by_cases h1 : mi = 1
    · have e0 : lf mi N a b T = ly (ly N 0 a T 2 2) 0 b T 1 4 := by unfold lf; rw [if_pos h1]
      have e1 : w1f mi N T a = fun k => if k < 2 then T (2 * 4 + k) else nu N 0 a k := by unfold w1f; rw [if_pos h1]
      have e2 : w2f mi N T b = bk4 T 1 := by unfold w2f; rw [if_neg (by omega), if_neg (by omega)]
      rw [e0, e1, e2, nu_ly4 hb hb2 hk2, nu_ly ha hb2 hk2 2 (by omega)]
      by_cases h2 : b2 = b
      · rw [if_pos ⟨rfl, h2⟩, if_pos h2]; rfl
      · rw [if_neg (fun z => h2 z.2), if_neg h2]
        by_cases h3 : b2 = a
        · rw [if_pos h3]
          show _ = if k2 < 2 then T (2 * 4 + k2) else nu N 0 a k2
          by_cases h4 : k2 < 2
          · rw [if_pos ⟨rfl, h3, h4⟩, if_pos h4]
          · rw [if_neg (fun z => h4 z.2.2), if_neg h4, h3]
        · rw [if_neg (fun z => h3 z.2.1), if_neg h3]
    · by_cases h5 : mi = 2
      · have e0 : lf mi N a b T = ly N 0 a T 2 4 := by unfold lf; rw [if_neg h1, if_pos h5]
        have e1 : w1f mi N T a = bk4 T 2 := by unfold w1f; rw [if_neg h1, if_neg (by omega)]
        have e2 : w2f mi N T b = ccf N 0 b := by unfold w2f; rw [if_pos h5]
        rw [e0, e1, e2, nu_ly4 ha hb2 hk2]
        by_cases h3 : b2 = a
        · rw [if_pos ⟨rfl, h3⟩, if_neg (by omega), if_pos h3]; rfl
        · rw [if_neg (fun z => h3 z.2)]
          by_cases h2 : b2 = b
          · rw [if_pos h2, h2]; rfl
          · rw [if_neg h2, if_neg h3]
      · by_cases h6 : mi = 3
        · have e0 : lf mi N a b T = ly (ly N 0 a T 1 4) 0 b T 2 4 := by unfold lf; rw [if_neg h1, if_neg h5, if_pos h6]
          have e1 : w1f mi N T a = bk4 T 1 := by unfold w1f; rw [if_neg h1, if_pos h6]
          have e2 : w2f mi N T b = bk4 T 2 := by unfold w2f; rw [if_neg h5, if_pos h6]
          rw [e0, e1, e2, nu_ly4 hb hb2 hk2, nu_ly4 ha hb2 hk2]
          by_cases h2 : b2 = b
          · rw [if_pos ⟨rfl, h2⟩, if_pos h2]; rfl
          · rw [if_neg (fun z => h2 z.2), if_neg h2]
            by_cases h3 : b2 = a
            · rw [if_pos ⟨rfl, h3⟩, if_pos h3]; rfl
            · rw [if_neg (fun z => h3 z.2), if_neg h3]
        · have e0 : lf mi N a b T = ly (ly N 0 a T 2 4) 0 b T 1 4 := by unfold lf; rw [if_neg h1, if_neg h5, if_neg h6]
          have e1 : w1f mi N T a = bk4 T 2 := by unfold w1f; rw [if_neg h1, if_neg h6]
          have e2 : w2f mi N T b = bk4 T 1 := by unfold w2f; rw [if_neg h5, if_neg h6]
          rw [e0, e1, e2, nu_ly4 hb hb2 hk2, nu_ly4 ha hb2 hk2]
          by_cases h2 : b2 = b
          · rw [if_pos ⟨rfl, h2⟩, if_pos h2]; rfl
          · rw [if_neg (fun z => h2 z.2), if_neg h2]
            by_cases h3 : b2 = a
            · rw [if_pos ⟨rfl, h3⟩, if_pos h3]; rfl
            · rw [if_neg (fun z => h3 z.2), if_neg h3]
theorem nu_lf1 {mi : Nat} {N T : Nat → Nat} {a b b2 k2 : Nat} (ha : a < 96) (hb : b < 96) (hb2 : b2 < 96) (hk2 : k2 < 4) : nu (lf mi N a b T) 1 b2 k2 = nu N 1 b2 k2 := by
  unfold lf
  (repeat' split)
  · rw [nu_ly4 hb hb2 hk2, if_neg (by omega), nu_ly ha hb2 hk2 2 (by omega), if_neg (by omega)]
  · rw [nu_ly4 ha hb2 hk2, if_neg (by omega)]
  · rw [nu_ly4 hb hb2 hk2, if_neg (by omega), nu_ly4 ha hb2 hk2, if_neg (by omega)]
  · rw [nu_ly4 hb hb2 hk2, if_neg (by omega), nu_ly4 ha hb2 hk2, if_neg (by omega)]
theorem nu_cN1 {mi : Nat} {N T : Nat → Nat} {a b c b2 k2 : Nat} (ha : a < 96) (hb : b < 96) (hc : c < 96) (hb2 : b2 < 96) (hk2 : k2 < 4) : nu (cN mi N a b c T) 1 b2 k2 = if b2 = c then T (0 * 4 + k2) else if b2 = b then T (1 * 4 + k2) else if b2 = a then T (2 * 4 + k2) else nu N 1 b2 k2 := by
  unfold cN
  rw [nu_ly4 hc hb2 hk2, nu_ly4 hb hb2 hk2, nu_ly4 ha hb2 hk2, nu_ly4 hc hb2 hk2, nu_lf1 ha hb hb2 hk2]
  by_cases h : b2 = c
  · rw [if_pos ⟨rfl, h⟩, if_pos h]
  · rw [if_neg (fun z => h z.2), if_neg h]
    by_cases h2 : b2 = b
    · rw [if_pos ⟨rfl, h2⟩, if_pos h2]
    · rw [if_neg (fun z => h2 z.2), if_neg h2]
      by_cases h3 : b2 = a
      · rw [if_pos ⟨rfl, h3⟩, if_pos h3]
      · rw [if_neg (fun z => h3 z.2), if_neg h3, if_neg (by omega)]
/-! unlike leaves, one by one -/
theorem or_mul (a b n : Nat) : (a ||| b) * 2 ^ n = a * 2 ^ n ||| b * 2 ^ n := by
  rw [← Nat.shiftLeft_eq, ← Nat.shiftLeft_eq, ← Nat.shiftLeft_eq, Nat.shiftLeft_or_distrib]
theorem ucs_or {z u p k : Nat} : z ||| (u ||| 2 ^ k) * 2 ^ (4 * p) = (z ||| u * 2 ^ (4 * p)) ||| 2 ^ (4 * p + k) := by
  rw [or_mul, ← Nat.pow_add, Nat.or_assoc, Nat.add_comm k]
