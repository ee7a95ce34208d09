/-! the class State: a way to a leaf, a write, mending, the blocks of roots -/
def wp (N : Nat → Nat) (b s l : Nat) : Nat → Nat × Nat
  | 0 => (b, s)
  | v + 1 => (nu N (tk N (wp N b s l v).1 (wp N b s l v).2) (wp N b s l v).1 (ch l v) / 256, nu N (tk N (wp N b s l v).1 (wp N b s l v).2) (wp N b s l v).1 (ch l v) % 256)
def wb (N : Nat → Nat) (b s l v : Nat) : Nat := (wp N b s l v).1
def wq (N : Nat → Nat) (b s l v : Nat) : Nat := (wp N b s l v).2
def wd (N : Nat → Nat) (b s l v : Nat) : Nat := tk N (wb N b s l v) (wq N b s l v)
theorem wd_le (N : Nat → Nat) (b s l v : Nat) : wd N b s l v ≤ 2 := tk_le _ _ _
theorem wb_s (N : Nat → Nat) (b s l v : Nat) : wb N b s l (v + 1) = nu N (wd N b s l v) (wb N b s l v) (ch l v) / 256 := rfl
theorem wq_s (N : Nat → Nat) (b s l v : Nat) : wq N b s l (v + 1) = nu N (wd N b s l v) (wb N b s l v) (ch l v) % 256 := rfl
theorem tk_in {N : Nat → Nat} {b s : Nat} (h : ¬ tk N b s = 2) : b < 96 := by
  unfold tk at h
  by_cases hb : 96 ≤ b
  · exact absurd (if_pos hb) h
  · omega
theorem tk_lt {N : Nat → Nat} {b s : Nat} (h : ¬ tk N b s = 2) : tk N b s < 2 := by
  have := tk_le N b s
  omega
theorem ch_lt {l v : Nat} (hl : l < 16) : ch l v < 4 := by
  unfold ch; split <;> omega
/-- what a way's cells hold once it is found -/
def WO (N : Nat → Nat) (b s l td : Nat) (Wb Ws Wc Wt : Nat → Nat) : Prop :=
  (1 ≤ td ∧ td ≤ 3) ∧ (∀ v : Nat, v < td → Wb v = wb N b s l v ∧ Ws v = wq N b s l v ∧ Wc v = wd N b s l v) ∧ (∀ v : Nat, v + 1 < td → wd N b s l v < 2) ∧ (td < 3 → wd N b s l (td - 1) = 2) ∧ (∀ v k : Nat, v < td → wd N b s l v < 2 → k < 4 → Wt (v * 4 + k) = nu N (wd N b s l v) (wb N b s l v) k)
/-- 0: the way can be read; 1: it is spoiled -/
def sp (N : Nat → Nat) (b s l : Nat) : Nat := if wd N b s l 0 = 2 then 1 else if wd N b s l 1 = 2 then 1 else if wd N b s l 2 = 2 then 1 else 0
/-- how many blocks of the way aren't spoiled -/
def gl (N : Nat → Nat) (b s l : Nat) : Nat := if wd N b s l 0 = 2 then 0 else if wd N b s l 1 = 2 then 1 else if wd N b s l 2 = 2 then 2 else 3
theorem gl_le (N : Nat → Nat) (b s l : Nat) : gl N b s l ≤ 3 := by
  unfold gl; (repeat' split) <;> omega
theorem WO.td3 {N : Nat → Nat} {b s l td : Nat} {Wb Ws Wc Wt : Nat → Nat} (h : WO N b s l td Wb Ws Wc Wt) : cpa td Wc 2 = 2 ↔ ¬ sp N b s l = 0 := by
  obtain ⟨⟨h1, h2⟩, h3, h4, h5, h6⟩ := h
  have hq : cpa td Wc 2 = 2 ↔ (¬ 2 < td ∨ Wc 2 = 2) := by
    unfold cpa
    by_cases z : 2 < td
    · rw [if_pos z]; exact ⟨fun q => Or.inr q, fun q => q.resolve_left (fun y => y z)⟩
    · rw [if_neg z]; exact ⟨fun _ => Or.inl z, fun _ => rfl⟩
  rw [hq]
  unfold sp
  constructor
  · intro h
    by_cases ht : 2 < td
    · have h7 : Wc 2 = 2 := h.resolve_left (fun z => z ht)
      have h8 := (h3 2 ht).2.2
      rw [h7] at h8
      (repeat' split) <;> first | omega | (rename_i z; exact absurd h8.symm z)
    · have h9 := h5 (by omega)
      rcases (show td = 1 ∨ td = 2 by omega) with rfl | rfl
      · rw [if_pos h9]; omega
      · split
        · omega
        · first | omega | (rw [if_pos h9]; omega)
  · intro h
    by_cases ht : 2 < td
    · have e0 := h4 0 (by omega)
      have e1 := h4 1 (by omega)
      right
      rw [(h3 2 ht).2.2]
      rw [if_neg (by omega), if_neg (by omega)] at h
      by_cases hz : wd N b s l 2 = 2
      · exact hz
      · rw [if_neg hz] at h; omega
    · exact Or.inl ht
theorem WO.good {N : Nat → Nat} {b s l td : Nat} {Wb Ws Wc Wt : Nat → Nat} (h : WO N b s l td Wb Ws Wc Wt) (h0 : sp N b s l = 0) : td = 3 ∧ ∀ v : Nat, v < 3 → wd N b s l v < 2 := by
  have h1 : ¬ cpa td Wc 2 = 2 := fun z => (h.td3.mp z) h0
  have h2 : td = 3 := by
    have := h.1.2
    by_cases z : 2 < td
    · omega
    · exact absurd (if_neg z) h1
  refine ⟨h2, fun v hv => ?_⟩
  have hw := wd_le N b s l v
  by_cases hz : wd N b s l v = 2
  · exfalso
    unfold sp at h0
    rcases (show v = 0 ∨ v = 1 ∨ v = 2 by omega) with rfl | rfl | rfl
    · rw [if_pos hz] at h0; omega
    · split at h0
      · omega
      · first | omega | (rw [if_pos hz] at h0; omega)
    · split at h0
      · omega
      · split at h0
        · omega
        · first | omega | (rw [if_pos hz] at h0; omega)
  · omega
/-- a way's numbers, as they were taken -/
def wtc (N : Nat → Nat) (b s l : Nat) : Nat → Nat := fun j => nu N (wd N b s l (j / 4)) (wb N b s l (j / 4)) (j % 4)
theorem WO_wtc {N : Nat → Nat} {b s l td : Nat} {Wb Ws Wc Wt : Nat → Nat} (h : WO N b s l td Wb Ws Wc Wt) (h0 : sp N b s l = 0) : ∀ j, j < 12 → Wt j = wtc N b s l j := by
  intro j hj
  obtain ⟨e1, e2⟩ := h.good h0
  have := h.2.2.2.2 (j / 4) (j % 4) (by omega) (e2 _ (by omega)) (by omega)
  rw [show j / 4 * 4 + j % 4 = j by omega] at this
  exact this
theorem WO_gl {N : Nat → Nat} {b s l td : Nat} {Wb Ws Wc Wt : Nat → Nat} (h : WO N b s l td Wb Ws Wc Wt) : gl N b s l ≤ td ∧ (∀ v : Nat, v < gl N b s l → wd N b s l v < 2) ∧ (∀ v : Nat, v < 3 → (v < gl N b s l ↔ ¬ cpa td Wc v = 2)) := by
  obtain ⟨⟨h1, h2⟩, h3, h4, h5, h6⟩ := h
  have hw := wd_le N b s l
  have hcase : (td = 1 ∧ wd N b s l 0 = 2) ∨ (td = 2 ∧ wd N b s l 0 < 2 ∧ wd N b s l 1 = 2) ∨ (td = 3 ∧ wd N b s l 0 < 2 ∧ wd N b s l 1 < 2) := by
    rcases (show td = 1 ∨ td = 2 ∨ td = 3 by omega) with rfl | rfl | rfl
    · exact Or.inl ⟨rfl, h5 (by omega)⟩
    · exact Or.inr (Or.inl ⟨rfl, h4 0 (by omega), h5 (by omega)⟩)
    · exact Or.inr (Or.inr ⟨rfl, h4 0 (by omega), h4 1 (by omega)⟩)
  have c0 := fun h => (h3 0 h).2.2
  have c1 := fun h => (h3 1 h).2.2
  have c2 := fun h => (h3 2 h).2.2
  have w2 := hw 2
  unfold gl cpa
  rcases hcase with ⟨rfl, q0⟩ | ⟨rfl, q0, q1⟩ | ⟨rfl, q0, q1⟩
  · rw [if_pos q0]
    refine ⟨by omega, fun v hv => by omega, fun v hv => ?_⟩
    rcases (show v = 0 ∨ v = 1 ∨ v = 2 by omega) with rfl | rfl | rfl
    · rw [if_pos (by omega), c0 (by omega), q0]; omega
    · rw [if_neg (by omega)]; omega
    · rw [if_neg (by omega)]; omega
  · rw [if_neg (by omega), if_pos q1]
    refine ⟨by omega, fun v hv => by rw [show v = 0 by omega]; exact q0, fun v hv => ?_⟩
    rcases (show v = 0 ∨ v = 1 ∨ v = 2 by omega) with rfl | rfl | rfl
    · rw [if_pos (by omega), c0 (by omega)]; omega
    · rw [if_pos (by omega), c1 (by omega), q1]; omega
    · rw [if_neg (by omega)]; omega
  · rw [if_neg (by omega), if_neg (by omega)]
    by_cases q2 : wd N b s l 2 = 2
    · rw [if_pos q2]
      refine ⟨by omega, fun v hv => by rcases (show v = 0 ∨ v = 1 by omega) with rfl | rfl <;> assumption, fun v hv => ?_⟩
      rcases (show v = 0 ∨ v = 1 ∨ v = 2 by omega) with rfl | rfl | rfl
      · rw [if_pos (by omega), c0 (by omega)]; omega
      · rw [if_pos (by omega), c1 (by omega)]; omega
      · rw [if_pos (by omega), c2 (by omega)]; omega
    · rw [if_neg q2]
      refine ⟨by omega, fun v hv => by rcases (show v = 0 ∨ v = 1 ∨ v = 2 by omega) with rfl | rfl | rfl <;> omega, fun v hv => ?_⟩
      rcases (show v = 0 ∨ v = 1 ∨ v = 2 by omega) with rfl | rfl | rfl
      · rw [if_pos (by omega), c0 (by omega)]; omega
      · rw [if_pos (by omega), c1 (by omega)]; omega
      · rw [if_pos (by omega), c2 (by omega)]; omega
theorem WO_cpa {N : Nat → Nat} {b s l td : Nat} {Wb Ws Wc Wt : Nat → Nat} (h : WO N b s l td Wb Ws Wc Wt) (v : Nat) : cpa td Wc v ≤ 2 := by
  unfold cpa
  split
  · rename_i z; rw [(h.2.1 v z).2.2]; exact wd_le _ _ _ _ _
  · omega
theorem wtc_at {N : Nat → Nat} {b s l v k : Nat} (hk : k < 4) : wtc N b s l (v * 4 + k) = nu N (wd N b s l v) (wb N b s l v) k := by
  unfold wtc
  rw [show (v * 4 + k) / 4 = v by omega, show (v * 4 + k) % 4 = k by omega]
def pw (z u f : Nat) : Int32 := if 8 ≤ z then (-1000003) else if 96 - u < 3 then (-1000003) else if f = 0 then nI 0 else (-1000002)
def cf (N : Nat → Nat) (b s : Nat) : Nat := if tk N b s = 2 then 0 else tk N b s
theorem cf_lt (N : Nat → Nat) (b s : Nat) : cf N b s < 2 := by
  have := tk_le N b s
  unfold cf; split <;> omega
def ad4 (N : Nat → Nat) (c b : Nat) (U : Nat → Nat) : Nat → (Nat → Nat)
  | 0 => U
  | k + 1 => ad (ad4 N c b U k) (nu N c b k / 256)
def ap (N : Nat → Nat) (q : Nat) (U : Nat → Nat) : Nat → Nat := if q / 256 < 96 then ad4 N (cf N (q / 256) (q % 256)) (q / 256) (ad U (q / 256)) 4 else U
def ab4 (N : Nat → Nat) (c b : Nat) (U : Nat → Nat) : Nat → (Nat → Nat)
  | 0 => U
  | k + 1 => ap N (nu N c b k) (ab4 N c b U k)
def ab (N : Nat → Nat) (b s : Nat) (U : Nat → Nat) : Nat → Nat := ab4 N (cf N b s) b (ad U b) 4
def su (N rb rs : Nat → Nat) : Nat → (Nat → Nat)
  | 0 => fun _ => 0
  | i + 1 => ab N (rb i) (rs i) (su N rb rs i)
theorem up_BU {U : Nat → Nat} (h : BU U) {i v : Nat} (hv : v ≤ 1) : BU (up U i v) := fun j => by
  unfold up; split
  · exact hv
  · exact h j
theorem up_BN {U : Nat → Nat} (h : BN U) {i v : Nat} (hv : v < 65536) : BN (up U i v) := fun j => by
  unfold up; split
  · exact hv
  · exact h j
theorem ad_BU {U : Nat → Nat} (h : BU U) (b : Nat) : BU (ad U b) := by
  unfold ad; split
  · exact up_BU h (Nat.le_refl 1)
  · exact h
theorem ad4_BU {N U : Nat → Nat} (h : BU U) (c b : Nat) : ∀ k, BU (ad4 N c b U k)
  | 0 => h
  | k + 1 => ad_BU (ad4_BU h c b k) _
theorem ap_BU {N U : Nat → Nat} (h : BU U) (q : Nat) : BU (ap N q U) := by
  unfold ap; split
  · exact ad4_BU (ad_BU h _) _ _ _
  · exact h
theorem ab4_BU {N U : Nat → Nat} (h : BU U) (c b : Nat) : ∀ k, BU (ab4 N c b U k)
  | 0 => h
  | k + 1 => ap_BU (ab4_BU h c b k) _
theorem ab_BU {N U : Nat → Nat} (h : BU U) (b s : Nat) : BU (ab N b s U) := ab4_BU (ad_BU h _) _ _ _
theorem su_BU {N rb rs : Nat → Nat} : ∀ i, BU (su N rb rs i)
  | 0 => fun _ => Nat.zero_le 1
  | i + 1 => ab_BU (su_BU i) _ _
/-- blocks in use whose copies are unlike, below i -/
noncomputable def cu0 (N U : Nat → Nat) : Nat → Nat
  | 0 => 0
  | i + 1 => cu0 N U i + @ite _ (U i = 0 ∨ al N i) (Classical.propDecidable _) 0 1
theorem cu_ex : ∃ f : (Nat → Nat) → (Nat → Nat) → Nat → Nat, (∀ N U, f N U 0 = 0) ∧ ∀ N U i, f N U (i + 1) = f N U i + @ite _ (U i = 0 ∨ al N i) (Classical.propDecidable _) 0 1 := ⟨cu0, fun _ _ => rfl, fun _ _ _ => rfl⟩
noncomputable def cu : (Nat → Nat) → (Nat → Nat) → Nat → Nat := Classical.choose cu_ex
theorem cu_0 (N U : Nat → Nat) : cu N U 0 = 0 := (Classical.choose_spec cu_ex).1 N U
theorem cu_s (N U : Nat → Nat) (i : Nat) : cu N U (i + 1) = cu N U i + @ite _ (U i = 0 ∨ al N i) (Classical.propDecidable _) 0 1 := (Classical.choose_spec cu_ex).2 N U i
theorem cu_a {N U : Nat → Nat} {i : Nat} (h : U i = 0 ∨ al N i) : cu N U (i + 1) = cu N U i := by
  rw [cu_s, if_pos h]; rfl
theorem cu_b {N U : Nat → Nat} {i : Nat} (h : ¬ U i = 0) (h2 : ¬ al N i) : cu N U (i + 1) = cu N U i + 1 := by
  rw [cu_s, if_neg (fun z => z.elim h h2)]
def ly2 (N : Nat → Nat) (b : Nat) (T : Nat → Nat) (v : Nat) : Nat → Nat := ly (ly N 0 b T v 4) 1 b T v 4
/-- mending, level by level: how many copies were unlike, and the numbers then; b, T: the blocks of the way and what was taken for them -/
noncomputable def md (N : Nat → Nat) (b : Nat → Nat) (T : Nat → Nat) : Nat → Nat × (Nat → Nat)
  | 0 => (0, N)
  | v + 1 => ((md N b T v).1 + @ite _ (al (md N b T v).2 (b v)) (Classical.propDecidable _) 0 1, ly2 (md N b T v).2 (b v) T v)
theorem md_a {N b T : Nat → Nat} {v : Nat} (h : al (md N b T v).2 (b v)) : (md N b T (v + 1)).1 = (md N b T v).1 := by
  show (md N b T v).1 + _ = _
  rw [if_pos h]; rfl
theorem md_b {N b T : Nat → Nat} {v : Nat} (h : ¬ al (md N b T v).2 (b v)) : (md N b T (v + 1)).1 = (md N b T v).1 + 1 := by
  show (md N b T v).1 + _ = _
  rw [if_neg h]
theorem md_le {N b T : Nat → Nat} : ∀ v, (md N b T v).1 ≤ v
  | 0 => Nat.le_refl 0
  | v + 1 => by
    have := md_le (N := N) (b := b) (T := T) v
    by_cases h : al (md N b T v).2 (b v)
    · rw [md_a h]; omega
    · rw [md_b h]; omega
theorem ly_congr {N : Nat → Nat} {c b v : Nat} {T T2 : Nat → Nat} : ∀ m, (∀ k, k < m → T (v * 4 + k) = T2 (v * 4 + k)) → ly N c b T v m = ly N c b T2 v m
  | 0, _ => rfl
  | m + 1, h => by
    show pn (ly N c b T v m) c b m (wn T v m) = pn (ly N c b T2 v m) c b m (wn T2 v m)
    rw [ly_congr m (fun k hk => h k (by omega)), show wn T v m = wn T2 v m from h m (by omega)]
theorem ly_BN {N T : Nat → Nat} (h : BN N) {c b v : Nat} : ∀ m, (∀ k, k < m → T (v * 4 + k) < 65536) → BN (ly N c b T v m)
  | 0, _ => h
  | m + 1, hT => up_BN (ly_BN h m (fun k hk => hT k (by omega))) (hT m (by omega))
theorem ly2_BN {N T : Nat → Nat} (h : BN N) {b v : Nat} (hT : ∀ k, k < 4 → T (v * 4 + k) < 65536) : BN (ly2 N b T v) := ly_BN (ly_BN h 4 hT) 4 hT
theorem md_BN {N b T : Nat → Nat} (h : BN N) : ∀ m, (∀ v k, v < m → k < 4 → T (v * 4 + k) < 65536) → BN (md N b T m).2
  | 0, _ => h
  | m + 1, hT => ly2_BN (md_BN h m (fun v k hv hk => hT v k (by omega) hk)) (fun k hk => hT m k (by omega) hk)
theorem md_congr {N b b2 T T2 : Nat → Nat} : ∀ m, (∀ v, v < m → b v = b2 v) → (∀ v k, v < m → k < 4 → T (v * 4 + k) = T2 (v * 4 + k)) → md N b T m = md N b2 T2 m
  | 0, _, _ => rfl
  | m + 1, hb, hT => by
    have e := md_congr (N := N) m (fun v hv => hb v (by omega)) (fun v k hv hk => hT v k (by omega) hk)
    show ((md N b T m).1 + _, ly2 (md N b T m).2 (b m) T m) = ((md N b2 T2 m).1 + _, ly2 (md N b2 T2 m).2 (b2 m) T2 m)
    rw [e, hb m (by omega)]
    congr 1
    unfold ly2
    rw [ly_congr (N := (md N b2 T2 m).2) 4 (fun k hk => hT m k (by omega) hk), ly_congr 4 (fun k hk => hT m k (by omega) hk)]
theorem wtc_lt {N : Nat → Nat} (h : BN N) (b s l j : Nat) : wtc N b s l j < 65536 := h _
/-- the copy 0 of the first two new blocks, where mishaps strike -/
def lf (mi : Nat) (N : Nat → Nat) (a b : Nat) (T : Nat → Nat) : Nat → Nat := if mi = 1 then ly (ly N 0 a T 2 2) 0 b T 1 4 else if mi = 2 then ly N 0 a T 2 4 else if mi = 3 then ly (ly N 0 a T 1 4) 0 b T 2 4 else ly (ly N 0 a T 2 4) 0 b T 1 4
def cT1 (T : Nat → Nat) (p x : Nat) : Nat → Nat := up T (2 * 4 + p) x
def cT2 (T : Nat → Nat) (l p x a : Nat) : Nat → Nat := up (cT1 T p x) (1 * 4 + (ch l 1)) (256 * a + (sm (cT1 T p x) (2 * 4)))
def cT3 (T : Nat → Nat) (l p x a b : Nat) : Nat → Nat := up (cT2 T l p x a) (0 * 4 + (ch l 0)) (256 * b + (sm (cT2 T l p x a) (1 * 4)))
def cN (mi : Nat) (N : Nat → Nat) (a b c : Nat) (T : Nat → Nat) : Nat → Nat := ly (ly (ly (ly (lf mi N a b T) 0 c T 0 4) 1 a T 2 4) 1 b T 1 4) 1 c T 0 4
theorem ff_lt {U : Nat → Nat} : ∀ n, cn U n < n → ff U n < n := by
  intro n
  induction n with
  | zero => intro h; omega
  | succ n ih =>
    intro h
    rw [ff_s]
    by_cases h1 : ff U n < n
    · rw [if_pos h1]; omega
    · rw [if_neg h1]
      have h2 : ¬ cn U n < n := fun z => h1 (ih z)
      have h3 := cn_le U n
      rw [cn_s] at h
      by_cases h4 : U n = 0
      · rw [if_pos h4]; omega
      · rw [if_neg h4] at h; omega
theorem ff_at {U : Nat → Nat} : ∀ n, ff U n < n → U (ff U n) = 0 := by
  intro n
  induction n with
  | zero => intro h; omega
  | succ n ih =>
    intro h
    rw [ff_s] at h ⊢
    by_cases h1 : ff U n < n
    · rw [if_pos h1]; exact ih h1
    · rw [if_neg h1] at h ⊢
      by_cases h4 : U n = 0
      · rw [if_pos h4]; exact h4
      · rw [if_neg h4] at h; omega
theorem cn_out {U : Nat → Nat} {i v : Nat} : ∀ n, n ≤ i → cn (up U i v) n = cn U n
  | 0, _ => by rw [cn_0, cn_0]
  | n + 1, h => by
    rw [cn_s, cn_s, cn_out n (by omega), up_n U v (by omega)]
theorem cn_up {U : Nat → Nat} {i : Nat} (h0 : U i = 0) : ∀ n, i < n → cn (up U i 1) n = cn U n + 1
  | 0, h => by omega
  | n + 1, h => by
    rw [cn_s, cn_s]
    by_cases hi : i < n
    · rw [cn_up h0 n hi, up_n U 1 (by omega)]; omega
    · have e : i = n := by omega
      subst e
      rw [cn_out i (Nat.le_refl i), up_s, h0]
      rfl

set_option maxHeartbeats 4000000 in
set_option maxRecDepth 100000 in
theorem c_X5_findWay (l : Launch) (E : En) (s0 : Nat) (s1 : Nat) (s2 : Nat) (s3 : Nat) (s4 : Nat) (s6 : Nat) (s7 : Nat) (s8 : Nat) (mi : Nat) (wr : Nat) (z : Nat) (N : Nat → Nat) (rb : Nat → Nat) (rs : Nat → Nat) (g0 : Nat) (g1 : Nat) (g2 : Nat) (g3 : Nat) (g4 : Nat) (td : Nat) (eb : Nat → Nat) (es : Nat → Nat) (ec : Nat → Nat) (et : Nat → Nat) (r : Nat) (l0 : Nat) (hr : r < 8) (hl : l0 < 16) (hN : BN N) (hrb : rb r < 65536) (hrs : rs r < 65536) : CtV l yX5_findWay wsX5_findWay ({ frames := 3, cells := 0, slots := 0, locals := 66 } : Room) E [.ref s0, .ref g0, .int (nI r), .int (nI l0)] [ob 5 s0 [.ref s1, .ref s2, .ref s3, .int (nI mi), .int (nI wr)], ob 1 s1 [.ref s4], ai E s4 768 N, ob 3 s3 [.ref s6, .ref s7, .ref s8, .int (nI z)], ai E s7 8 rb, ai E s8 8 rs, ob 7 g0 [.ref g1, .ref g2, .ref g3, .ref g4, .int (nI td)], ai E g1 3 eb, ai E g2 3 es, ai E g3 3 ec, ai E g4 12 et] (fun uu => ∃ (td2 : Nat), ∃ (Wb : Nat → Nat), ∃ (Ws : Nat → Nat), ∃ (Wc : Nat → Nat), ∃ (Wt : Nat → Nat), (WO N (rb r) (rs r) l0 td2 Wb Ws Wc Wt) ∧ uu = [ob 5 s0 [.ref s1, .ref s2, .ref s3, .int (nI mi), .int (nI wr)], ob 1 s1 [.ref s4], ai E s4 768 N, ob 3 s3 [.ref s6, .ref s7, .ref s8, .int (nI z)], ai E s7 8 rb, ai E s8 8 rs, ob 7 g0 [.ref g1, .ref g2, .ref g3, .ref g4, .int (nI td2)], ai E g1 3 Wb, ai E g2 3 Ws, ai E g3 3 Wc, ai E g4 12 Wt]) := by
  refine CtV.of cX5_findWay 9 RX5 rfl (by decide) rfl (Nat.le_of_ble_eq_true rfl) ?_
  intro Γ F hin0 hret
  show G Γ E 0 0 0 [(0, .ref s0), (1, .ref g0), (2, .int (nI r)), (3, .int (nI l0))] [] [ob 5 s0 [.ref s1, .ref s2, .ref s3, .int (nI mi), .int (nI wr)], ob 1 s1 [.ref s4], ai E s4 768 N, ob 3 s3 [.ref s6, .ref s7, .ref s8, .int (nI z)], ai E s7 8 rb, ai E s8 8 rs, ob 7 g0 [.ref g1, .ref g2, .ref g3, .ref g4, .int (nI td)], ai E g1 3 eb, ai E g2 3 es, ai E g3 3 ec, ai E g4 12 et]
  refine g_aload_n F 1 dX5_findWay_0 rfl rfl ?_
  refine g_callVvW (n := 0) F [6] (c_X7_clear l E g0 g1 g2 g3 g4 td ) dX5_findWay_1 rfl (by decide) rfl rfl rfl (Nat.le_of_ble_eq_true rfl) ⟨Nat.le_of_ble_eq_true rfl, Nat.le_of_ble_eq_true rfl⟩ rfl rfl ⟨Nat.le_of_ble_eq_true rfl, Nat.le_of_ble_eq_true rfl⟩ 6 rfl rfl gX5_findWay_X7_clear (by decide +kernel) (fun u hp => by obtain rfl := hp; rfl) ?_
  rintro u_1 rfl
  refine g_ws (w2 := [ob 5 s0 [.ref s1, .ref s2, .ref s3, .int (nI mi), .int (nI wr)], ob 1 s1 [.ref s4], ai E s4 768 N, ob 3 s3 [.ref s6, .ref s7, .ref s8, .int (nI z)], ai E s7 8 rb, ai E s8 8 rs, ob 7 g0 [.ref g1, .ref g2, .ref g3, .ref g4, .int (nI 0)], ai E g1 3 eb, ai E g2 3 es, ai E g3 3 ec, ai E g4 12 et]) rfl ?_
  refine g_aload_n F 0 dX5_findWay_4 rfl rfl ?_
  refine g_get F 0 2 dX5_findWay_5 rfl rfl (by decide) (by decide +kernel) (by decide +kernel) rfl ?_
  refine g_iload_n F 2 dX5_findWay_8 rfl rfl ?_
  refine g_callViR (n := 1) F [3, 4] (c_X3_blockAt l E s3 s6 s7 s8 z rb r (by omega)) dX5_findWay_9 rfl (by decide) rfl rfl rfl (Nat.le_of_ble_eq_true rfl) ⟨Nat.le_of_ble_eq_true rfl, Nat.le_of_ble_eq_true rfl⟩ rfl rfl ⟨Nat.le_of_ble_eq_true rfl, Nat.le_of_ble_eq_true rfl⟩ 3 rfl rfl gX5_findWay_X3_blockAt (by decide +kernel) (fun r u hp => by obtain ⟨-, h⟩ := hp; exact h) ?_
  rintro r_9 u_9 ⟨rfl, -⟩
  refine g_istore (lv2 := [(4, .int (nI (rb r))), (0, .ref s0), (1, .ref g0), (2, .int (nI r)), (3, .int (nI l0))]) F dX5_findWay_12 (by decide) rfl ?_
  refine g_aload_n F 1 dX5_findWay_14 rfl rfl ?_
  refine g_get F 0 2 dX5_findWay_15 rfl rfl (by decide) (by decide +kernel) (by decide +kernel) rfl ?_
  refine g_iload_n F 3 dX5_findWay_18 rfl rfl ?_
  refine g_callViR (n := 1) F [3, 5] (c_X3_sumAt l E s3 s6 s7 s8 z rs r (by omega)) dX5_findWay_19 rfl (by decide) rfl rfl rfl (Nat.le_of_ble_eq_true rfl) ⟨Nat.le_of_ble_eq_true rfl, Nat.le_of_ble_eq_true rfl⟩ rfl rfl ⟨Nat.le_of_ble_eq_true rfl, Nat.le_of_ble_eq_true rfl⟩ 3 rfl rfl gX5_findWay_X3_sumAt (by decide +kernel) (fun r u hp => by obtain ⟨-, h⟩ := hp; exact h) ?_
  rintro r_19 u_19 ⟨rfl, -⟩
  refine g_istore (lv2 := [(5, .int (nI (rs r))), (4, .int (nI (rb r))), (0, .ref s0), (1, .ref g0), (2, .int (nI r)), (3, .int (nI l0))]) F dX5_findWay_22 (by decide) rfl ?_
  refine g_iconst (v := nI 0) F dX5_findWay_24 (by decide) ?_
  refine g_istore (lv2 := [(6, .int (nI 0)), (5, .int (nI (rs r))), (4, .int (nI (rb r))), (0, .ref s0), (1, .ref g0), (2, .int (nI r)), (3, .int (nI l0))]) F dX5_findWay_25 (by decide) rfl ?_
  have loop27 : ∀ (n : Nat) (v : Nat) (x : Nat) (y : Nat) (A : Nat → Nat) (Bb : Nat → Nat) (Cc : Nat → Nat) (Dd : Nat → Nat), 3 - v < n → (v ≤ 3) → (x = wb N (rb r) (rs r) l0 v) → (y = wq N (rb r) (rs r) l0 v) → (x < 65536) → (y < 65536) → (∀ u : Nat, u < v → A u = wb N (rb r) (rs r) l0 u ∧ Bb u = wq N (rb r) (rs r) l0 u ∧ Cc u = wd N (rb r) (rs r) l0 u) → (∀ u : Nat, u < v → wd N (rb r) (rs r) l0 u < 2) → (∀ u k : Nat, u < v → k < 4 → Dd (u * 4 + k) = nu N (wd N (rb r) (rs r) l0 u) (wb N (rb r) (rs r) l0 u) k) → G Γ E (0) (0) 27 [(0, .ref s0), (1, .ref g0), (2, .int (nI r)), (3, .int (nI l0)), (4, .int (nI x)), (5, .int (nI y)), (6, .int (nI v))] [] [ob 5 s0 [.ref s1, .ref s2, .ref s3, .int (nI mi), .int (nI wr)], ob 1 s1 [.ref s4], ai E s4 768 N, ob 3 s3 [.ref s6, .ref s7, .ref s8, .int (nI z)], ai E s7 8 rb, ai E s8 8 rs, ob 7 g0 [.ref g1, .ref g2, .ref g3, .ref g4, .int (nI v)], ai E g1 3 A, ai E g2 3 Bb, ai E g3 3 Cc, ai E g4 12 Dd] := by
    intro n
    induction n with
    | zero => intro v x y A Bb Cc Dd hz; exact absurd hz (Nat.not_lt_zero _)
    | succ n ih27 =>
      intro v x y A Bb Cc Dd hz27 hv hx hy hx2 hy2 hA hg hD
      refine g_iload F 6 dX5_findWay_27 rfl ?_
      refine g_iconst (v := nI 2) F dX5_findWay_29 (by decide) ?_
      refine g_icmp_gtN (tgt := 135) F dX5_findWay_30 (by decide) (by omega) (by omega) (fun c30 => ?_) (fun c30 => ?_)
      · skip
        exact hret _ _ _ dX5_findWay_135 ⟨v, A, Bb, Cc, Dd, (by 
              have e : v = 3 := by omega
              subst e
              exact ⟨⟨by omega, by omega⟩, hA, fun u hu => hg u (by omega), fun h => by omega, fun u k hu _ hk => hD u k hu hk⟩), (by rfl)⟩
      · skip
        refine g_aload_n F 0 dX5_findWay_33 rfl rfl ?_
        refine g_get F 0 0 dX5_findWay_34 rfl rfl (by decide) (by decide +kernel) (by decide +kernel) rfl ?_
        refine g_iload F 4 dX5_findWay_37 rfl ?_
        refine g_iload F 5 dX5_findWay_39 rfl ?_
        refine g_callViR (n := 2) F [1, 2] (c_X1_copyWithSum l E s1 s4 N x y (by omega) (by omega) (by assumption)) dX5_findWay_41 rfl (by decide) rfl rfl rfl (Nat.le_of_ble_eq_true rfl) ⟨Nat.le_of_ble_eq_true rfl, Nat.le_of_ble_eq_true rfl⟩ rfl rfl ⟨Nat.le_of_ble_eq_true rfl, Nat.le_of_ble_eq_true rfl⟩ 1 rfl rfl gX5_findWay_X1_copyWithSum (by decide +kernel) (fun r u hp => by obtain ⟨-, h⟩ := hp; exact h) ?_
        rintro r_41 u_41 ⟨rfl, -⟩
        refine g_istore (lv2 := [(7, .int (nI (tk N x y))), (0, .ref s0), (1, .ref g0), (2, .int (nI r)), (3, .int (nI l0)), (4, .int (nI x)), (5, .int (nI y)), (6, .int (nI v))]) F dX5_findWay_44 (by decide) rfl ?_
        refine g_aload_n F 2 dX5_findWay_46 rfl rfl ?_
        refine g_iload F 5 dX5_findWay_47 rfl ?_
        refine g_iload F 6 dX5_findWay_49 rfl ?_
        refine g_iload F 0 dX5_findWay_51 rfl ?_
        refine g_callVvW (n := 3) F [6, 7, 8, 9, 10] (c_X7_add l E g0 g1 g2 g3 g4 v A Bb Cc Dd x y (tk N x y) (by omega)) dX5_findWay_53 rfl (by decide) rfl rfl rfl (Nat.le_of_ble_eq_true rfl) ⟨Nat.le_of_ble_eq_true rfl, Nat.le_of_ble_eq_true rfl⟩ rfl rfl ⟨Nat.le_of_ble_eq_true rfl, Nat.le_of_ble_eq_true rfl⟩ 6 rfl rfl gX5_findWay_X7_add (by decide +kernel) (fun u hp => by obtain rfl := hp; rfl) ?_
        rintro u_53 rfl
        refine g_ws (w2 := [ob 5 s0 [.ref s1, .ref s2, .ref s3, .int (nI mi), .int (nI wr)], ob 1 s1 [.ref s4], ai E s4 768 N, ob 3 s3 [.ref s6, .ref s7, .ref s8, .int (nI z)], ai E s7 8 rb, ai E s8 8 rs, ob 7 g0 [.ref g1, .ref g2, .ref g3, .ref g4, .int (nI (v + 1))], ai E g1 3 (up A v x), ai E g2 3 (up Bb v y), ai E g3 3 (up Cc v (tk N x y)), ai E g4 12 Dd]) rfl ?_
        refine g_iload F 0 dX5_findWay_56 rfl ?_
        refine g_iconst (v := nI 2) F dX5_findWay_58 (by decide) ?_
        refine g_icmp_neN (tgt := 63) F dX5_findWay_59 (by decide) (by have := tk_le N x y; omega) (by have := tk_le N x y; omega) (fun c59 => ?_) (fun c59 => ?_)
        · skip
          refine g_iconst (v := nI 0) F dX5_findWay_63 (by decide) ?_
          refine g_istore (lv2 := [(8, .int (nI 0)), (7, .int (nI (tk N x y))), (0, .ref s0), (1, .ref g0), (2, .int (nI r)), (3, .int (nI l0)), (4, .int (nI x)), (5, .int (nI y)), (6, .int (nI v))]) F dX5_findWay_64 (by decide) rfl ?_
          have loop66 : ∀ (n : Nat) (j : Nat) (D2 : Nat → Nat), 4 - j < n → (j ≤ 4) → (∀ u : Nat, u < v * 4 → D2 u = Dd u) → (∀ k : Nat, k < j → D2 (v * 4 + k) = nu N (tk N x y) x k) → G Γ E (0) (0) 66 [(0, .ref s0), (1, .ref g0), (2, .int (nI r)), (3, .int (nI l0)), (4, .int (nI x)), (5, .int (nI y)), (6, .int (nI v)), (7, .int (nI (tk N x y))), (8, .int (nI j))] [] [ob 5 s0 [.ref s1, .ref s2, .ref s3, .int (nI mi), .int (nI wr)], ob 1 s1 [.ref s4], ai E s4 768 N, ob 3 s3 [.ref s6, .ref s7, .ref s8, .int (nI z)], ai E s7 8 rb, ai E s8 8 rs, ob 7 g0 [.ref g1, .ref g2, .ref g3, .ref g4, .int (nI (v + 1))], ai E g1 3 (up A v x), ai E g2 3 (up Bb v y), ai E g3 3 (up Cc v (tk N x y)), ai E g4 12 D2] := by
            intro n
            induction n with
            | zero => intro j D2 hz; exact absurd hz (Nat.not_lt_zero _)
            | succ n ih66 =>
              intro j D2 hz66 hj hE1 hE2
              refine g_iload F 8 dX5_findWay_66 rfl ?_
              refine g_iconst (v := nI 4) F dX5_findWay_68 (by decide) ?_
              refine g_icmp_geN (tgt := 99) F dX5_findWay_69 (by decide) (by omega) (by omega) (fun c69 => ?_) (fun c69 => ?_)
              · skip
                refine g_aload_n F 1 dX5_findWay_99 rfl rfl ?_
                refine g_iload F 6 dX5_findWay_100 rfl ?_
                refine g_iload_n F 3 dX5_findWay_102 rfl rfl ?_
                refine g_iload F 6 dX5_findWay_103 rfl ?_
                refine g_callSNiR (n := 2) F [] (c_X8_childTowards l E l0 v (by omega) (by omega)) dX5_findWay_105 rfl (by decide) rfl rfl rfl (Nat.le_of_ble_eq_true rfl) ⟨Nat.le_of_ble_eq_true rfl, Nat.le_of_ble_eq_true rfl⟩ rfl rfl ⟨Nat.le_of_ble_eq_true rfl, Nat.le_of_ble_eq_true rfl⟩ (host := "SummedParents") ggX5_findWay_X8_childTowards (by decide +kernel) (by decide +kernel) (by decide +kernel) (by decide +kernel) (fun r u hp => by obtain ⟨-, h⟩ := hp; exact h) ?_
                rintro r_105 u_105 ⟨rfl, -⟩
                refine g_callViR (n := 2) F [6, 10] (c_X7_numberAt l E g0 g1 g2 g3 g4 (v + 1) D2 v (ch l0 v) (by omega) (by exact ch_lt hl)) dX5_findWay_108 rfl (by decide) rfl rfl rfl (Nat.le_of_ble_eq_true rfl) ⟨Nat.le_of_ble_eq_true rfl, Nat.le_of_ble_eq_true rfl⟩ rfl rfl ⟨Nat.le_of_ble_eq_true rfl, Nat.le_of_ble_eq_true rfl⟩ 6 rfl rfl gX5_findWay_X7_numberAt (by decide +kernel) (fun r u hp => by obtain ⟨-, h⟩ := hp; exact h) ?_
                rintro r_108 u_108 ⟨rfl, -⟩
                refine g_istore (lv2 := [(8, .int (nI (wn D2 v (ch l0 v)))), (0, .ref s0), (1, .ref g0), (2, .int (nI r)), (3, .int (nI l0)), (4, .int (nI x)), (5, .int (nI y)), (6, .int (nI v)), (7, .int (nI (tk N x y)))]) F dX5_findWay_111 (by decide) rfl ?_
                refine g_iload F 0 dX5_findWay_113 rfl ?_
                have hwv0 : wn D2 v (ch l0 v) = nu N (tk N x y) x (ch l0 v) := hE2 _ (by have := ch_lt (v := v) hl; omega)
                have hwl : wn D2 v (ch l0 v) < 65536 := by rw [hwv0]; exact hN _
                refine g_sipush (v := nI 256) F dX5_findWay_115 (by decide) ?_
                refine g_idivN F dX5_findWay_118 (by omega) (by decide) (by decide) ?_
                refine g_istore (lv2 := [(4, .int (nI ((wn D2 v (ch l0 v)) / 256))), (8, .int (nI (wn D2 v (ch l0 v)))), (0, .ref s0), (1, .ref g0), (2, .int (nI r)), (3, .int (nI l0)), (5, .int (nI y)), (6, .int (nI v)), (7, .int (nI (tk N x y)))]) F dX5_findWay_119 (by decide) rfl ?_
                refine g_iload F 1 dX5_findWay_121 rfl ?_
                refine g_sipush (v := nI 256) F dX5_findWay_123 (by decide) ?_
                refine g_iremN F dX5_findWay_126 (by omega) (by decide) (by decide) ?_
                refine g_istore (lv2 := [(5, .int (nI ((wn D2 v (ch l0 v)) % 256))), (4, .int (nI ((wn D2 v (ch l0 v)) / 256))), (8, .int (nI (wn D2 v (ch l0 v)))), (0, .ref s0), (1, .ref g0), (2, .int (nI r)), (3, .int (nI l0)), (6, .int (nI v)), (7, .int (nI (tk N x y)))]) F dX5_findWay_127 (by decide) rfl ?_
                refine g_iinc (k := 7) (v := nI (v + 1)) (lv2 := [(6, .int (nI (v + 1))), (5, .int (nI ((wn D2 v (ch l0 v)) % 256))), (4, .int (nI ((wn D2 v (ch l0 v)) / 256))), (8, .int (nI (wn D2 v (ch l0 v)))), (0, .ref s0), (1, .ref g0), (2, .int (nI r)), (3, .int (nI l0)), (7, .int (nI (tk N x y)))]) F dX5_findWay_129 rfl (nI_1 _) (by decide) rfl ?_
                refine g_goto (tgt := 27) F dX5_findWay_132 (by decide) ?_
                have hnb := hN ((tk N x y * 96 + x) * 4 + ch l0 v)
                have hnq : nu N (tk N x y) x (ch l0 v) < 65536 := hnb
                have hwv : wn D2 v (ch l0 v) = nu N (tk N x y) x (ch l0 v) := hE2 _ (by have := ch_lt (v := v) hl; omega)
                have hwd : tk N x y = wd N (rb r) (rs r) l0 v := by rw [hx, hy]; rfl
                refine g_lv [4, 5, 6, 7, 2, 1, 0] rfl ?_
                exact ih27 (v + 1) ((wn D2 v (ch l0 v)) / 256) ((wn D2 v (ch l0 v)) % 256) (up A v x) (up Bb v y) (up Cc v (tk N x y)) D2 (by omega) (by omega) (by rw [hwv, hx, hy]; rfl) (by rw [hwv, hx, hy]; rfl) (by omega) (by omega) (by intro u hu; by_cases h : u = v; (subst h; exact ⟨(up_s A u x).trans hx, (up_s Bb u y).trans hy, (up_s Cc u _).trans hwd⟩); (have := hA u (by omega); rw [up_n A x h, up_n Bb y h, up_n Cc _ h]; exact this)) (by intro u hu; by_cases h : u = v; (subst h; rw [← hwd]; exact tk_lt c59); exact hg u (by omega)) (by intro u k hu hk; by_cases h : u = v; (subst h; rw [hE2 k (by omega), hwd, hx]); (rw [hE1 _ (by omega)]; exact hD u k (by omega) hk))
              · skip
                refine g_aload_n F 1 dX5_findWay_72 rfl rfl ?_
                refine g_iload F 6 dX5_findWay_73 rfl ?_
                refine g_iload F 8 dX5_findWay_75 rfl ?_
                refine g_aload_n F 0 dX5_findWay_77 rfl rfl ?_
                refine g_get F 0 0 dX5_findWay_78 rfl rfl (by decide) (by decide +kernel) (by decide +kernel) rfl ?_
                refine g_iload F 7 dX5_findWay_81 rfl ?_
                refine g_iload F 4 dX5_findWay_83 rfl ?_
                refine g_iload F 8 dX5_findWay_85 rfl ?_
                refine g_callViR (n := 3) F [1, 2] (c_X1_numberAt l E s1 s4 N (tk N x y) x j (by exact tk_lt c59) (by exact tk_in c59) (by omega)) dX5_findWay_87 rfl (by decide) rfl rfl rfl (Nat.le_of_ble_eq_true rfl) ⟨Nat.le_of_ble_eq_true rfl, Nat.le_of_ble_eq_true rfl⟩ rfl rfl ⟨Nat.le_of_ble_eq_true rfl, Nat.le_of_ble_eq_true rfl⟩ 1 rfl rfl gX5_findWay_X1_numberAt (by decide +kernel) (fun r u hp => by obtain ⟨-, h⟩ := hp; exact h) ?_
                rintro r_87 u_87 ⟨rfl, -⟩
                refine g_callVvW (n := 3) F [6, 10] (c_X7_put l E g0 g1 g2 g3 g4 (v + 1) D2 v j (nu N (tk N x y) x j) (by omega) (by omega)) dX5_findWay_90 rfl (by decide) rfl rfl rfl (Nat.le_of_ble_eq_true rfl) ⟨Nat.le_of_ble_eq_true rfl, Nat.le_of_ble_eq_true rfl⟩ rfl rfl ⟨Nat.le_of_ble_eq_true rfl, Nat.le_of_ble_eq_true rfl⟩ 6 rfl rfl gX5_findWay_X7_put (by decide +kernel) (fun u hp => by obtain rfl := hp; rfl) ?_
                rintro u_90 rfl
                refine g_ws (w2 := [ob 5 s0 [.ref s1, .ref s2, .ref s3, .int (nI mi), .int (nI wr)], ob 1 s1 [.ref s4], ai E s4 768 N, ob 3 s3 [.ref s6, .ref s7, .ref s8, .int (nI z)], ai E s7 8 rb, ai E s8 8 rs, ob 7 g0 [.ref g1, .ref g2, .ref g3, .ref g4, .int (nI (v + 1))], ai E g1 3 (up A v x), ai E g2 3 (up Bb v y), ai E g3 3 (up Cc v (tk N x y)), ai E g4 12 (up D2 (v * 4 + j) (nu N (tk N x y) x j))]) rfl ?_
                refine g_iinc (k := 8) (v := nI (j + 1)) (lv2 := [(8, .int (nI (j + 1))), (0, .ref s0), (1, .ref g0), (2, .int (nI r)), (3, .int (nI l0)), (4, .int (nI x)), (5, .int (nI y)), (6, .int (nI v)), (7, .int (nI (tk N x y)))]) F dX5_findWay_93 rfl (nI_1 _) (by decide) rfl ?_
                refine g_goto (tgt := 66) F dX5_findWay_96 (by decide) ?_
                refine g_lv [1, 2, 3, 4, 5, 6, 7, 8, 0] rfl ?_
                exact ih66 (j + 1) (up D2 (v * 4 + j) (nu N (tk N x y) x j)) (by omega) (by omega) (by intro u hu; rw [up_n D2 _ (by omega)]; exact hE1 u hu) (by intro k hk2; by_cases h : k = j; (rw [h]; exact up_s D2 _ _); (rw [up_n D2 _ (by omega)]; exact hE2 k (by omega)))
          refine g_lv [2, 3, 4, 5, 6, 7, 8, 1, 0] rfl ?_
          exact loop66 ((4 - 0) + 1) 0 Dd (Nat.lt_succ_self _) (by omega) (by intro u hu; rfl) (by intro k hk; omega)
        · skip
          exact hret _ _ _ dX5_findWay_62 ⟨(v + 1), (up A v x), (up Bb v y), (up Cc v (tk N x y)), Dd, (by 
                refine ⟨⟨by omega, by omega⟩, fun u hu => ?_, fun u hu => hg u (by omega), fun _ => by rw [Nat.add_sub_cancel, ← c59, hx, hy]; rfl, fun u k hu hw hk => ?_⟩
                · by_cases h : u = v
                  · subst h; exact ⟨(up_s A u x).trans hx, (up_s Bb u y).trans hy, (up_s Cc u _).trans (by rw [hx, hy]; rfl)⟩
                  · have := hA u (by omega)
                    rw [up_n A x h, up_n Bb y h, up_n Cc _ h]; exact this
                · by_cases h : u = v
                  · subst h
                    have h2 : wd N (rb r) (rs r) l0 u = 2 := by rw [← c59, hx, hy]; rfl
                    omega
                  · exact hD u k (by omega) hk), (by rfl)⟩
  refine g_lv [3, 4, 5, 6, 2, 1, 0] rfl ?_
  exact loop27 ((3 - 0) + 1) 0 (rb r) (rs r) eb es ec et (Nat.lt_succ_self _) (by omega) (by rfl) (by rfl) (by exact hrb) (by exact hrs) (by intro u hu; omega) (by intro u hu; omega) (by intro u k hu; omega)
set_option maxHeartbeats 4000000 in
set_option maxRecDepth 100000 in
theorem c_X5_useLowest (l : Launch) (E : En) (s0 : Nat) (s1 : Nat) (s2 : Nat) (s3 : Nat) (s5 : Nat) (mi : Nat) (wr : Nat) (U : Nat → Nat) (hU : BU U) (hlt : ff U 96 < 96) : CtI l yX5_useLowest wsX5_useLowest ({ frames := 2, cells := 0, slots := 0, locals := 42 } : Room) E [.ref s0] [ob 5 s0 [.ref s1, .ref s2, .ref s3, .int (nI mi), .int (nI wr)], ob 0 s2 [.ref s5], az E s5 96 U] (fun rr uu => rr = (nI (ff U 96)) ∧ uu = [ob 5 s0 [.ref s1, .ref s2, .ref s3, .int (nI mi), .int (nI wr)], ob 0 s2 [.ref s5], az E s5 96 (up U (ff U 96) 1)]) := by
  refine CtI.of cX5_useLowest 2 RX5 .int rfl (by decide) rfl (Or.inl rfl) (Nat.le_of_ble_eq_true rfl) (fun h => by cases h) ?_
  intro Γ F hret
  show G Γ E 0 0 0 [(0, .ref s0)] [] [ob 5 s0 [.ref s1, .ref s2, .ref s3, .int (nI mi), .int (nI wr)], ob 0 s2 [.ref s5], az E s5 96 U]
  refine g_aload_n F 0 dX5_useLowest_0 rfl rfl ?_
  refine g_get F 0 1 dX5_useLowest_1 rfl rfl (by decide) (by decide +kernel) (by decide +kernel) rfl ?_
  refine g_callViR (n := 0) F [1, 2] (c_X0_lowestOutside l E s2 s5 U (by assumption)) dX5_useLowest_4 rfl (by decide) rfl rfl rfl (Nat.le_of_ble_eq_true rfl) ⟨Nat.le_of_ble_eq_true rfl, Nat.le_of_ble_eq_true rfl⟩ rfl rfl ⟨Nat.le_of_ble_eq_true rfl, Nat.le_of_ble_eq_true rfl⟩ 1 rfl rfl gX5_useLowest_X0_lowestOutside (by decide +kernel) (fun r u hp => by obtain ⟨-, h⟩ := hp; exact h) ?_
  rintro r_4 u_4 ⟨rfl, -⟩
  refine g_top (lo U) (nI (ff U 96)) (by unfold lo; rw [if_pos hlt]) ?_
  refine g_istore_n (lv2 := [(1, .int (nI (ff U 96))), (0, .ref s0)]) F dX5_useLowest_7 rfl (by decide) rfl ?_
  refine g_aload_n F 1 dX5_useLowest_8 rfl rfl ?_
  refine g_get F 0 1 dX5_useLowest_9 rfl rfl (by decide) (by decide +kernel) (by decide +kernel) rfl ?_
  refine g_iload_n F 0 dX5_useLowest_12 rfl rfl ?_
  refine g_callVvW (n := 1) F [1, 2] (c_X0_add l E s2 s5 U (ff U 96) (by omega)) dX5_useLowest_13 rfl (by decide) rfl rfl rfl (Nat.le_of_ble_eq_true rfl) ⟨Nat.le_of_ble_eq_true rfl, Nat.le_of_ble_eq_true rfl⟩ rfl rfl ⟨Nat.le_of_ble_eq_true rfl, Nat.le_of_ble_eq_true rfl⟩ 1 rfl rfl gX5_useLowest_X0_add (by decide +kernel) (fun u hp => by obtain rfl := hp; rfl) ?_
  rintro u_13 rfl
  refine g_ws (w2 := [ob 5 s0 [.ref s1, .ref s2, .ref s3, .int (nI mi), .int (nI wr)], ob 0 s2 [.ref s5], az E s5 96 (ad U (ff U 96))]) rfl ?_
  refine g_iload_n F 0 dX5_useLowest_16 rfl rfl ?_
  refine g_azC 2 rfl (up U (ff U 96) 1) (by intro j hj; unfold ad; rw [if_pos hlt]) (w2 := [ob 5 s0 [.ref s1, .ref s2, .ref s3, .int (nI mi), .int (nI wr)], ob 0 s2 [.ref s5], az E s5 96 (up U (ff U 96) 1)]) rfl ?_
  exact hret _ _ _ _ dX5_useLowest_17 ⟨rfl, rfl⟩
set_option maxHeartbeats 4000000 in
set_option maxRecDepth 100000 in
theorem c_X5_layFirstCopy (l : Launch) (E : En) (s0 : Nat) (s1 : Nat) (s2 : Nat) (s3 : Nat) (s4 : Nat) (mi : Nat) (wr : Nat) (N : Nat → Nat) (g0 : Nat) (g1 : Nat) (g2 : Nat) (g3 : Nat) (g4 : Nat) (td : Nat) (et : Nat → Nat) (a : Nat) (b : Nat) (hmi : mi < 4) (ha : a < 96) (hb : b < 96) : CtV l yX5_layFirstCopy wsX5_layFirstCopy ({ frames := 3, cells := 0, slots := 0, locals := 73 } : Room) E [.ref s0, .ref g0, .int (nI a), .int (nI b)] [ob 5 s0 [.ref s1, .ref s2, .ref s3, .int (nI mi), .int (nI wr)], ob 1 s1 [.ref s4], ai E s4 768 N, ob 7 g0 [.ref g1, .ref g2, .ref g3, .ref g4, .int (nI td)], ai E g4 12 et] (fun uu => uu = [ob 5 s0 [.ref s1, .ref s2, .ref s3, .int (nI mi), .int (nI wr)], ob 1 s1 [.ref s4], ai E s4 768 (lf mi N a b et), ob 7 g0 [.ref g1, .ref g2, .ref g3, .ref g4, .int (nI td)], ai E g4 12 et]) := by
  refine CtV.of cX5_layFirstCopy 4 RX5 rfl (by decide) rfl (Nat.le_of_ble_eq_true rfl) ?_
  intro Γ F hin0 hret
  show G Γ E 0 0 0 [(0, .ref s0), (1, .ref g0), (2, .int (nI a)), (3, .int (nI b))] [] [ob 5 s0 [.ref s1, .ref s2, .ref s3, .int (nI mi), .int (nI wr)], ob 1 s1 [.ref s4], ai E s4 768 N, ob 7 g0 [.ref g1, .ref g2, .ref g3, .ref g4, .int (nI td)], ai E g4 12 et]
  refine g_aload_n F 0 dX5_layFirstCopy_0 rfl rfl ?_
  refine g_get F 0 3 dX5_layFirstCopy_1 rfl rfl (by decide) (by decide +kernel) (by decide +kernel) rfl ?_
  rcases (show mi = 1 ∨ mi = 2 ∨ mi = 3 ∨ (mi < 1 ∨ 3 < mi) by omega) with c4 | c4 | c4 | c4
  · refine g_tabIn (off := 28) (tgt := 32) F dX5_layFirstCopy_4 (by rw [c4]; decide) (by rw [c4]; decide) (by rw [c4]; decide) (by decide) ?_
    refine g_aload_n F 0 dX5_layFirstCopy_32 rfl rfl ?_
    refine g_get F 0 0 dX5_layFirstCopy_33 rfl rfl (by decide) (by decide +kernel) (by decide +kernel) rfl ?_
    refine g_iconst (v := nI 0) F dX5_layFirstCopy_36 (by decide) ?_
    refine g_iload_n F 2 dX5_layFirstCopy_37 rfl rfl ?_
    refine g_aload_n F 1 dX5_layFirstCopy_38 rfl rfl ?_
    refine g_iconst (v := nI 2) F dX5_layFirstCopy_39 (by decide) ?_
    refine g_iconst (v := nI 2) F dX5_layFirstCopy_40 (by decide) ?_
    refine g_callVvW (n := 5) F [1, 2, 3, 4] (c_X1_lay l E s1 s4 N g0 g1 g2 g3 g4 td et 0 a 2 2 (by omega) (by omega) (by omega) (by omega)) dX5_layFirstCopy_41 rfl (by decide) rfl rfl rfl (Nat.le_of_ble_eq_true rfl) ⟨Nat.le_of_ble_eq_true rfl, Nat.le_of_ble_eq_true rfl⟩ rfl rfl ⟨Nat.le_of_ble_eq_true rfl, Nat.le_of_ble_eq_true rfl⟩ 1 rfl rfl gX5_layFirstCopy_X1_lay (by decide +kernel) (fun u hp => by obtain rfl := hp; rfl) ?_
    rintro u_41 rfl
    refine g_ws (w2 := [ob 5 s0 [.ref s1, .ref s2, .ref s3, .int (nI mi), .int (nI wr)], ob 1 s1 [.ref s4], ai E s4 768 (ly N 0 a et 2 2), ob 7 g0 [.ref g1, .ref g2, .ref g3, .ref g4, .int (nI td)], ai E g4 12 et]) rfl ?_
    refine g_aload_n F 0 dX5_layFirstCopy_44 rfl rfl ?_
    refine g_get F 0 0 dX5_layFirstCopy_45 rfl rfl (by decide) (by decide +kernel) (by decide +kernel) rfl ?_
    refine g_iconst (v := nI 0) F dX5_layFirstCopy_48 (by decide) ?_
    refine g_iload_n F 3 dX5_layFirstCopy_49 rfl rfl ?_
    refine g_aload_n F 1 dX5_layFirstCopy_50 rfl rfl ?_
    refine g_iconst (v := nI 1) F dX5_layFirstCopy_51 (by decide) ?_
    refine g_iconst (v := nI 4) F dX5_layFirstCopy_52 (by decide) ?_
    refine g_callVvW (n := 5) F [1, 2, 3, 4] (c_X1_lay l E s1 s4 (ly N 0 a et 2 2) g0 g1 g2 g3 g4 td et 0 b 1 4 (by omega) (by omega) (by omega) (by omega)) dX5_layFirstCopy_53 rfl (by decide) rfl rfl rfl (Nat.le_of_ble_eq_true rfl) ⟨Nat.le_of_ble_eq_true rfl, Nat.le_of_ble_eq_true rfl⟩ rfl rfl ⟨Nat.le_of_ble_eq_true rfl, Nat.le_of_ble_eq_true rfl⟩ 1 rfl rfl gX5_layFirstCopy_X1_lay (by decide +kernel) (fun u hp => by obtain rfl := hp; rfl) ?_
    rintro u_53 rfl
    refine g_ws (w2 := [ob 5 s0 [.ref s1, .ref s2, .ref s3, .int (nI mi), .int (nI wr)], ob 1 s1 [.ref s4], ai E s4 768 (ly (ly N 0 a et 2 2) 0 b et 1 4), ob 7 g0 [.ref g1, .ref g2, .ref g3, .ref g4, .int (nI td)], ai E g4 12 et]) rfl ?_
    refine g_goto (tgt := 125) F dX5_layFirstCopy_56 (by decide) ?_
    refine g_aiC 2 rfl (lf mi N a b et) (by intro j hj; unfold lf; (repeat' split) <;> first | rfl | omega) (w2 := [ob 5 s0 [.ref s1, .ref s2, .ref s3, .int (nI mi), .int (nI wr)], ob 1 s1 [.ref s4], ai E s4 768 (lf mi N a b et), ob 7 g0 [.ref g1, .ref g2, .ref g3, .ref g4, .int (nI td)], ai E g4 12 et]) rfl ?_
    exact hret _ _ _ dX5_layFirstCopy_125 rfl
  · refine g_tabIn (off := 55) (tgt := 59) F dX5_layFirstCopy_4 (by rw [c4]; decide) (by rw [c4]; decide) (by rw [c4]; decide) (by decide) ?_
    refine g_aload_n F 0 dX5_layFirstCopy_59 rfl rfl ?_
    refine g_get F 0 0 dX5_layFirstCopy_60 rfl rfl (by decide) (by decide +kernel) (by decide +kernel) rfl ?_
    refine g_iconst (v := nI 0) F dX5_layFirstCopy_63 (by decide) ?_
    refine g_iload_n F 2 dX5_layFirstCopy_64 rfl rfl ?_
    refine g_aload_n F 1 dX5_layFirstCopy_65 rfl rfl ?_
    refine g_iconst (v := nI 2) F dX5_layFirstCopy_66 (by decide) ?_
    refine g_iconst (v := nI 4) F dX5_layFirstCopy_67 (by decide) ?_
    refine g_callVvW (n := 5) F [1, 2, 3, 4] (c_X1_lay l E s1 s4 N g0 g1 g2 g3 g4 td et 0 a 2 4 (by omega) (by omega) (by omega) (by omega)) dX5_layFirstCopy_68 rfl (by decide) rfl rfl rfl (Nat.le_of_ble_eq_true rfl) ⟨Nat.le_of_ble_eq_true rfl, Nat.le_of_ble_eq_true rfl⟩ rfl rfl ⟨Nat.le_of_ble_eq_true rfl, Nat.le_of_ble_eq_true rfl⟩ 1 rfl rfl gX5_layFirstCopy_X1_lay (by decide +kernel) (fun u hp => by obtain rfl := hp; rfl) ?_
    rintro u_68 rfl
    refine g_ws (w2 := [ob 5 s0 [.ref s1, .ref s2, .ref s3, .int (nI mi), .int (nI wr)], ob 1 s1 [.ref s4], ai E s4 768 (ly N 0 a et 2 4), ob 7 g0 [.ref g1, .ref g2, .ref g3, .ref g4, .int (nI td)], ai E g4 12 et]) rfl ?_
    refine g_goto (tgt := 125) F dX5_layFirstCopy_71 (by decide) ?_
    refine g_aiC 2 rfl (lf mi N a b et) (by intro j hj; unfold lf; (repeat' split) <;> first | rfl | omega) (w2 := [ob 5 s0 [.ref s1, .ref s2, .ref s3, .int (nI mi), .int (nI wr)], ob 1 s1 [.ref s4], ai E s4 768 (lf mi N a b et), ob 7 g0 [.ref g1, .ref g2, .ref g3, .ref g4, .int (nI td)], ai E g4 12 et]) rfl ?_
    exact hret _ _ _ dX5_layFirstCopy_125 rfl
  · refine g_tabIn (off := 70) (tgt := 74) F dX5_layFirstCopy_4 (by rw [c4]; decide) (by rw [c4]; decide) (by rw [c4]; decide) (by decide) ?_
    refine g_aload_n F 0 dX5_layFirstCopy_74 rfl rfl ?_
    refine g_get F 0 0 dX5_layFirstCopy_75 rfl rfl (by decide) (by decide +kernel) (by decide +kernel) rfl ?_
    refine g_iconst (v := nI 0) F dX5_layFirstCopy_78 (by decide) ?_
    refine g_iload_n F 2 dX5_layFirstCopy_79 rfl rfl ?_
    refine g_aload_n F 1 dX5_layFirstCopy_80 rfl rfl ?_
    refine g_iconst (v := nI 1) F dX5_layFirstCopy_81 (by decide) ?_
    refine g_iconst (v := nI 4) F dX5_layFirstCopy_82 (by decide) ?_
    refine g_callVvW (n := 5) F [1, 2, 3, 4] (c_X1_lay l E s1 s4 N g0 g1 g2 g3 g4 td et 0 a 1 4 (by omega) (by omega) (by omega) (by omega)) dX5_layFirstCopy_83 rfl (by decide) rfl rfl rfl (Nat.le_of_ble_eq_true rfl) ⟨Nat.le_of_ble_eq_true rfl, Nat.le_of_ble_eq_true rfl⟩ rfl rfl ⟨Nat.le_of_ble_eq_true rfl, Nat.le_of_ble_eq_true rfl⟩ 1 rfl rfl gX5_layFirstCopy_X1_lay (by decide +kernel) (fun u hp => by obtain rfl := hp; rfl) ?_
    rintro u_83 rfl
    refine g_ws (w2 := [ob 5 s0 [.ref s1, .ref s2, .ref s3, .int (nI mi), .int (nI wr)], ob 1 s1 [.ref s4], ai E s4 768 (ly N 0 a et 1 4), ob 7 g0 [.ref g1, .ref g2, .ref g3, .ref g4, .int (nI td)], ai E g4 12 et]) rfl ?_
    refine g_aload_n F 0 dX5_layFirstCopy_86 rfl rfl ?_
    refine g_get F 0 0 dX5_layFirstCopy_87 rfl rfl (by decide) (by decide +kernel) (by decide +kernel) rfl ?_
    refine g_iconst (v := nI 0) F dX5_layFirstCopy_90 (by decide) ?_
    refine g_iload_n F 3 dX5_layFirstCopy_91 rfl rfl ?_
    refine g_aload_n F 1 dX5_layFirstCopy_92 rfl rfl ?_
    refine g_iconst (v := nI 2) F dX5_layFirstCopy_93 (by decide) ?_
    refine g_iconst (v := nI 4) F dX5_layFirstCopy_94 (by decide) ?_
    refine g_callVvW (n := 5) F [1, 2, 3, 4] (c_X1_lay l E s1 s4 (ly N 0 a et 1 4) g0 g1 g2 g3 g4 td et 0 b 2 4 (by omega) (by omega) (by omega) (by omega)) dX5_layFirstCopy_95 rfl (by decide) rfl rfl rfl (Nat.le_of_ble_eq_true rfl) ⟨Nat.le_of_ble_eq_true rfl, Nat.le_of_ble_eq_true rfl⟩ rfl rfl ⟨Nat.le_of_ble_eq_true rfl, Nat.le_of_ble_eq_true rfl⟩ 1 rfl rfl gX5_layFirstCopy_X1_lay (by decide +kernel) (fun u hp => by obtain rfl := hp; rfl) ?_
    rintro u_95 rfl
    refine g_ws (w2 := [ob 5 s0 [.ref s1, .ref s2, .ref s3, .int (nI mi), .int (nI wr)], ob 1 s1 [.ref s4], ai E s4 768 (ly (ly N 0 a et 1 4) 0 b et 2 4), ob 7 g0 [.ref g1, .ref g2, .ref g3, .ref g4, .int (nI td)], ai E g4 12 et]) rfl ?_
    refine g_goto (tgt := 125) F dX5_layFirstCopy_98 (by decide) ?_
    refine g_aiC 2 rfl (lf mi N a b et) (by intro j hj; unfold lf; (repeat' split) <;> first | rfl | omega) (w2 := [ob 5 s0 [.ref s1, .ref s2, .ref s3, .int (nI mi), .int (nI wr)], ob 1 s1 [.ref s4], ai E s4 768 (lf mi N a b et), ob 7 g0 [.ref g1, .ref g2, .ref g3, .ref g4, .int (nI td)], ai E g4 12 et]) rfl ?_
    exact hret _ _ _ dX5_layFirstCopy_125 rfl
  · skip
    refine g_tabOut (tgt := 101) F dX5_layFirstCopy_4 (by rw [nI_toInt (by omega)]; omega) (by decide) ?_
    refine g_aload_n F 0 dX5_layFirstCopy_101 rfl rfl ?_
    refine g_get F 0 0 dX5_layFirstCopy_102 rfl rfl (by decide) (by decide +kernel) (by decide +kernel) rfl ?_
    refine g_iconst (v := nI 0) F dX5_layFirstCopy_105 (by decide) ?_
    refine g_iload_n F 2 dX5_layFirstCopy_106 rfl rfl ?_
    refine g_aload_n F 1 dX5_layFirstCopy_107 rfl rfl ?_
    refine g_iconst (v := nI 2) F dX5_layFirstCopy_108 (by decide) ?_
    refine g_iconst (v := nI 4) F dX5_layFirstCopy_109 (by decide) ?_
    refine g_callVvW (n := 5) F [1, 2, 3, 4] (c_X1_lay l E s1 s4 N g0 g1 g2 g3 g4 td et 0 a 2 4 (by omega) (by omega) (by omega) (by omega)) dX5_layFirstCopy_110 rfl (by decide) rfl rfl rfl (Nat.le_of_ble_eq_true rfl) ⟨Nat.le_of_ble_eq_true rfl, Nat.le_of_ble_eq_true rfl⟩ rfl rfl ⟨Nat.le_of_ble_eq_true rfl, Nat.le_of_ble_eq_true rfl⟩ 1 rfl rfl gX5_layFirstCopy_X1_lay (by decide +kernel) (fun u hp => by obtain rfl := hp; rfl) ?_
    rintro u_110 rfl
    refine g_ws (w2 := [ob 5 s0 [.ref s1, .ref s2, .ref s3, .int (nI mi), .int (nI wr)], ob 1 s1 [.ref s4], ai E s4 768 (ly N 0 a et 2 4), ob 7 g0 [.ref g1, .ref g2, .ref g3, .ref g4, .int (nI td)], ai E g4 12 et]) rfl ?_
    refine g_aload_n F 0 dX5_layFirstCopy_113 rfl rfl ?_
    refine g_get F 0 0 dX5_layFirstCopy_114 rfl rfl (by decide) (by decide +kernel) (by decide +kernel) rfl ?_
    refine g_iconst (v := nI 0) F dX5_layFirstCopy_117 (by decide) ?_
    refine g_iload_n F 3 dX5_layFirstCopy_118 rfl rfl ?_
    refine g_aload_n F 1 dX5_layFirstCopy_119 rfl rfl ?_
    refine g_iconst (v := nI 1) F dX5_layFirstCopy_120 (by decide) ?_
    refine g_iconst (v := nI 4) F dX5_layFirstCopy_121 (by decide) ?_
    refine g_callVvW (n := 5) F [1, 2, 3, 4] (c_X1_lay l E s1 s4 (ly N 0 a et 2 4) g0 g1 g2 g3 g4 td et 0 b 1 4 (by omega) (by omega) (by omega) (by omega)) dX5_layFirstCopy_122 rfl (by decide) rfl rfl rfl (Nat.le_of_ble_eq_true rfl) ⟨Nat.le_of_ble_eq_true rfl, Nat.le_of_ble_eq_true rfl⟩ rfl rfl ⟨Nat.le_of_ble_eq_true rfl, Nat.le_of_ble_eq_true rfl⟩ 1 rfl rfl gX5_layFirstCopy_X1_lay (by decide +kernel) (fun u hp => by obtain rfl := hp; rfl) ?_
    rintro u_122 rfl
    refine g_ws (w2 := [ob 5 s0 [.ref s1, .ref s2, .ref s3, .int (nI mi), .int (nI wr)], ob 1 s1 [.ref s4], ai E s4 768 (ly (ly N 0 a et 2 4) 0 b et 1 4), ob 7 g0 [.ref g1, .ref g2, .ref g3, .ref g4, .int (nI td)], ai E g4 12 et]) rfl ?_
    refine g_aiC 2 rfl (lf mi N a b et) (by intro j hj; unfold lf; (repeat' split) <;> first | rfl | omega) (w2 := [ob 5 s0 [.ref s1, .ref s2, .ref s3, .int (nI mi), .int (nI wr)], ob 1 s1 [.ref s4], ai E s4 768 (lf mi N a b et), ob 7 g0 [.ref g1, .ref g2, .ref g3, .ref g4, .int (nI td)], ai E g4 12 et]) rfl ?_
    exact hret _ _ _ dX5_layFirstCopy_125 rfl
set_option maxHeartbeats 4000000 in
set_option maxRecDepth 100000 in
theorem c_X5_prepareWrite (l : Launch) (E : En) (s0 : Nat) (s1 : Nat) (s2 : Nat) (s3 : Nat) (s4 : Nat) (s5 : Nat) (s6 : Nat) (s7 : Nat) (s8 : Nat) (mi : Nat) (wr : Nat) (z : Nat) (N : Nat → Nat) (U : Nat → Nat) (rb : Nat → Nat) (rs : Nat → Nat) (g0 : Nat) (g1 : Nat) (g2 : Nat) (g3 : Nat) (g4 : Nat) (td : Nat) (eb : Nat → Nat) (es : Nat → Nat) (ec : Nat → Nat) (et : Nat → Nat) (l0 : Nat) (hl : l0 < 16) (hN : BN N) (hU : BU U) (hrb : rb 0 < 65536) (hrs : rs 0 < 65536) (hz : z ≤ 8) : CtI l yX5_prepareWrite wsX5_prepareWrite ({ frames := 4, cells := 0, slots := 0, locals := 94 } : Room) E [.ref s0, .ref g0, .int (nI l0)] [ob 5 s0 [.ref s1, .ref s2, .ref s3, .int (nI mi), .int (nI wr)], ob 1 s1 [.ref s4], ai E s4 768 N, ob 0 s2 [.ref s5], az E s5 96 U, ob 3 s3 [.ref s6, .ref s7, .ref s8, .int (nI z)], ai E s7 8 rb, ai E s8 8 rs, ob 7 g0 [.ref g1, .ref g2, .ref g3, .ref g4, .int (nI td)], ai E g1 3 eb, ai E g2 3 es, ai E g3 3 ec, ai E g4 12 et] (fun rr uu => ∃ (td2 : Nat), ∃ (Wb : Nat → Nat), ∃ (Ws : Nat → Nat), ∃ (Wc : Nat → Nat), ∃ (Wt : Nat → Nat), (z < 8 → 3 ≤ 96 - cn U 96 → WO N (rb 0) (rs 0) l0 td2 Wb Ws Wc Wt) ∧ rr = (pw z (cn U 96) (sp N (rb 0) (rs 0) l0)) ∧ uu = [ob 5 s0 [.ref s1, .ref s2, .ref s3, .int (nI mi), .int (nI wr)], ob 1 s1 [.ref s4], ai E s4 768 N, ob 0 s2 [.ref s5], az E s5 96 U, ob 3 s3 [.ref s6, .ref s7, .ref s8, .int (nI z)], ai E s7 8 rb, ai E s8 8 rs, ob 7 g0 [.ref g1, .ref g2, .ref g3, .ref g4, .int (nI td2)], ai E g1 3 Wb, ai E g2 3 Ws, ai E g3 3 Wc, ai E g4 12 Wt]) := by
  refine CtI.of cX5_prepareWrite 3 RX5 .int rfl (by decide) rfl (Or.inl rfl) (Nat.le_of_ble_eq_true rfl) (fun h => by cases h) ?_
  intro Γ F hret
  show G Γ E 0 0 0 [(0, .ref s0), (1, .ref g0), (2, .int (nI l0))] [] [ob 5 s0 [.ref s1, .ref s2, .ref s3, .int (nI mi), .int (nI wr)], ob 1 s1 [.ref s4], ai E s4 768 N, ob 0 s2 [.ref s5], az E s5 96 U, ob 3 s3 [.ref s6, .ref s7, .ref s8, .int (nI z)], ai E s7 8 rb, ai E s8 8 rs, ob 7 g0 [.ref g1, .ref g2, .ref g3, .ref g4, .int (nI td)], ai E g1 3 eb, ai E g2 3 es, ai E g3 3 ec, ai E g4 12 et]
  refine g_aload_n F 0 dX5_prepareWrite_0 rfl rfl ?_
  refine g_get F 0 2 dX5_prepareWrite_1 rfl rfl (by decide) (by decide +kernel) (by decide +kernel) rfl ?_
  refine g_callViR (n := 0) F [5] (c_X3_size l E s3 s6 s7 s8 z ) dX5_prepareWrite_4 rfl (by decide) rfl rfl rfl (Nat.le_of_ble_eq_true rfl) ⟨Nat.le_of_ble_eq_true rfl, Nat.le_of_ble_eq_true rfl⟩ rfl rfl ⟨Nat.le_of_ble_eq_true rfl, Nat.le_of_ble_eq_true rfl⟩ 5 rfl rfl gX5_prepareWrite_X3_size (by decide +kernel) (fun r u hp => by obtain ⟨-, h⟩ := hp; exact h) ?_
  rintro r_4 u_4 ⟨rfl, -⟩
  refine g_bipush (v := nI 8) F dX5_prepareWrite_7 (by decide) ?_
  refine g_icmp_geN (tgt := 26) F dX5_prepareWrite_9 (by decide) (by omega) (by omega) (fun c9 => ?_) (fun c9 => ?_)
  · skip
    refine g_ldc (v := (-1000003)) F dX5_prepareWrite_26 (by decide +kernel) ?_
    exact hret _ _ _ _ dX5_prepareWrite_28 ⟨td, eb, es, ec, et, (by intro h1 h2; omega), (by unfold pw; first | rw [if_pos (by omega)] | rw [if_neg (by omega), if_pos (by omega)]), (by rfl)⟩
  · skip
    refine g_bipush (v := nI 96) F dX5_prepareWrite_12 (by decide) ?_
    refine g_aload_n F 0 dX5_prepareWrite_14 rfl rfl ?_
    refine g_get F 0 1 dX5_prepareWrite_15 rfl rfl (by decide) (by decide +kernel) (by decide +kernel) rfl ?_
    refine g_callViR (n := 0) F [3, 4] (c_X0_size l E s2 s5 U (by assumption)) dX5_prepareWrite_18 rfl (by decide) rfl rfl rfl (Nat.le_of_ble_eq_true rfl) ⟨Nat.le_of_ble_eq_true rfl, Nat.le_of_ble_eq_true rfl⟩ rfl rfl ⟨Nat.le_of_ble_eq_true rfl, Nat.le_of_ble_eq_true rfl⟩ 3 rfl rfl gX5_prepareWrite_X0_size (by decide +kernel) (fun r u hp => by obtain ⟨-, h⟩ := hp; exact h) ?_
    rintro r_18 u_18 ⟨rfl, -⟩
    have hcn := cn_le U 96
    refine g_isubN F dX5_prepareWrite_21 (by omega) ?_
    refine g_iconst (v := nI 3) F dX5_prepareWrite_22 (by decide) ?_
    refine g_icmp_geN (tgt := 29) F dX5_prepareWrite_23 (by decide) (by omega) (by omega) (fun c23 => ?_) (fun c23 => ?_)
    · skip
      refine g_aload_n F 0 dX5_prepareWrite_29 rfl rfl ?_
      refine g_aload_n F 1 dX5_prepareWrite_30 rfl rfl ?_
      refine g_iconst (v := nI 0) F dX5_prepareWrite_31 (by decide) ?_
      refine g_iload_n F 2 dX5_prepareWrite_32 rfl rfl ?_
      refine g_callVvW (n := 3) F [0, 1, 2, 5, 6, 7, 8, 9, 10, 11, 12] (c_X5_findWay l E s0 s1 s2 s3 s4 s6 s7 s8 mi wr z N rb rs g0 g1 g2 g3 g4 td eb es ec et 0 l0 (by omega) (by omega) (by assumption) (by omega) (by omega)) dX5_prepareWrite_33 rfl (by decide) rfl rfl rfl (Nat.le_of_ble_eq_true rfl) ⟨Nat.le_of_ble_eq_true rfl, Nat.le_of_ble_eq_true rfl⟩ rfl rfl ⟨Nat.le_of_ble_eq_true rfl, Nat.le_of_ble_eq_true rfl⟩ 0 rfl rfl gX5_prepareWrite_X5_findWay (by decide +kernel) (fun u hp => by obtain ⟨_, _, _, _, _, -, rfl⟩ := hp; rfl) ?_
      rintro u_33 ⟨td2_33, Wb_33, Ws_33, Wc_33, Wt_33, hWO_33, rfl⟩
      refine g_ws (w2 := [ob 5 s0 [.ref s1, .ref s2, .ref s3, .int (nI mi), .int (nI wr)], ob 1 s1 [.ref s4], ai E s4 768 N, ob 0 s2 [.ref s5], az E s5 96 U, ob 3 s3 [.ref s6, .ref s7, .ref s8, .int (nI z)], ai E s7 8 rb, ai E s8 8 rs, ob 7 g0 [.ref g1, .ref g2, .ref g3, .ref g4, .int (nI td2_33)], ai E g1 3 Wb_33, ai E g2 3 Ws_33, ai E g3 3 Wc_33, ai E g4 12 Wt_33]) rfl ?_
      refine g_aload_n F 1 dX5_prepareWrite_36 rfl rfl ?_
      refine g_callViR (n := 0) F [8, 11] (c_X7_isSpoiled l E g0 g1 g2 g3 g4 td2_33 Wc_33 (by exact hWO_33.1.2) (by exact WO_cpa hWO_33 2)) dX5_prepareWrite_37 rfl (by decide) rfl rfl rfl (Nat.le_of_ble_eq_true rfl) ⟨Nat.le_of_ble_eq_true rfl, Nat.le_of_ble_eq_true rfl⟩ rfl rfl ⟨Nat.le_of_ble_eq_true rfl, Nat.le_of_ble_eq_true rfl⟩ 8 rfl rfl gX5_prepareWrite_X7_isSpoiled (by decide +kernel) (fun r u hp => by obtain ⟨-, h⟩ := hp; exact h) ?_
      rintro r_37 u_37 ⟨rfl, -⟩
      refine g_if_eqB (tgt := 48) F dX5_prepareWrite_40 (by decide) (fun c40 => ?_) (fun c40 => ?_)
      · skip
        refine g_iconst (v := nI 0) F dX5_prepareWrite_48 (by decide) ?_
        exact hret _ _ _ _ dX5_prepareWrite_49 ⟨td2_33, Wb_33, Ws_33, Wc_33, Wt_33, (by intro _ _; exact hWO_33), (by unfold pw; have h9 := hWO_33.td3; rw [if_neg (by omega), if_neg (by omega)]; first | rw [if_neg (h9.mp c40)] | rw [if_pos (Classical.not_not.mp (fun z9 => c40 (h9.mpr z9)))]), (by rfl)⟩
      · skip
        refine g_ldc (v := (-1000002)) F dX5_prepareWrite_43 (by decide +kernel) ?_
        refine g_goto (tgt := 49) F dX5_prepareWrite_45 (by decide) ?_
        exact hret _ _ _ _ dX5_prepareWrite_49 ⟨td2_33, Wb_33, Ws_33, Wc_33, Wt_33, (by intro _ _; exact hWO_33), (by unfold pw; have h9 := hWO_33.td3; rw [if_neg (by omega), if_neg (by omega)]; first | rw [if_neg (h9.mp c40)] | rw [if_pos (Classical.not_not.mp (fun z9 => c40 (h9.mpr z9)))]), (by rfl)⟩
    · skip
      refine g_ldc (v := (-1000003)) F dX5_prepareWrite_26 (by decide +kernel) ?_
      exact hret _ _ _ _ dX5_prepareWrite_28 ⟨td, eb, es, ec, et, (by intro h1 h2; omega), (by unfold pw; first | rw [if_pos (by omega)] | rw [if_neg (by omega), if_pos (by omega)]), (by rfl)⟩
set_option maxHeartbeats 4000000 in
set_option maxRecDepth 100000 in
theorem c_X5_carryOut (l : Launch) (E : En) (s0 : Nat) (s1 : Nat) (s2 : Nat) (s3 : Nat) (s4 : Nat) (s5 : Nat) (s6 : Nat) (s7 : Nat) (s8 : Nat) (mi : Nat) (wr : Nat) (z : Nat) (N : Nat → Nat) (U : Nat → Nat) (rn : Nat → Nat) (rb : Nat → Nat) (rs : Nat → Nat) (g0 : Nat) (g1 : Nat) (g2 : Nat) (g3 : Nat) (g4 : Nat) (td : Nat) (eb : Nat → Nat) (es : Nat → Nat) (ec : Nat → Nat) (et : Nat → Nat) (l0 : Nat) (p : Nat) (x : Nat) (a0 : Nat) (b0 : Nat) (d0 : Nat) (hU : BU U) (hcn : cn U 96 + 3 ≤ 96) (hz : z < 8) (hmi : mi < 4) (hl : l0 < 16) (hp : p < 4) (hx : x < 1000) (hwt : ∀ j : Nat, et j < 65536) (ha0 : a0 = ff U 96) (hb0 : b0 = ff (up U a0 1) 96) (hd0 : d0 = ff (up (up U a0 1) b0 1) 96) : CtI l yX5_carryOut wsX5_carryOut ({ frames := 4, cells := 0, slots := 0, locals := 96 } : Room) E [.ref s0, .ref g0, .int (nI l0), .int (nI p), .int (nI x)] [ob 5 s0 [.ref s1, .ref s2, .ref s3, .int (nI mi), .int (nI wr)], ob 1 s1 [.ref s4], ai E s4 768 N, ob 0 s2 [.ref s5], az E s5 96 U, ob 3 s3 [.ref s6, .ref s7, .ref s8, .int (nI z)], ai E s6 8 rn, ai E s7 8 rb, ai E s8 8 rs, ob 7 g0 [.ref g1, .ref g2, .ref g3, .ref g4, .int (nI td)], ai E g1 3 eb, ai E g2 3 es, ai E g3 3 ec, ai E g4 12 et] (fun rr uu => rr = (nI (wn et 2 p)) ∧ uu = [ob 5 s0 [.ref s1, .ref s2, .ref s3, .int (nI 0), .int (nI (wr + 1))], ob 1 s1 [.ref s4], ai E s4 768 (cN mi N a0 b0 d0 (cT3 et l0 p x a0 b0)), ob 0 s2 [.ref s5], az E s5 96 (up (up (up U a0 1) b0 1) d0 1), ob 3 s3 [.ref s6, .ref s7, .ref s8, .int (nI (z + 1))], ai E s6 8 (alt rn z (wr + 1)), ai E s7 8 (alt rb z d0), ai E s8 8 (alt rs z (sm (cT3 et l0 p x a0 b0) (0 * 4))), ob 7 g0 [.ref g1, .ref g2, .ref g3, .ref g4, .int (nI td)], ai E g1 3 eb, ai E g2 3 es, ai E g3 3 ec, ai E g4 12 (cT3 et l0 p x a0 b0)]) := by
  refine CtI.of cX5_carryOut 9 RX5 .int rfl (by decide) rfl (Or.inl rfl) (Nat.le_of_ble_eq_true rfl) (fun h => by cases h) ?_
  intro Γ F hret
  show G Γ E 0 0 0 [(0, .ref s0), (1, .ref g0), (2, .int (nI l0)), (3, .int (nI p)), (4, .int (nI x))] [] [ob 5 s0 [.ref s1, .ref s2, .ref s3, .int (nI mi), .int (nI wr)], ob 1 s1 [.ref s4], ai E s4 768 N, ob 0 s2 [.ref s5], az E s5 96 U, ob 3 s3 [.ref s6, .ref s7, .ref s8, .int (nI z)], ai E s6 8 rn, ai E s7 8 rb, ai E s8 8 rs, ob 7 g0 [.ref g1, .ref g2, .ref g3, .ref g4, .int (nI td)], ai E g1 3 eb, ai E g2 3 es, ai E g3 3 ec, ai E g4 12 et]
  have la : a0 < 96 := by rw [ha0]; exact ff_lt 96 (by omega)
  have ca : cn (up U a0 1) 96 = cn U 96 + 1 := cn_up (by rw [ha0]; exact ff_at 96 (by rw [← ha0]; exact la)) 96 la
  have lb : b0 < 96 := by rw [hb0]; exact ff_lt 96 (by omega)
  have cb : cn (up (up U a0 1) b0 1) 96 = cn U 96 + 2 := by
    rw [cn_up (by rw [hb0]; exact ff_at 96 (by rw [← hb0]; exact lb)) 96 lb, ca]
  have lc : d0 < 96 := by rw [hd0]; exact ff_lt 96 (by omega)
  have hU1 : BU (up U a0 1) := up_BU hU (Nat.le_refl 1)
  have hU2 : BU (up (up U a0 1) b0 1) := up_BU hU1 (Nat.le_refl 1)
  have k1 := ch_lt (v := 1) hl
  have k0 := ch_lt (v := 0) hl
  have q1 : ∀ j : Nat, cT1 et p x j < 65536 := fun j => by
    show up et _ x j < 65536
    unfold up; split
    · omega
    · exact hwt j
  have q2 : ∀ j : Nat, cT2 et l0 p x a0 j < 65536 := fun j => by
    show up (cT1 et p x) _ _ j < 65536
    have := sm_lt (cT1 et p x) (2 * 4)
    unfold up; split
    · omega
    · exact q1 j
  have q3 : ∀ j : Nat, cT3 et l0 p x a0 b0 j < 65536 := fun j => by
    show up (cT2 et l0 p x a0) _ _ j < 65536
    have := sm_lt (cT2 et l0 p x a0) (1 * 4)
    unfold up; split
    · omega
    · exact q2 j
  refine g_aload_n F 1 dX5_carryOut_0 rfl rfl ?_
  refine g_iconst (v := nI 2) F dX5_carryOut_1 (by decide) ?_
  refine g_iload_n F 3 dX5_carryOut_2 rfl rfl ?_
  refine g_callViR (n := 2) F [9, 13] (c_X7_numberAt l E g0 g1 g2 g3 g4 td et 2 p (by omega) (by omega)) dX5_carryOut_3 rfl (by decide) rfl rfl rfl (Nat.le_of_ble_eq_true rfl) ⟨Nat.le_of_ble_eq_true rfl, Nat.le_of_ble_eq_true rfl⟩ rfl rfl ⟨Nat.le_of_ble_eq_true rfl, Nat.le_of_ble_eq_true rfl⟩ 9 rfl rfl gX5_carryOut_X7_numberAt (by decide +kernel) (fun r u hp => by obtain ⟨-, h⟩ := hp; exact h) ?_
  rintro r_3 u_3 ⟨rfl, -⟩
  refine g_istore (lv2 := [(5, .int (nI (wn et 2 p))), (0, .ref s0), (1, .ref g0), (2, .int (nI l0)), (3, .int (nI p)), (4, .int (nI x))]) F dX5_carryOut_6 (by decide) rfl ?_
  refine g_aload_n F 1 dX5_carryOut_8 rfl rfl ?_
  refine g_callViW (n := 0) F [0, 3, 4] (c_X5_useLowest l E s0 s1 s2 s3 s5 mi wr U (by assumption) (by rw [← ha0]; exact la)) dX5_carryOut_9 rfl (by decide) rfl rfl rfl (Nat.le_of_ble_eq_true rfl) ⟨Nat.le_of_ble_eq_true rfl, Nat.le_of_ble_eq_true rfl⟩ rfl rfl ⟨Nat.le_of_ble_eq_true rfl, Nat.le_of_ble_eq_true rfl⟩ 0 rfl rfl gX5_carryOut_X5_useLowest (by decide +kernel) (fun r u hp => by obtain ⟨-, rfl⟩ := hp; rfl) ?_
  rintro r_9 u_9 ⟨rfl, rfl⟩
  refine g_ws (w2 := [ob 5 s0 [.ref s1, .ref s2, .ref s3, .int (nI mi), .int (nI wr)], ob 1 s1 [.ref s4], ai E s4 768 N, ob 0 s2 [.ref s5], az E s5 96 (up U (ff U 96) 1), ob 3 s3 [.ref s6, .ref s7, .ref s8, .int (nI z)], ai E s6 8 rn, ai E s7 8 rb, ai E s8 8 rs, ob 7 g0 [.ref g1, .ref g2, .ref g3, .ref g4, .int (nI td)], ai E g1 3 eb, ai E g2 3 es, ai E g3 3 ec, ai E g4 12 et]) rfl ?_
  refine g_top (nI (ff U 96)) (nI a0) (by exact congrArg nI ha0.symm) ?_
  refine g_azC 4 rfl (up U a0 1) (by intro j hj; rw [ha0]) (w2 := [ob 5 s0 [.ref s1, .ref s2, .ref s3, .int (nI mi), .int (nI wr)], ob 1 s1 [.ref s4], ai E s4 768 N, ob 0 s2 [.ref s5], az E s5 96 (up U a0 1), ob 3 s3 [.ref s6, .ref s7, .ref s8, .int (nI z)], ai E s6 8 rn, ai E s7 8 rb, ai E s8 8 rs, ob 7 g0 [.ref g1, .ref g2, .ref g3, .ref g4, .int (nI td)], ai E g1 3 eb, ai E g2 3 es, ai E g3 3 ec, ai E g4 12 et]) rfl ?_
  refine g_istore (lv2 := [(6, .int (nI a0)), (5, .int (nI (wn et 2 p))), (0, .ref s0), (1, .ref g0), (2, .int (nI l0)), (3, .int (nI p)), (4, .int (nI x))]) F dX5_carryOut_12 (by decide) rfl ?_
  refine g_aload_n F 2 dX5_carryOut_14 rfl rfl ?_
  refine g_callViW (n := 0) F [0, 3, 4] (c_X5_useLowest l E s0 s1 s2 s3 s5 mi wr (up U a0 1) (by exact hU1) (by rw [← hb0]; exact lb)) dX5_carryOut_15 rfl (by decide) rfl rfl rfl (Nat.le_of_ble_eq_true rfl) ⟨Nat.le_of_ble_eq_true rfl, Nat.le_of_ble_eq_true rfl⟩ rfl rfl ⟨Nat.le_of_ble_eq_true rfl, Nat.le_of_ble_eq_true rfl⟩ 0 rfl rfl gX5_carryOut_X5_useLowest (by decide +kernel) (fun r u hp => by obtain ⟨-, rfl⟩ := hp; rfl) ?_
  rintro r_15 u_15 ⟨rfl, rfl⟩
  refine g_ws (w2 := [ob 5 s0 [.ref s1, .ref s2, .ref s3, .int (nI mi), .int (nI wr)], ob 1 s1 [.ref s4], ai E s4 768 N, ob 0 s2 [.ref s5], az E s5 96 (up (up U a0 1) (ff (up U a0 1) 96) 1), ob 3 s3 [.ref s6, .ref s7, .ref s8, .int (nI z)], ai E s6 8 rn, ai E s7 8 rb, ai E s8 8 rs, ob 7 g0 [.ref g1, .ref g2, .ref g3, .ref g4, .int (nI td)], ai E g1 3 eb, ai E g2 3 es, ai E g3 3 ec, ai E g4 12 et]) rfl ?_
  refine g_top (nI (ff (up U a0 1) 96)) (nI b0) (by exact congrArg nI hb0.symm) ?_
  refine g_azC 4 rfl (up (up U a0 1) b0 1) (by intro j hj; rw [hb0]) (w2 := [ob 5 s0 [.ref s1, .ref s2, .ref s3, .int (nI mi), .int (nI wr)], ob 1 s1 [.ref s4], ai E s4 768 N, ob 0 s2 [.ref s5], az E s5 96 (up (up U a0 1) b0 1), ob 3 s3 [.ref s6, .ref s7, .ref s8, .int (nI z)], ai E s6 8 rn, ai E s7 8 rb, ai E s8 8 rs, ob 7 g0 [.ref g1, .ref g2, .ref g3, .ref g4, .int (nI td)], ai E g1 3 eb, ai E g2 3 es, ai E g3 3 ec, ai E g4 12 et]) rfl ?_
  refine g_istore (lv2 := [(7, .int (nI b0)), (6, .int (nI a0)), (5, .int (nI (wn et 2 p))), (0, .ref s0), (1, .ref g0), (2, .int (nI l0)), (3, .int (nI p)), (4, .int (nI x))]) F dX5_carryOut_18 (by decide) rfl ?_
  refine g_aload_n F 3 dX5_carryOut_20 rfl rfl ?_
  refine g_callViW (n := 0) F [0, 3, 4] (c_X5_useLowest l E s0 s1 s2 s3 s5 mi wr (up (up U a0 1) b0 1) (by exact hU2) (by rw [← hd0]; exact lc)) dX5_carryOut_21 rfl (by decide) rfl rfl rfl (Nat.le_of_ble_eq_true rfl) ⟨Nat.le_of_ble_eq_true rfl, Nat.le_of_ble_eq_true rfl⟩ rfl rfl ⟨Nat.le_of_ble_eq_true rfl, Nat.le_of_ble_eq_true rfl⟩ 0 rfl rfl gX5_carryOut_X5_useLowest (by decide +kernel) (fun r u hp => by obtain ⟨-, rfl⟩ := hp; rfl) ?_
  rintro r_21 u_21 ⟨rfl, rfl⟩
  refine g_ws (w2 := [ob 5 s0 [.ref s1, .ref s2, .ref s3, .int (nI mi), .int (nI wr)], ob 1 s1 [.ref s4], ai E s4 768 N, ob 0 s2 [.ref s5], az E s5 96 (up (up (up U a0 1) b0 1) (ff (up (up U a0 1) b0 1) 96) 1), ob 3 s3 [.ref s6, .ref s7, .ref s8, .int (nI z)], ai E s6 8 rn, ai E s7 8 rb, ai E s8 8 rs, ob 7 g0 [.ref g1, .ref g2, .ref g3, .ref g4, .int (nI td)], ai E g1 3 eb, ai E g2 3 es, ai E g3 3 ec, ai E g4 12 et]) rfl ?_
  refine g_top (nI (ff (up (up U a0 1) b0 1) 96)) (nI d0) (by exact congrArg nI hd0.symm) ?_
  refine g_azC 4 rfl (up (up (up U a0 1) b0 1) d0 1) (by intro j hj; rw [hd0]) (w2 := [ob 5 s0 [.ref s1, .ref s2, .ref s3, .int (nI mi), .int (nI wr)], ob 1 s1 [.ref s4], ai E s4 768 N, ob 0 s2 [.ref s5], az E s5 96 (up (up (up U a0 1) b0 1) d0 1), ob 3 s3 [.ref s6, .ref s7, .ref s8, .int (nI z)], ai E s6 8 rn, ai E s7 8 rb, ai E s8 8 rs, ob 7 g0 [.ref g1, .ref g2, .ref g3, .ref g4, .int (nI td)], ai E g1 3 eb, ai E g2 3 es, ai E g3 3 ec, ai E g4 12 et]) rfl ?_
  refine g_istore (lv2 := [(8, .int (nI d0)), (7, .int (nI b0)), (6, .int (nI a0)), (5, .int (nI (wn et 2 p))), (0, .ref s0), (1, .ref g0), (2, .int (nI l0)), (3, .int (nI p)), (4, .int (nI x))]) F dX5_carryOut_24 (by decide) rfl ?_
  refine g_aload_n F 5 dX5_carryOut_26 rfl rfl ?_
  refine g_iconst (v := nI 2) F dX5_carryOut_27 (by decide) ?_
  refine g_iload_n F 7 dX5_carryOut_28 rfl rfl ?_
  refine g_iload F 8 dX5_carryOut_29 rfl ?_
  refine g_callVvW (n := 3) F [9, 13] (c_X7_put l E g0 g1 g2 g3 g4 td et 2 p x (by omega) (by omega)) dX5_carryOut_31 rfl (by decide) rfl rfl rfl (Nat.le_of_ble_eq_true rfl) ⟨Nat.le_of_ble_eq_true rfl, Nat.le_of_ble_eq_true rfl⟩ rfl rfl ⟨Nat.le_of_ble_eq_true rfl, Nat.le_of_ble_eq_true rfl⟩ 9 rfl rfl gX5_carryOut_X7_put (by decide +kernel) (fun u hp => by obtain rfl := hp; rfl) ?_
  rintro u_31 rfl
  refine g_ws (w2 := [ob 5 s0 [.ref s1, .ref s2, .ref s3, .int (nI mi), .int (nI wr)], ob 1 s1 [.ref s4], ai E s4 768 N, ob 0 s2 [.ref s5], az E s5 96 (up (up (up U a0 1) b0 1) d0 1), ob 3 s3 [.ref s6, .ref s7, .ref s8, .int (nI z)], ai E s6 8 rn, ai E s7 8 rb, ai E s8 8 rs, ob 7 g0 [.ref g1, .ref g2, .ref g3, .ref g4, .int (nI td)], ai E g1 3 eb, ai E g2 3 es, ai E g3 3 ec, ai E g4 12 (up et (2 * 4 + p) x)]) rfl ?_
  refine g_aiC 13 rfl (cT1 et p x) (by intro j hj; rfl) (w2 := [ob 5 s0 [.ref s1, .ref s2, .ref s3, .int (nI mi), .int (nI wr)], ob 1 s1 [.ref s4], ai E s4 768 N, ob 0 s2 [.ref s5], az E s5 96 (up (up (up U a0 1) b0 1) d0 1), ob 3 s3 [.ref s6, .ref s7, .ref s8, .int (nI z)], ai E s6 8 rn, ai E s7 8 rb, ai E s8 8 rs, ob 7 g0 [.ref g1, .ref g2, .ref g3, .ref g4, .int (nI td)], ai E g1 3 eb, ai E g2 3 es, ai E g3 3 ec, ai E g4 12 (cT1 et p x)]) rfl ?_
  refine g_aload_n F 5 dX5_carryOut_34 rfl rfl ?_
  refine g_iconst (v := nI 1) F dX5_carryOut_35 (by decide) ?_
  refine g_iload_n F 6 dX5_carryOut_36 rfl rfl ?_
  refine g_iconst (v := nI 1) F dX5_carryOut_37 (by decide) ?_
  refine g_callSNiR (n := 2) F [] (c_X8_childTowards l E l0 1 (by omega) (by omega)) dX5_carryOut_38 rfl (by decide) rfl rfl rfl (Nat.le_of_ble_eq_true rfl) ⟨Nat.le_of_ble_eq_true rfl, Nat.le_of_ble_eq_true rfl⟩ rfl rfl ⟨Nat.le_of_ble_eq_true rfl, Nat.le_of_ble_eq_true rfl⟩ (host := "SummedParents") ggX5_carryOut_X8_childTowards (by decide +kernel) (by decide +kernel) (by decide +kernel) (by decide +kernel) (fun r u hp => by obtain ⟨-, h⟩ := hp; exact h) ?_
  rintro r_38 u_38 ⟨rfl, -⟩
  refine g_sipush (v := nI 256) F dX5_carryOut_41 (by decide) ?_
  refine g_iload F 2 dX5_carryOut_44 rfl ?_
  refine g_imulN F dX5_carryOut_46 ?_
  refine g_aload_n F 5 dX5_carryOut_47 rfl rfl ?_
  refine g_iconst (v := nI 2) F dX5_carryOut_48 (by decide) ?_
  refine g_callViR (n := 1) F [9, 13] (c_X7_takenSum l E g0 g1 g2 g3 g4 td (cT1 et p x) 2 (by omega) (by exact q1 _) (by exact q1 _) (by exact q1 _) (by exact q1 _)) dX5_carryOut_49 rfl (by decide) rfl rfl rfl (Nat.le_of_ble_eq_true rfl) ⟨Nat.le_of_ble_eq_true rfl, Nat.le_of_ble_eq_true rfl⟩ rfl rfl ⟨Nat.le_of_ble_eq_true rfl, Nat.le_of_ble_eq_true rfl⟩ 9 rfl rfl gX5_carryOut_X7_takenSum (by decide +kernel) (fun r u hp => by obtain ⟨-, h⟩ := hp; exact h) ?_
  rintro r_49 u_49 ⟨rfl, -⟩
  refine g_iaddN F dX5_carryOut_52 ?_
  refine g_callVvW (n := 3) F [9, 13] (c_X7_put l E g0 g1 g2 g3 g4 td (cT1 et p x) 1 (ch l0 1) ((256 * a0) + (sm (cT1 et p x) (2 * 4))) (by omega) (by exact k1)) dX5_carryOut_53 rfl (by decide) rfl rfl rfl (Nat.le_of_ble_eq_true rfl) ⟨Nat.le_of_ble_eq_true rfl, Nat.le_of_ble_eq_true rfl⟩ rfl rfl ⟨Nat.le_of_ble_eq_true rfl, Nat.le_of_ble_eq_true rfl⟩ 9 rfl rfl gX5_carryOut_X7_put (by decide +kernel) (fun u hp => by obtain rfl := hp; rfl) ?_
  rintro u_53 rfl
  refine g_ws (w2 := [ob 5 s0 [.ref s1, .ref s2, .ref s3, .int (nI mi), .int (nI wr)], ob 1 s1 [.ref s4], ai E s4 768 N, ob 0 s2 [.ref s5], az E s5 96 (up (up (up U a0 1) b0 1) d0 1), ob 3 s3 [.ref s6, .ref s7, .ref s8, .int (nI z)], ai E s6 8 rn, ai E s7 8 rb, ai E s8 8 rs, ob 7 g0 [.ref g1, .ref g2, .ref g3, .ref g4, .int (nI td)], ai E g1 3 eb, ai E g2 3 es, ai E g3 3 ec, ai E g4 12 (up (cT1 et p x) (1 * 4 + (ch l0 1)) ((256 * a0) + (sm (cT1 et p x) (2 * 4))))]) rfl ?_
  refine g_aiC 13 rfl (cT2 et l0 p x a0) (by intro j hj; rfl) (w2 := [ob 5 s0 [.ref s1, .ref s2, .ref s3, .int (nI mi), .int (nI wr)], ob 1 s1 [.ref s4], ai E s4 768 N, ob 0 s2 [.ref s5], az E s5 96 (up (up (up U a0 1) b0 1) d0 1), ob 3 s3 [.ref s6, .ref s7, .ref s8, .int (nI z)], ai E s6 8 rn, ai E s7 8 rb, ai E s8 8 rs, ob 7 g0 [.ref g1, .ref g2, .ref g3, .ref g4, .int (nI td)], ai E g1 3 eb, ai E g2 3 es, ai E g3 3 ec, ai E g4 12 (cT2 et l0 p x a0)]) rfl ?_
  refine g_aload_n F 5 dX5_carryOut_56 rfl rfl ?_
  refine g_iconst (v := nI 0) F dX5_carryOut_57 (by decide) ?_
  refine g_iload_n F 6 dX5_carryOut_58 rfl rfl ?_
  refine g_iconst (v := nI 0) F dX5_carryOut_59 (by decide) ?_
  refine g_callSNiR (n := 2) F [] (c_X8_childTowards l E l0 0 (by omega) (by omega)) dX5_carryOut_60 rfl (by decide) rfl rfl rfl (Nat.le_of_ble_eq_true rfl) ⟨Nat.le_of_ble_eq_true rfl, Nat.le_of_ble_eq_true rfl⟩ rfl rfl ⟨Nat.le_of_ble_eq_true rfl, Nat.le_of_ble_eq_true rfl⟩ (host := "SummedParents") ggX5_carryOut_X8_childTowards (by decide +kernel) (by decide +kernel) (by decide +kernel) (by decide +kernel) (fun r u hp => by obtain ⟨-, h⟩ := hp; exact h) ?_
  rintro r_60 u_60 ⟨rfl, -⟩
  refine g_sipush (v := nI 256) F dX5_carryOut_63 (by decide) ?_
  refine g_iload F 1 dX5_carryOut_66 rfl ?_
  refine g_imulN F dX5_carryOut_68 ?_
  refine g_aload_n F 5 dX5_carryOut_69 rfl rfl ?_
  refine g_iconst (v := nI 1) F dX5_carryOut_70 (by decide) ?_
  refine g_callViR (n := 1) F [9, 13] (c_X7_takenSum l E g0 g1 g2 g3 g4 td (cT2 et l0 p x a0) 1 (by omega) (by exact q2 _) (by exact q2 _) (by exact q2 _) (by exact q2 _)) dX5_carryOut_71 rfl (by decide) rfl rfl rfl (Nat.le_of_ble_eq_true rfl) ⟨Nat.le_of_ble_eq_true rfl, Nat.le_of_ble_eq_true rfl⟩ rfl rfl ⟨Nat.le_of_ble_eq_true rfl, Nat.le_of_ble_eq_true rfl⟩ 9 rfl rfl gX5_carryOut_X7_takenSum (by decide +kernel) (fun r u hp => by obtain ⟨-, h⟩ := hp; exact h) ?_
  rintro r_71 u_71 ⟨rfl, -⟩
  refine g_iaddN F dX5_carryOut_74 ?_
  refine g_callVvW (n := 3) F [9, 13] (c_X7_put l E g0 g1 g2 g3 g4 td (cT2 et l0 p x a0) 0 (ch l0 0) ((256 * b0) + (sm (cT2 et l0 p x a0) (1 * 4))) (by omega) (by exact k0)) dX5_carryOut_75 rfl (by decide) rfl rfl rfl (Nat.le_of_ble_eq_true rfl) ⟨Nat.le_of_ble_eq_true rfl, Nat.le_of_ble_eq_true rfl⟩ rfl rfl ⟨Nat.le_of_ble_eq_true rfl, Nat.le_of_ble_eq_true rfl⟩ 9 rfl rfl gX5_carryOut_X7_put (by decide +kernel) (fun u hp => by obtain rfl := hp; rfl) ?_
  rintro u_75 rfl
  refine g_ws (w2 := [ob 5 s0 [.ref s1, .ref s2, .ref s3, .int (nI mi), .int (nI wr)], ob 1 s1 [.ref s4], ai E s4 768 N, ob 0 s2 [.ref s5], az E s5 96 (up (up (up U a0 1) b0 1) d0 1), ob 3 s3 [.ref s6, .ref s7, .ref s8, .int (nI z)], ai E s6 8 rn, ai E s7 8 rb, ai E s8 8 rs, ob 7 g0 [.ref g1, .ref g2, .ref g3, .ref g4, .int (nI td)], ai E g1 3 eb, ai E g2 3 es, ai E g3 3 ec, ai E g4 12 (up (cT2 et l0 p x a0) (0 * 4 + (ch l0 0)) ((256 * b0) + (sm (cT2 et l0 p x a0) (1 * 4))))]) rfl ?_
  refine g_aiC 13 rfl (cT3 et l0 p x a0 b0) (by intro j hj; rfl) (w2 := [ob 5 s0 [.ref s1, .ref s2, .ref s3, .int (nI mi), .int (nI wr)], ob 1 s1 [.ref s4], ai E s4 768 N, ob 0 s2 [.ref s5], az E s5 96 (up (up (up U a0 1) b0 1) d0 1), ob 3 s3 [.ref s6, .ref s7, .ref s8, .int (nI z)], ai E s6 8 rn, ai E s7 8 rb, ai E s8 8 rs, ob 7 g0 [.ref g1, .ref g2, .ref g3, .ref g4, .int (nI td)], ai E g1 3 eb, ai E g2 3 es, ai E g3 3 ec, ai E g4 12 (cT3 et l0 p x a0 b0)]) rfl ?_
  refine g_aload_n F 4 dX5_carryOut_78 rfl rfl ?_
  refine g_aload_n F 5 dX5_carryOut_79 rfl rfl ?_
  refine g_iload F 2 dX5_carryOut_80 rfl ?_
  refine g_iload F 1 dX5_carryOut_82 rfl ?_
  refine g_callVvW (n := 3) F [0, 1, 2, 9, 13] (c_X5_layFirstCopy l E s0 s1 s2 s3 s4 mi wr N g0 g1 g2 g3 g4 td (cT3 et l0 p x a0 b0) a0 b0 (by omega) (by omega) (by omega)) dX5_carryOut_84 rfl (by decide) rfl rfl rfl (Nat.le_of_ble_eq_true rfl) ⟨Nat.le_of_ble_eq_true rfl, Nat.le_of_ble_eq_true rfl⟩ rfl rfl ⟨Nat.le_of_ble_eq_true rfl, Nat.le_of_ble_eq_true rfl⟩ 0 rfl rfl gX5_carryOut_X5_layFirstCopy (by decide +kernel) (fun u hp => by obtain rfl := hp; rfl) ?_
  rintro u_84 rfl
  refine g_ws (w2 := [ob 5 s0 [.ref s1, .ref s2, .ref s3, .int (nI mi), .int (nI wr)], ob 1 s1 [.ref s4], ai E s4 768 (lf mi N a0 b0 (cT3 et l0 p x a0 b0)), ob 0 s2 [.ref s5], az E s5 96 (up (up (up U a0 1) b0 1) d0 1), ob 3 s3 [.ref s6, .ref s7, .ref s8, .int (nI z)], ai E s6 8 rn, ai E s7 8 rb, ai E s8 8 rs, ob 7 g0 [.ref g1, .ref g2, .ref g3, .ref g4, .int (nI td)], ai E g1 3 eb, ai E g2 3 es, ai E g3 3 ec, ai E g4 12 (cT3 et l0 p x a0 b0)]) rfl ?_
  refine g_aload_n F 4 dX5_carryOut_87 rfl rfl ?_
  refine g_get F 0 0 dX5_carryOut_88 rfl rfl (by decide) (by decide +kernel) (by decide +kernel) rfl ?_
  refine g_iconst (v := nI 0) F dX5_carryOut_91 (by decide) ?_
  refine g_iload F 0 dX5_carryOut_92 rfl ?_
  refine g_aload_n F 5 dX5_carryOut_94 rfl rfl ?_
  refine g_iconst (v := nI 0) F dX5_carryOut_95 (by decide) ?_
  refine g_iconst (v := nI 4) F dX5_carryOut_96 (by decide) ?_
  refine g_callVvW (n := 5) F [1, 2, 9, 13] (c_X1_lay l E s1 s4 (lf mi N a0 b0 (cT3 et l0 p x a0 b0)) g0 g1 g2 g3 g4 td (cT3 et l0 p x a0 b0) 0 d0 0 4 (by omega) (by omega) (by omega) (by omega)) dX5_carryOut_97 rfl (by decide) rfl rfl rfl (Nat.le_of_ble_eq_true rfl) ⟨Nat.le_of_ble_eq_true rfl, Nat.le_of_ble_eq_true rfl⟩ rfl rfl ⟨Nat.le_of_ble_eq_true rfl, Nat.le_of_ble_eq_true rfl⟩ 1 rfl rfl gX5_carryOut_X1_lay (by decide +kernel) (fun u hp => by obtain rfl := hp; rfl) ?_
  rintro u_97 rfl
  refine g_ws (w2 := [ob 5 s0 [.ref s1, .ref s2, .ref s3, .int (nI mi), .int (nI wr)], ob 1 s1 [.ref s4], ai E s4 768 (ly (lf mi N a0 b0 (cT3 et l0 p x a0 b0)) 0 d0 (cT3 et l0 p x a0 b0) 0 4), ob 0 s2 [.ref s5], az E s5 96 (up (up (up U a0 1) b0 1) d0 1), ob 3 s3 [.ref s6, .ref s7, .ref s8, .int (nI z)], ai E s6 8 rn, ai E s7 8 rb, ai E s8 8 rs, ob 7 g0 [.ref g1, .ref g2, .ref g3, .ref g4, .int (nI td)], ai E g1 3 eb, ai E g2 3 es, ai E g3 3 ec, ai E g4 12 (cT3 et l0 p x a0 b0)]) rfl ?_
  refine g_aload_n F 4 dX5_carryOut_100 rfl rfl ?_
  refine g_get F 0 0 dX5_carryOut_101 rfl rfl (by decide) (by decide +kernel) (by decide +kernel) rfl ?_
  refine g_iconst (v := nI 1) F dX5_carryOut_104 (by decide) ?_
  refine g_iload F 2 dX5_carryOut_105 rfl ?_
  refine g_aload_n F 5 dX5_carryOut_107 rfl rfl ?_
  refine g_iconst (v := nI 2) F dX5_carryOut_108 (by decide) ?_
  refine g_iconst (v := nI 4) F dX5_carryOut_109 (by decide) ?_
  refine g_callVvW (n := 5) F [1, 2, 9, 13] (c_X1_lay l E s1 s4 (ly (lf mi N a0 b0 (cT3 et l0 p x a0 b0)) 0 d0 (cT3 et l0 p x a0 b0) 0 4) g0 g1 g2 g3 g4 td (cT3 et l0 p x a0 b0) 1 a0 2 4 (by omega) (by omega) (by omega) (by omega)) dX5_carryOut_110 rfl (by decide) rfl rfl rfl (Nat.le_of_ble_eq_true rfl) ⟨Nat.le_of_ble_eq_true rfl, Nat.le_of_ble_eq_true rfl⟩ rfl rfl ⟨Nat.le_of_ble_eq_true rfl, Nat.le_of_ble_eq_true rfl⟩ 1 rfl rfl gX5_carryOut_X1_lay (by decide +kernel) (fun u hp => by obtain rfl := hp; rfl) ?_
  rintro u_110 rfl
  refine g_ws (w2 := [ob 5 s0 [.ref s1, .ref s2, .ref s3, .int (nI mi), .int (nI wr)], ob 1 s1 [.ref s4], ai E s4 768 (ly (ly (lf mi N a0 b0 (cT3 et l0 p x a0 b0)) 0 d0 (cT3 et l0 p x a0 b0) 0 4) 1 a0 (cT3 et l0 p x a0 b0) 2 4), ob 0 s2 [.ref s5], az E s5 96 (up (up (up U a0 1) b0 1) d0 1), ob 3 s3 [.ref s6, .ref s7, .ref s8, .int (nI z)], ai E s6 8 rn, ai E s7 8 rb, ai E s8 8 rs, ob 7 g0 [.ref g1, .ref g2, .ref g3, .ref g4, .int (nI td)], ai E g1 3 eb, ai E g2 3 es, ai E g3 3 ec, ai E g4 12 (cT3 et l0 p x a0 b0)]) rfl ?_
  refine g_aload_n F 4 dX5_carryOut_113 rfl rfl ?_
  refine g_get F 0 0 dX5_carryOut_114 rfl rfl (by decide) (by decide +kernel) (by decide +kernel) rfl ?_
  refine g_iconst (v := nI 1) F dX5_carryOut_117 (by decide) ?_
  refine g_iload F 1 dX5_carryOut_118 rfl ?_
  refine g_aload_n F 5 dX5_carryOut_120 rfl rfl ?_
  refine g_iconst (v := nI 1) F dX5_carryOut_121 (by decide) ?_
  refine g_iconst (v := nI 4) F dX5_carryOut_122 (by decide) ?_
  refine g_callVvW (n := 5) F [1, 2, 9, 13] (c_X1_lay l E s1 s4 (ly (ly (lf mi N a0 b0 (cT3 et l0 p x a0 b0)) 0 d0 (cT3 et l0 p x a0 b0) 0 4) 1 a0 (cT3 et l0 p x a0 b0) 2 4) g0 g1 g2 g3 g4 td (cT3 et l0 p x a0 b0) 1 b0 1 4 (by omega) (by omega) (by omega) (by omega)) dX5_carryOut_123 rfl (by decide) rfl rfl rfl (Nat.le_of_ble_eq_true rfl) ⟨Nat.le_of_ble_eq_true rfl, Nat.le_of_ble_eq_true rfl⟩ rfl rfl ⟨Nat.le_of_ble_eq_true rfl, Nat.le_of_ble_eq_true rfl⟩ 1 rfl rfl gX5_carryOut_X1_lay (by decide +kernel) (fun u hp => by obtain rfl := hp; rfl) ?_
  rintro u_123 rfl
  refine g_ws (w2 := [ob 5 s0 [.ref s1, .ref s2, .ref s3, .int (nI mi), .int (nI wr)], ob 1 s1 [.ref s4], ai E s4 768 (ly (ly (ly (lf mi N a0 b0 (cT3 et l0 p x a0 b0)) 0 d0 (cT3 et l0 p x a0 b0) 0 4) 1 a0 (cT3 et l0 p x a0 b0) 2 4) 1 b0 (cT3 et l0 p x a0 b0) 1 4), ob 0 s2 [.ref s5], az E s5 96 (up (up (up U a0 1) b0 1) d0 1), ob 3 s3 [.ref s6, .ref s7, .ref s8, .int (nI z)], ai E s6 8 rn, ai E s7 8 rb, ai E s8 8 rs, ob 7 g0 [.ref g1, .ref g2, .ref g3, .ref g4, .int (nI td)], ai E g1 3 eb, ai E g2 3 es, ai E g3 3 ec, ai E g4 12 (cT3 et l0 p x a0 b0)]) rfl ?_
  refine g_aload_n F 4 dX5_carryOut_126 rfl rfl ?_
  refine g_get F 0 0 dX5_carryOut_127 rfl rfl (by decide) (by decide +kernel) (by decide +kernel) rfl ?_
  refine g_iconst (v := nI 1) F dX5_carryOut_130 (by decide) ?_
  refine g_iload F 0 dX5_carryOut_131 rfl ?_
  refine g_aload_n F 5 dX5_carryOut_133 rfl rfl ?_
  refine g_iconst (v := nI 0) F dX5_carryOut_134 (by decide) ?_
  refine g_iconst (v := nI 4) F dX5_carryOut_135 (by decide) ?_
  refine g_callVvW (n := 5) F [1, 2, 9, 13] (c_X1_lay l E s1 s4 (ly (ly (ly (lf mi N a0 b0 (cT3 et l0 p x a0 b0)) 0 d0 (cT3 et l0 p x a0 b0) 0 4) 1 a0 (cT3 et l0 p x a0 b0) 2 4) 1 b0 (cT3 et l0 p x a0 b0) 1 4) g0 g1 g2 g3 g4 td (cT3 et l0 p x a0 b0) 1 d0 0 4 (by omega) (by omega) (by omega) (by omega)) dX5_carryOut_136 rfl (by decide) rfl rfl rfl (Nat.le_of_ble_eq_true rfl) ⟨Nat.le_of_ble_eq_true rfl, Nat.le_of_ble_eq_true rfl⟩ rfl rfl ⟨Nat.le_of_ble_eq_true rfl, Nat.le_of_ble_eq_true rfl⟩ 1 rfl rfl gX5_carryOut_X1_lay (by decide +kernel) (fun u hp => by obtain rfl := hp; rfl) ?_
  rintro u_136 rfl
  refine g_ws (w2 := [ob 5 s0 [.ref s1, .ref s2, .ref s3, .int (nI mi), .int (nI wr)], ob 1 s1 [.ref s4], ai E s4 768 (ly (ly (ly (ly (lf mi N a0 b0 (cT3 et l0 p x a0 b0)) 0 d0 (cT3 et l0 p x a0 b0) 0 4) 1 a0 (cT3 et l0 p x a0 b0) 2 4) 1 b0 (cT3 et l0 p x a0 b0) 1 4) 1 d0 (cT3 et l0 p x a0 b0) 0 4), ob 0 s2 [.ref s5], az E s5 96 (up (up (up U a0 1) b0 1) d0 1), ob 3 s3 [.ref s6, .ref s7, .ref s8, .int (nI z)], ai E s6 8 rn, ai E s7 8 rb, ai E s8 8 rs, ob 7 g0 [.ref g1, .ref g2, .ref g3, .ref g4, .int (nI td)], ai E g1 3 eb, ai E g2 3 es, ai E g3 3 ec, ai E g4 12 (cT3 et l0 p x a0 b0)]) rfl ?_
  refine g_aload_n F 4 dX5_carryOut_139 rfl rfl ?_
  refine g_iconst (v := nI 0) F dX5_carryOut_140 (by decide) ?_
  refine g_put F 0 3 dX5_carryOut_141 rfl rfl (by decide) (by decide +kernel) (by decide +kernel) tyX5_ok nmX5 rfl (by decide +kernel) rfl rfl (Nat.le_of_ble_eq_true rfl) rfl (ty := .int) (w2 := [ob 5 s0 [.ref s1, .ref s2, .ref s3, .int (nI 0), .int (nI wr)], ob 1 s1 [.ref s4], ai E s4 768 (ly (ly (ly (ly (lf mi N a0 b0 (cT3 et l0 p x a0 b0)) 0 d0 (cT3 et l0 p x a0 b0) 0 4) 1 a0 (cT3 et l0 p x a0 b0) 2 4) 1 b0 (cT3 et l0 p x a0 b0) 1 4) 1 d0 (cT3 et l0 p x a0 b0) 0 4), ob 0 s2 [.ref s5], az E s5 96 (up (up (up U a0 1) b0 1) d0 1), ob 3 s3 [.ref s6, .ref s7, .ref s8, .int (nI z)], ai E s6 8 rn, ai E s7 8 rb, ai E s8 8 rs, ob 7 g0 [.ref g1, .ref g2, .ref g3, .ref g4, .int (nI td)], ai E g1 3 eb, ai E g2 3 es, ai E g3 3 ec, ai E g4 12 (cT3 et l0 p x a0 b0)]) rfl ?_
  refine g_aload_n F 4 dX5_carryOut_144 rfl rfl ?_
  refine g_dup F dX5_carryOut_145 rfl ?_
  refine g_get F 0 4 dX5_carryOut_146 rfl rfl (by decide) (by decide +kernel) (by decide +kernel) rfl ?_
  refine g_iconst (v := nI 1) F dX5_carryOut_149 (by decide) ?_
  refine g_iaddN F dX5_carryOut_150 ?_
  refine g_put F 0 4 dX5_carryOut_151 rfl rfl (by decide) (by decide +kernel) (by decide +kernel) tyX5_ok nmX5 rfl (by decide +kernel) rfl rfl (Nat.le_of_ble_eq_true rfl) rfl (ty := .int) (w2 := [ob 5 s0 [.ref s1, .ref s2, .ref s3, .int (nI 0), .int (nI (wr + 1))], ob 1 s1 [.ref s4], ai E s4 768 (ly (ly (ly (ly (lf mi N a0 b0 (cT3 et l0 p x a0 b0)) 0 d0 (cT3 et l0 p x a0 b0) 0 4) 1 a0 (cT3 et l0 p x a0 b0) 2 4) 1 b0 (cT3 et l0 p x a0 b0) 1 4) 1 d0 (cT3 et l0 p x a0 b0) 0 4), ob 0 s2 [.ref s5], az E s5 96 (up (up (up U a0 1) b0 1) d0 1), ob 3 s3 [.ref s6, .ref s7, .ref s8, .int (nI z)], ai E s6 8 rn, ai E s7 8 rb, ai E s8 8 rs, ob 7 g0 [.ref g1, .ref g2, .ref g3, .ref g4, .int (nI td)], ai E g1 3 eb, ai E g2 3 es, ai E g3 3 ec, ai E g4 12 (cT3 et l0 p x a0 b0)]) rfl ?_
  refine g_aload_n F 4 dX5_carryOut_154 rfl rfl ?_
  refine g_get F 0 2 dX5_carryOut_155 rfl rfl (by decide) (by decide +kernel) (by decide +kernel) rfl ?_
  refine g_aload_n F 4 dX5_carryOut_158 rfl rfl ?_
  refine g_get F 0 4 dX5_carryOut_159 rfl rfl (by decide) (by decide +kernel) (by decide +kernel) rfl ?_
  refine g_iload F 0 dX5_carryOut_162 rfl ?_
  refine g_aload_n F 5 dX5_carryOut_164 rfl rfl ?_
  refine g_iconst (v := nI 0) F dX5_carryOut_165 (by decide) ?_
  refine g_callViR (n := 1) F [9, 13] (c_X7_takenSum l E g0 g1 g2 g3 g4 td (cT3 et l0 p x a0 b0) 0 (by omega) (by exact q3 _) (by exact q3 _) (by exact q3 _) (by exact q3 _)) dX5_carryOut_166 rfl (by decide) rfl rfl rfl (Nat.le_of_ble_eq_true rfl) ⟨Nat.le_of_ble_eq_true rfl, Nat.le_of_ble_eq_true rfl⟩ rfl rfl ⟨Nat.le_of_ble_eq_true rfl, Nat.le_of_ble_eq_true rfl⟩ 9 rfl rfl gX5_carryOut_X7_takenSum (by decide +kernel) (fun r u hp => by obtain ⟨-, h⟩ := hp; exact h) ?_
  rintro r_166 u_166 ⟨rfl, -⟩
  refine g_callVvW (n := 3) F [5, 6, 7, 8] (c_X3_addLatest l E s3 s6 s7 s8 z rn rb rs (wr + 1) d0 (sm (cT3 et l0 p x a0 b0) (0 * 4)) (by omega)) dX5_carryOut_169 rfl (by decide) rfl rfl rfl (Nat.le_of_ble_eq_true rfl) ⟨Nat.le_of_ble_eq_true rfl, Nat.le_of_ble_eq_true rfl⟩ rfl rfl ⟨Nat.le_of_ble_eq_true rfl, Nat.le_of_ble_eq_true rfl⟩ 5 rfl rfl gX5_carryOut_X3_addLatest (by decide +kernel) (fun u hp => by obtain rfl := hp; rfl) ?_
  rintro u_169 rfl
  refine g_ws (w2 := [ob 5 s0 [.ref s1, .ref s2, .ref s3, .int (nI 0), .int (nI (wr + 1))], ob 1 s1 [.ref s4], ai E s4 768 (ly (ly (ly (ly (lf mi N a0 b0 (cT3 et l0 p x a0 b0)) 0 d0 (cT3 et l0 p x a0 b0) 0 4) 1 a0 (cT3 et l0 p x a0 b0) 2 4) 1 b0 (cT3 et l0 p x a0 b0) 1 4) 1 d0 (cT3 et l0 p x a0 b0) 0 4), ob 0 s2 [.ref s5], az E s5 96 (up (up (up U a0 1) b0 1) d0 1), ob 3 s3 [.ref s6, .ref s7, .ref s8, .int (nI (z + 1))], ai E s6 8 (alt rn z (wr + 1)), ai E s7 8 (alt rb z d0), ai E s8 8 (alt rs z (sm (cT3 et l0 p x a0 b0) (0 * 4))), ob 7 g0 [.ref g1, .ref g2, .ref g3, .ref g4, .int (nI td)], ai E g1 3 eb, ai E g2 3 es, ai E g3 3 ec, ai E g4 12 (cT3 et l0 p x a0 b0)]) rfl ?_
  refine g_iload F 3 dX5_carryOut_172 rfl ?_
  refine g_aiC 2 rfl (cN mi N a0 b0 d0 (cT3 et l0 p x a0 b0)) (by intro j hj; rfl) (w2 := [ob 5 s0 [.ref s1, .ref s2, .ref s3, .int (nI 0), .int (nI (wr + 1))], ob 1 s1 [.ref s4], ai E s4 768 (cN mi N a0 b0 d0 (cT3 et l0 p x a0 b0)), ob 0 s2 [.ref s5], az E s5 96 (up (up (up U a0 1) b0 1) d0 1), ob 3 s3 [.ref s6, .ref s7, .ref s8, .int (nI (z + 1))], ai E s6 8 (alt rn z (wr + 1)), ai E s7 8 (alt rb z d0), ai E s8 8 (alt rs z (sm (cT3 et l0 p x a0 b0) (0 * 4))), ob 7 g0 [.ref g1, .ref g2, .ref g3, .ref g4, .int (nI td)], ai E g1 3 eb, ai E g2 3 es, ai E g3 3 ec, ai E g4 12 (cT3 et l0 p x a0 b0)]) rfl ?_
  exact hret _ _ _ _ dX5_carryOut_174 ⟨rfl, rfl⟩
set_option maxHeartbeats 4000000 in
set_option maxRecDepth 100000 in
theorem c_X5_mendWay (l : Launch) (E : En) (s0 : Nat) (s1 : Nat) (s2 : Nat) (s3 : Nat) (s4 : Nat) (s6 : Nat) (s7 : Nat) (s8 : Nat) (mi : Nat) (wr : Nat) (z : Nat) (N : Nat → Nat) (rb : Nat → Nat) (rs : Nat → Nat) (g0 : Nat) (g1 : Nat) (g2 : Nat) (g3 : Nat) (g4 : Nat) (td : Nat) (eb : Nat → Nat) (es : Nat → Nat) (ec : Nat → Nat) (et : Nat → Nat) (r : Nat) (l0 : Nat) (hr : r < 8) (hl : l0 < 16) (hN : BN N) (hrb : rb r < 65536) (hrs : rs r < 65536) : CtI l yX5_mendWay wsX5_mendWay ({ frames := 4, cells := 0, slots := 0, locals := 94 } : Room) E [.ref s0, .ref g0, .int (nI r), .int (nI l0)] [ob 5 s0 [.ref s1, .ref s2, .ref s3, .int (nI mi), .int (nI wr)], ob 1 s1 [.ref s4], ai E s4 768 N, ob 3 s3 [.ref s6, .ref s7, .ref s8, .int (nI z)], ai E s7 8 rb, ai E s8 8 rs, ob 7 g0 [.ref g1, .ref g2, .ref g3, .ref g4, .int (nI td)], ai E g1 3 eb, ai E g2 3 es, ai E g3 3 ec, ai E g4 12 et] (fun rr uu => ∃ (td2 : Nat), ∃ (Wb : Nat → Nat), ∃ (Ws : Nat → Nat), ∃ (Wc : Nat → Nat), ∃ (Wt : Nat → Nat), rr = (nI ((md N (wb N (rb r) (rs r) l0) (wtc N (rb r) (rs r) l0) (gl N (rb r) (rs r) l0)).1)) ∧ uu = [ob 5 s0 [.ref s1, .ref s2, .ref s3, .int (nI mi), .int (nI wr)], ob 1 s1 [.ref s4], ai E s4 768 ((md N (wb N (rb r) (rs r) l0) (wtc N (rb r) (rs r) l0) (gl N (rb r) (rs r) l0)).2), ob 3 s3 [.ref s6, .ref s7, .ref s8, .int (nI z)], ai E s7 8 rb, ai E s8 8 rs, ob 7 g0 [.ref g1, .ref g2, .ref g3, .ref g4, .int (nI td2)], ai E g1 3 Wb, ai E g2 3 Ws, ai E g3 3 Wc, ai E g4 12 Wt]) := by
  refine CtI.of cX5_mendWay 7 RX5 .int rfl (by decide) rfl (Or.inl rfl) (Nat.le_of_ble_eq_true rfl) (fun h => by cases h) ?_
  intro Γ F hret
  show G Γ E 0 0 0 [(0, .ref s0), (1, .ref g0), (2, .int (nI r)), (3, .int (nI l0))] [] [ob 5 s0 [.ref s1, .ref s2, .ref s3, .int (nI mi), .int (nI wr)], ob 1 s1 [.ref s4], ai E s4 768 N, ob 3 s3 [.ref s6, .ref s7, .ref s8, .int (nI z)], ai E s7 8 rb, ai E s8 8 rs, ob 7 g0 [.ref g1, .ref g2, .ref g3, .ref g4, .int (nI td)], ai E g1 3 eb, ai E g2 3 es, ai E g3 3 ec, ai E g4 12 et]
  refine g_aload_n F 0 dX5_mendWay_0 rfl rfl ?_
  refine g_aload_n F 1 dX5_mendWay_1 rfl rfl ?_
  refine g_iload_n F 2 dX5_mendWay_2 rfl rfl ?_
  refine g_iload_n F 3 dX5_mendWay_3 rfl rfl ?_
  refine g_callVvW (n := 3) F [0, 1, 2, 3, 4, 5, 6, 7, 8, 9, 10] (c_X5_findWay l E s0 s1 s2 s3 s4 s6 s7 s8 mi wr z N rb rs g0 g1 g2 g3 g4 td eb es ec et r l0 (by omega) (by omega) (by assumption) (by omega) (by omega)) dX5_mendWay_4 rfl (by decide) rfl rfl rfl (Nat.le_of_ble_eq_true rfl) ⟨Nat.le_of_ble_eq_true rfl, Nat.le_of_ble_eq_true rfl⟩ rfl rfl ⟨Nat.le_of_ble_eq_true rfl, Nat.le_of_ble_eq_true rfl⟩ 0 rfl rfl gX5_mendWay_X5_findWay (by decide +kernel) (fun u hp => by obtain ⟨_, _, _, _, _, -, rfl⟩ := hp; rfl) ?_
  rintro u_4 ⟨td2_4, Wb_4, Ws_4, Wc_4, Wt_4, hWO_4, rfl⟩
  refine g_ws (w2 := [ob 5 s0 [.ref s1, .ref s2, .ref s3, .int (nI mi), .int (nI wr)], ob 1 s1 [.ref s4], ai E s4 768 N, ob 3 s3 [.ref s6, .ref s7, .ref s8, .int (nI z)], ai E s7 8 rb, ai E s8 8 rs, ob 7 g0 [.ref g1, .ref g2, .ref g3, .ref g4, .int (nI td2_4)], ai E g1 3 Wb_4, ai E g2 3 Ws_4, ai E g3 3 Wc_4, ai E g4 12 Wt_4]) rfl ?_
  refine g_iconst (v := nI 0) F dX5_mendWay_7 (by decide) ?_
  refine g_istore (lv2 := [(4, .int (nI 0)), (0, .ref s0), (1, .ref g0), (2, .int (nI r)), (3, .int (nI l0))]) F dX5_mendWay_8 (by decide) rfl ?_
  refine g_iconst (v := nI 0) F dX5_mendWay_10 (by decide) ?_
  refine g_istore (lv2 := [(5, .int (nI 0)), (4, .int (nI 0)), (0, .ref s0), (1, .ref g0), (2, .int (nI r)), (3, .int (nI l0))]) F dX5_mendWay_11 (by decide) rfl ?_
  have loop13 : ∀ (n : Nat) (v : Nat) (y : Nat), 4 - v < n → (v ≤ gl N (rb r) (rs r) l0) → (y = (md N (wb N (rb r) (rs r) l0) (wtc N (rb r) (rs r) l0) v).1) → G Γ E (0) (0) 13 [(0, .ref s0), (1, .ref g0), (2, .int (nI r)), (3, .int (nI l0)), (4, .int (nI y)), (5, .int (nI v))] [] [ob 5 s0 [.ref s1, .ref s2, .ref s3, .int (nI mi), .int (nI wr)], ob 1 s1 [.ref s4], ai E s4 768 ((md N (wb N (rb r) (rs r) l0) (wtc N (rb r) (rs r) l0) v).2), ob 3 s3 [.ref s6, .ref s7, .ref s8, .int (nI z)], ai E s7 8 rb, ai E s8 8 rs, ob 7 g0 [.ref g1, .ref g2, .ref g3, .ref g4, .int (nI td2_4)], ai E g1 3 Wb_4, ai E g2 3 Ws_4, ai E g3 3 Wc_4, ai E g4 12 Wt_4] := by
    intro n
    induction n with
    | zero => intro v y hz; exact absurd hz (Nat.not_lt_zero _)
    | succ n ih13 =>
      intro v y hz13 hv hy
      have hg3 := gl_le N (rb r) (rs r) l0
      refine g_iload F 5 dX5_mendWay_13 rfl ?_
      refine g_iconst (v := nI 2) F dX5_mendWay_15 (by decide) ?_
      refine g_icmp_gtN (tgt := 86) F dX5_mendWay_16 (by decide) (by omega) (by omega) (fun c16 => ?_) (fun c16 => ?_)
      · skip
        have hvg : v = gl N (rb r) (rs r) l0 := by
          have hq := (WO_gl hWO_4).2.2 v
          have hq3 : gl N (rb r) (rs r) l0 ≤ 3 := Nat.le_trans (WO_gl hWO_4).1 hWO_4.1.2
          by_cases hv3 : v < 3
          · have := (hq hv3)
            first
              | omega
              | (exact absurd (Nat.lt_of_le_of_ne hv ‹_›) (fun z => ((hq hv3).mp z) c26))
              | (rcases Nat.lt_or_ge v (gl N (rb r) (rs r) l0) with z | z
                 · exact absurd c26 ((hq hv3).mp z)
                 · omega)
          · omega
        refine g_aiC 2 rfl ((md N (wb N (rb r) (rs r) l0) (wtc N (rb r) (rs r) l0) (gl N (rb r) (rs r) l0)).2) (by intro j hj; rw [hvg]) (w2 := [ob 5 s0 [.ref s1, .ref s2, .ref s3, .int (nI mi), .int (nI wr)], ob 1 s1 [.ref s4], ai E s4 768 ((md N (wb N (rb r) (rs r) l0) (wtc N (rb r) (rs r) l0) (gl N (rb r) (rs r) l0)).2), ob 3 s3 [.ref s6, .ref s7, .ref s8, .int (nI z)], ai E s7 8 rb, ai E s8 8 rs, ob 7 g0 [.ref g1, .ref g2, .ref g3, .ref g4, .int (nI td2_4)], ai E g1 3 Wb_4, ai E g2 3 Ws_4, ai E g3 3 Wc_4, ai E g4 12 Wt_4]) rfl ?_
        refine g_iload F 4 dX5_mendWay_86 rfl ?_
        exact hret _ _ _ _ dX5_mendWay_88 ⟨td2_4, Wb_4, Ws_4, Wc_4, Wt_4, (congrArg nI (by rw [hy, hvg])), (by rfl)⟩
      · skip
        refine g_aload_n F 1 dX5_mendWay_19 rfl rfl ?_
        refine g_iload F 5 dX5_mendWay_20 rfl ?_
        refine g_callViR (n := 1) F [6, 9] (c_X7_copyAt l E g0 g1 g2 g3 g4 td2_4 Wc_4 v (by exact hWO_4.1.2) (by omega)) dX5_mendWay_22 rfl (by decide) rfl rfl rfl (Nat.le_of_ble_eq_true rfl) ⟨Nat.le_of_ble_eq_true rfl, Nat.le_of_ble_eq_true rfl⟩ rfl rfl ⟨Nat.le_of_ble_eq_true rfl, Nat.le_of_ble_eq_true rfl⟩ 6 rfl rfl gX5_mendWay_X7_copyAt (by decide +kernel) (fun r u hp => by obtain ⟨-, h⟩ := hp; exact h) ?_
        rintro r_22 u_22 ⟨rfl, -⟩
        have hcb := WO_cpa hWO_4 v
        refine g_iconst (v := nI 2) F dX5_mendWay_25 (by decide) ?_
        refine g_icmp_eqN (tgt := 86) F dX5_mendWay_26 (by decide) (by omega) (by omega) (fun c26 => ?_) (fun c26 => ?_)
        · skip
          have hvg : v = gl N (rb r) (rs r) l0 := by
            have hq := (WO_gl hWO_4).2.2 v
            have hq3 : gl N (rb r) (rs r) l0 ≤ 3 := Nat.le_trans (WO_gl hWO_4).1 hWO_4.1.2
            by_cases hv3 : v < 3
            · have := (hq hv3)
              first
                | omega
                | (exact absurd (Nat.lt_of_le_of_ne hv ‹_›) (fun z => ((hq hv3).mp z) c26))
                | (rcases Nat.lt_or_ge v (gl N (rb r) (rs r) l0) with z | z
                   · exact absurd c26 ((hq hv3).mp z)
                   · omega)
            · omega
          refine g_aiC 2 rfl ((md N (wb N (rb r) (rs r) l0) (wtc N (rb r) (rs r) l0) (gl N (rb r) (rs r) l0)).2) (by intro j hj; rw [hvg]) (w2 := [ob 5 s0 [.ref s1, .ref s2, .ref s3, .int (nI mi), .int (nI wr)], ob 1 s1 [.ref s4], ai E s4 768 ((md N (wb N (rb r) (rs r) l0) (wtc N (rb r) (rs r) l0) (gl N (rb r) (rs r) l0)).2), ob 3 s3 [.ref s6, .ref s7, .ref s8, .int (nI z)], ai E s7 8 rb, ai E s8 8 rs, ob 7 g0 [.ref g1, .ref g2, .ref g3, .ref g4, .int (nI td2_4)], ai E g1 3 Wb_4, ai E g2 3 Ws_4, ai E g3 3 Wc_4, ai E g4 12 Wt_4]) rfl ?_
          refine g_iload F 4 dX5_mendWay_86 rfl ?_
          exact hret _ _ _ _ dX5_mendWay_88 ⟨td2_4, Wb_4, Ws_4, Wc_4, Wt_4, (congrArg nI (by rw [hy, hvg])), (by rfl)⟩
        · skip
          have hvg : v < gl N (rb r) (rs r) l0 := ((WO_gl hWO_4).2.2 v (by omega)).mpr c26
          have hvt : v < td2_4 := Nat.lt_of_lt_of_le hvg (WO_gl hWO_4).1
          have hgv := (WO_gl hWO_4).2.1 v hvg
          have hb96 : wb N (rb r) (rs r) l0 v < 96 := tk_in (N := N) (s := wq N (rb r) (rs r) l0 v) (Nat.ne_of_lt hgv)
          have hMN : BN (md N (wb N (rb r) (rs r) l0) (wtc N (rb r) (rs r) l0) v).2 := md_BN hN v (fun _ _ _ _ => wtc_lt hN _ _ _ _)
          refine g_aload_n F 1 dX5_mendWay_29 rfl rfl ?_
          refine g_iload F 5 dX5_mendWay_30 rfl ?_
          refine g_callViR (n := 1) F [6, 7] (c_X7_blockAt l E g0 g1 g2 g3 g4 td2_4 Wb_4 v (by exact hWO_4.1.2) (by exact hvt)) dX5_mendWay_32 rfl (by decide) rfl rfl rfl (Nat.le_of_ble_eq_true rfl) ⟨Nat.le_of_ble_eq_true rfl, Nat.le_of_ble_eq_true rfl⟩ rfl rfl ⟨Nat.le_of_ble_eq_true rfl, Nat.le_of_ble_eq_true rfl⟩ 6 rfl rfl gX5_mendWay_X7_blockAt (by decide +kernel) (fun r u hp => by obtain ⟨-, h⟩ := hp; exact h) ?_
          rintro r_32 u_32 ⟨rfl, -⟩
          refine g_top (nI (Wb_4 v)) (nI (wb N (rb r) (rs r) l0 v)) (by rw [(hWO_4.2.1 v hvt).1]) ?_
          refine g_istore (lv2 := [(6, .int (nI (wb N (rb r) (rs r) l0 v))), (0, .ref s0), (1, .ref g0), (2, .int (nI r)), (3, .int (nI l0)), (4, .int (nI y)), (5, .int (nI v))]) F dX5_mendWay_35 (by decide) rfl ?_
          refine g_aload_n F 1 dX5_mendWay_37 rfl rfl ?_
          refine g_get F 0 0 dX5_mendWay_38 rfl rfl (by decide) (by decide +kernel) (by decide +kernel) rfl ?_
          refine g_iload F 0 dX5_mendWay_41 rfl ?_
          refine g_callViR (n := 1) F [1, 2] (c_X1_alike l E s1 s4 ((md N (wb N (rb r) (rs r) l0) (wtc N (rb r) (rs r) l0) v).2) (wb N (rb r) (rs r) l0 v) (by exact hb96) (by exact hMN)) dX5_mendWay_43 rfl (by decide) rfl rfl rfl (Nat.le_of_ble_eq_true rfl) ⟨Nat.le_of_ble_eq_true rfl, Nat.le_of_ble_eq_true rfl⟩ rfl rfl ⟨Nat.le_of_ble_eq_true rfl, Nat.le_of_ble_eq_true rfl⟩ 1 rfl rfl gX5_mendWay_X1_alike (by decide +kernel) (fun r u hp => by obtain ⟨-, h⟩ := hp; exact h) ?_
          rintro r_43 u_43 ⟨rfl, -⟩
          refine g_if_neB (tgt := 52) F dX5_mendWay_46 (by decide) (fun c46 => ?_) (fun c46 => ?_)
          · skip
            refine g_aload_n F 1 dX5_mendWay_52 rfl rfl ?_
            refine g_get F 0 0 dX5_mendWay_53 rfl rfl (by decide) (by decide +kernel) (by decide +kernel) rfl ?_
            refine g_iconst (v := nI 0) F dX5_mendWay_56 (by decide) ?_
            refine g_iload F 0 dX5_mendWay_57 rfl ?_
            refine g_aload_n F 2 dX5_mendWay_59 rfl rfl ?_
            refine g_iload F 6 dX5_mendWay_60 rfl ?_
            refine g_iconst (v := nI 4) F dX5_mendWay_62 (by decide) ?_
            refine g_callVvW (n := 5) F [1, 2, 6, 10] (c_X1_lay l E s1 s4 ((md N (wb N (rb r) (rs r) l0) (wtc N (rb r) (rs r) l0) v).2) g0 g1 g2 g3 g4 td2_4 Wt_4 0 (wb N (rb r) (rs r) l0 v) v 4 (by omega) (by exact hb96) (by omega) (by omega)) dX5_mendWay_63 rfl (by decide) rfl rfl rfl (Nat.le_of_ble_eq_true rfl) ⟨Nat.le_of_ble_eq_true rfl, Nat.le_of_ble_eq_true rfl⟩ rfl rfl ⟨Nat.le_of_ble_eq_true rfl, Nat.le_of_ble_eq_true rfl⟩ 1 rfl rfl gX5_mendWay_X1_lay (by decide +kernel) (fun u hp => by obtain rfl := hp; rfl) ?_
            rintro u_63 rfl
            refine g_ws (w2 := [ob 5 s0 [.ref s1, .ref s2, .ref s3, .int (nI mi), .int (nI wr)], ob 1 s1 [.ref s4], ai E s4 768 (ly ((md N (wb N (rb r) (rs r) l0) (wtc N (rb r) (rs r) l0) v).2) 0 (wb N (rb r) (rs r) l0 v) Wt_4 v 4), ob 3 s3 [.ref s6, .ref s7, .ref s8, .int (nI z)], ai E s7 8 rb, ai E s8 8 rs, ob 7 g0 [.ref g1, .ref g2, .ref g3, .ref g4, .int (nI td2_4)], ai E g1 3 Wb_4, ai E g2 3 Ws_4, ai E g3 3 Wc_4, ai E g4 12 Wt_4]) rfl ?_
            refine g_aload_n F 1 dX5_mendWay_66 rfl rfl ?_
            refine g_get F 0 0 dX5_mendWay_67 rfl rfl (by decide) (by decide +kernel) (by decide +kernel) rfl ?_
            refine g_iconst (v := nI 1) F dX5_mendWay_70 (by decide) ?_
            refine g_iload F 0 dX5_mendWay_71 rfl ?_
            refine g_aload_n F 2 dX5_mendWay_73 rfl rfl ?_
            refine g_iload F 6 dX5_mendWay_74 rfl ?_
            refine g_iconst (v := nI 4) F dX5_mendWay_76 (by decide) ?_
            refine g_callVvW (n := 5) F [1, 2, 6, 10] (c_X1_lay l E s1 s4 (ly ((md N (wb N (rb r) (rs r) l0) (wtc N (rb r) (rs r) l0) v).2) 0 (wb N (rb r) (rs r) l0 v) Wt_4 v 4) g0 g1 g2 g3 g4 td2_4 Wt_4 1 (wb N (rb r) (rs r) l0 v) v 4 (by omega) (by exact hb96) (by omega) (by omega)) dX5_mendWay_77 rfl (by decide) rfl rfl rfl (Nat.le_of_ble_eq_true rfl) ⟨Nat.le_of_ble_eq_true rfl, Nat.le_of_ble_eq_true rfl⟩ rfl rfl ⟨Nat.le_of_ble_eq_true rfl, Nat.le_of_ble_eq_true rfl⟩ 1 rfl rfl gX5_mendWay_X1_lay (by decide +kernel) (fun u hp => by obtain rfl := hp; rfl) ?_
            rintro u_77 rfl
            refine g_ws (w2 := [ob 5 s0 [.ref s1, .ref s2, .ref s3, .int (nI mi), .int (nI wr)], ob 1 s1 [.ref s4], ai E s4 768 (ly (ly ((md N (wb N (rb r) (rs r) l0) (wtc N (rb r) (rs r) l0) v).2) 0 (wb N (rb r) (rs r) l0 v) Wt_4 v 4) 1 (wb N (rb r) (rs r) l0 v) Wt_4 v 4), ob 3 s3 [.ref s6, .ref s7, .ref s8, .int (nI z)], ai E s7 8 rb, ai E s8 8 rs, ob 7 g0 [.ref g1, .ref g2, .ref g3, .ref g4, .int (nI td2_4)], ai E g1 3 Wb_4, ai E g2 3 Ws_4, ai E g3 3 Wc_4, ai E g4 12 Wt_4]) rfl ?_
            refine g_iinc (k := 6) (v := nI (v + 1)) (lv2 := [(5, .int (nI (v + 1))), (6, .int (nI (wb N (rb r) (rs r) l0 v))), (0, .ref s0), (1, .ref g0), (2, .int (nI r)), (3, .int (nI l0)), (4, .int (nI y))]) F dX5_mendWay_80 rfl (nI_1 _) (by decide) rfl ?_
            refine g_goto (tgt := 13) F dX5_mendWay_83 (by decide) ?_
            have hly : ly (ly (md N (wb N (rb r) (rs r) l0) (wtc N (rb r) (rs r) l0) v).2 0 (wb N (rb r) (rs r) l0 v) Wt_4 v 4) 1 (wb N (rb r) (rs r) l0 v) Wt_4 v 4 = (md N (wb N (rb r) (rs r) l0) (wtc N (rb r) (rs r) l0) (v + 1)).2 := by
              have e : ∀ k, k < 4 → Wt_4 (v * 4 + k) = wtc N (rb r) (rs r) l0 (v * 4 + k) := fun k hk => by
                rw [wtc_at hk]; exact hWO_4.2.2.2.2 v k hvt hgv hk
              show _ = ly2 _ _ _ _
              unfold ly2
              rw [ly_congr 4 e, ly_congr 4 e]
            refine g_aiC 2 rfl ((md N (wb N (rb r) (rs r) l0) (wtc N (rb r) (rs r) l0) (v + 1)).2) (by intro j hj; rw [hly]) (w2 := [ob 5 s0 [.ref s1, .ref s2, .ref s3, .int (nI mi), .int (nI wr)], ob 1 s1 [.ref s4], ai E s4 768 ((md N (wb N (rb r) (rs r) l0) (wtc N (rb r) (rs r) l0) (v + 1)).2), ob 3 s3 [.ref s6, .ref s7, .ref s8, .int (nI z)], ai E s7 8 rb, ai E s8 8 rs, ob 7 g0 [.ref g1, .ref g2, .ref g3, .ref g4, .int (nI td2_4)], ai E g1 3 Wb_4, ai E g2 3 Ws_4, ai E g3 3 Wc_4, ai E g4 12 Wt_4]) rfl ?_
            refine g_lv [2, 3, 4, 5, 6, 0] rfl ?_
            exact ih13 (v + 1) y (by omega) (by omega) (by first | rw [md_a c46, hy] | rw [md_b c46, hy])
          · skip
            refine g_iinc (k := 5) (v := nI (y + 1)) (lv2 := [(4, .int (nI (y + 1))), (6, .int (nI (wb N (rb r) (rs r) l0 v))), (0, .ref s0), (1, .ref g0), (2, .int (nI r)), (3, .int (nI l0)), (5, .int (nI v))]) F dX5_mendWay_49 rfl (nI_1 _) (by decide) rfl ?_
            refine g_aload_n F 2 dX5_mendWay_52 rfl rfl ?_
            refine g_get F 0 0 dX5_mendWay_53 rfl rfl (by decide) (by decide +kernel) (by decide +kernel) rfl ?_
            refine g_iconst (v := nI 0) F dX5_mendWay_56 (by decide) ?_
            refine g_iload F 1 dX5_mendWay_57 rfl ?_
            refine g_aload_n F 3 dX5_mendWay_59 rfl rfl ?_
            refine g_iload F 6 dX5_mendWay_60 rfl ?_
            refine g_iconst (v := nI 4) F dX5_mendWay_62 (by decide) ?_
            refine g_callVvW (n := 5) F [1, 2, 6, 10] (c_X1_lay l E s1 s4 ((md N (wb N (rb r) (rs r) l0) (wtc N (rb r) (rs r) l0) v).2) g0 g1 g2 g3 g4 td2_4 Wt_4 0 (wb N (rb r) (rs r) l0 v) v 4 (by omega) (by exact hb96) (by omega) (by omega)) dX5_mendWay_63 rfl (by decide) rfl rfl rfl (Nat.le_of_ble_eq_true rfl) ⟨Nat.le_of_ble_eq_true rfl, Nat.le_of_ble_eq_true rfl⟩ rfl rfl ⟨Nat.le_of_ble_eq_true rfl, Nat.le_of_ble_eq_true rfl⟩ 1 rfl rfl gX5_mendWay_X1_lay (by decide +kernel) (fun u hp => by obtain rfl := hp; rfl) ?_
            rintro u_63 rfl
            refine g_ws (w2 := [ob 5 s0 [.ref s1, .ref s2, .ref s3, .int (nI mi), .int (nI wr)], ob 1 s1 [.ref s4], ai E s4 768 (ly ((md N (wb N (rb r) (rs r) l0) (wtc N (rb r) (rs r) l0) v).2) 0 (wb N (rb r) (rs r) l0 v) Wt_4 v 4), ob 3 s3 [.ref s6, .ref s7, .ref s8, .int (nI z)], ai E s7 8 rb, ai E s8 8 rs, ob 7 g0 [.ref g1, .ref g2, .ref g3, .ref g4, .int (nI td2_4)], ai E g1 3 Wb_4, ai E g2 3 Ws_4, ai E g3 3 Wc_4, ai E g4 12 Wt_4]) rfl ?_
            refine g_aload_n F 2 dX5_mendWay_66 rfl rfl ?_
            refine g_get F 0 0 dX5_mendWay_67 rfl rfl (by decide) (by decide +kernel) (by decide +kernel) rfl ?_
            refine g_iconst (v := nI 1) F dX5_mendWay_70 (by decide) ?_
            refine g_iload F 1 dX5_mendWay_71 rfl ?_
            refine g_aload_n F 3 dX5_mendWay_73 rfl rfl ?_
            refine g_iload F 6 dX5_mendWay_74 rfl ?_
            refine g_iconst (v := nI 4) F dX5_mendWay_76 (by decide) ?_
            refine g_callVvW (n := 5) F [1, 2, 6, 10] (c_X1_lay l E s1 s4 (ly ((md N (wb N (rb r) (rs r) l0) (wtc N (rb r) (rs r) l0) v).2) 0 (wb N (rb r) (rs r) l0 v) Wt_4 v 4) g0 g1 g2 g3 g4 td2_4 Wt_4 1 (wb N (rb r) (rs r) l0 v) v 4 (by omega) (by exact hb96) (by omega) (by omega)) dX5_mendWay_77 rfl (by decide) rfl rfl rfl (Nat.le_of_ble_eq_true rfl) ⟨Nat.le_of_ble_eq_true rfl, Nat.le_of_ble_eq_true rfl⟩ rfl rfl ⟨Nat.le_of_ble_eq_true rfl, Nat.le_of_ble_eq_true rfl⟩ 1 rfl rfl gX5_mendWay_X1_lay (by decide +kernel) (fun u hp => by obtain rfl := hp; rfl) ?_
            rintro u_77 rfl
            refine g_ws (w2 := [ob 5 s0 [.ref s1, .ref s2, .ref s3, .int (nI mi), .int (nI wr)], ob 1 s1 [.ref s4], ai E s4 768 (ly (ly ((md N (wb N (rb r) (rs r) l0) (wtc N (rb r) (rs r) l0) v).2) 0 (wb N (rb r) (rs r) l0 v) Wt_4 v 4) 1 (wb N (rb r) (rs r) l0 v) Wt_4 v 4), ob 3 s3 [.ref s6, .ref s7, .ref s8, .int (nI z)], ai E s7 8 rb, ai E s8 8 rs, ob 7 g0 [.ref g1, .ref g2, .ref g3, .ref g4, .int (nI td2_4)], ai E g1 3 Wb_4, ai E g2 3 Ws_4, ai E g3 3 Wc_4, ai E g4 12 Wt_4]) rfl ?_
            refine g_iinc (k := 6) (v := nI (v + 1)) (lv2 := [(5, .int (nI (v + 1))), (4, .int (nI (y + 1))), (6, .int (nI (wb N (rb r) (rs r) l0 v))), (0, .ref s0), (1, .ref g0), (2, .int (nI r)), (3, .int (nI l0))]) F dX5_mendWay_80 rfl (nI_1 _) (by decide) rfl ?_
            refine g_goto (tgt := 13) F dX5_mendWay_83 (by decide) ?_
            have hly : ly (ly (md N (wb N (rb r) (rs r) l0) (wtc N (rb r) (rs r) l0) v).2 0 (wb N (rb r) (rs r) l0 v) Wt_4 v 4) 1 (wb N (rb r) (rs r) l0 v) Wt_4 v 4 = (md N (wb N (rb r) (rs r) l0) (wtc N (rb r) (rs r) l0) (v + 1)).2 := by
              have e : ∀ k, k < 4 → Wt_4 (v * 4 + k) = wtc N (rb r) (rs r) l0 (v * 4 + k) := fun k hk => by
                rw [wtc_at hk]; exact hWO_4.2.2.2.2 v k hvt hgv hk
              show _ = ly2 _ _ _ _
              unfold ly2
              rw [ly_congr 4 e, ly_congr 4 e]
            refine g_aiC 2 rfl ((md N (wb N (rb r) (rs r) l0) (wtc N (rb r) (rs r) l0) (v + 1)).2) (by intro j hj; rw [hly]) (w2 := [ob 5 s0 [.ref s1, .ref s2, .ref s3, .int (nI mi), .int (nI wr)], ob 1 s1 [.ref s4], ai E s4 768 ((md N (wb N (rb r) (rs r) l0) (wtc N (rb r) (rs r) l0) (v + 1)).2), ob 3 s3 [.ref s6, .ref s7, .ref s8, .int (nI z)], ai E s7 8 rb, ai E s8 8 rs, ob 7 g0 [.ref g1, .ref g2, .ref g3, .ref g4, .int (nI td2_4)], ai E g1 3 Wb_4, ai E g2 3 Ws_4, ai E g3 3 Wc_4, ai E g4 12 Wt_4]) rfl ?_
            refine g_lv [3, 4, 5, 6, 1, 0] rfl ?_
            exact ih13 (v + 1) (y + 1) (by omega) (by omega) (by first | rw [md_a c46, hy] | rw [md_b c46, hy])
  refine g_lv [2, 3, 4, 5, 1, 0] rfl ?_
  exact loop13 ((4 - 0) + 1) 0 0 (Nat.lt_succ_self _) (by exact Nat.zero_le _) (by rfl)
