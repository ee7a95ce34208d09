/-! what holds after each act: contents below 64, and how many blocks can ever be told of -/
theorem cn_len {U : Nat → Nat} : ∀ (n : Nat) (Es : List Nat), (∀ j : Nat, j < n → ¬ U j = 0 → j ∈ Es) → cn U n ≤ Es.length
  | 0, _, _ => by rw [cn_0]; exact Nat.zero_le _
  | n + 1, Es, h => by
    rw [cn_s]
    by_cases z : U n = 0
    · rw [if_pos z]
      exact cn_len n Es (fun j hj hu => h j (by omega) hu)
    · rw [if_neg z]
      have hm : n ∈ Es := h n (Nat.lt_succ_self n) z
      have ih := cn_len (U := U) n (Es.erase n) (fun j hj hu => (List.mem_erase_of_ne (show j ≠ n by omega)).mpr (h j (by omega) hu))
      rw [List.length_erase_of_mem hm] at ih
      have := List.length_pos_of_mem hm
      omega
theorem ff_stay {U : Nat → Nat} {m : Nat} (h : ff U m < m) : ∀ n, m ≤ n → ff U n = ff U m := by
  intro n
  induction n with
  | zero => intro hn; rw [show m = 0 by omega]
  | succ n ih =>
    intro hn
    by_cases z : m = n + 1
    · rw [z]
    · have e := ih (by omega)
      rw [ff_s, if_pos (by omega), e]
theorem ff_64 {U : Nat → Nat} (h : cn U 64 < 64) : ff U 96 < 64 ∧ U (ff U 96) = 0 := by
  have h1 := ff_lt 64 h
  rw [ff_stay h1 96 (by omega)]
  exact ⟨h1, ff_at 64 h1⟩
theorem b_64 {C : CS} (h : cn (sU C) 64 ≤ 61) : b1 C < 64 ∧ b2 C < 64 ∧ b3 C < 64 := by
  have h1 : b1 C < 64 ∧ sU C (b1 C) = 0 := ff_64 (by omega)
  have c1 := cn_up h1.2 64 h1.1
  have h2 : b2 C < 64 ∧ up (sU C) (b1 C) 1 (b2 C) = 0 := ff_64 (by omega)
  have c2 := cn_up h2.2 64 h2.1
  have h3 : b3 C < 64 ∧ up (up (sU C) (b1 C) 1) (b2 C) 1 (b3 C) = 0 := ff_64 (by omega)
  exact ⟨h1.1, h2.1, h3.1⟩
/-- numbers that tell of blocks that P holds of -/
def NPr (N : Nat → Nat) (P : Nat → Prop) : Prop := ∀ c b k : Nat, c < 2 → b < 96 → k < 4 → P (nu N c b k / 256)
def UPr (U : Nat → Nat) (P : Nat → Prop) : Prop := ∀ j : Nat, ¬ U j = 0 → P j
theorem ad_in {U : Nat → Nat} {P : Nat → Prop} (h : UPr U P) {b : Nat} (hb : P b) : UPr (ad U b) P := fun j hj => by
  unfold ad up at hj
  by_cases z : b < 96
  · rw [if_pos z] at hj
    by_cases y : j = b
    · rw [y]; exact hb
    · rw [if_neg y] at hj; exact h j hj
  · rw [if_neg z] at hj; exact h j hj
theorem ad4_in {N U : Nat → Nat} {P : Nat → Prop} (hN : NPr N P) (h : UPr U P) {c b : Nat} (hc : c < 2) (hb : b < 96) : ∀ k, k ≤ 4 → UPr (ad4 N c b U k) P
  | 0, _ => h
  | k + 1, hk => ad_in (ad4_in hN h hc hb k (by omega)) (hN c b k hc hb (by omega))
theorem ap_in {N U : Nat → Nat} {P : Nat → Prop} (hN : NPr N P) (h : UPr U P) {q : Nat} (hq : P (q / 256)) : UPr (ap N q U) P := by
  by_cases z : q / 256 < 96
  · rw [show ap N q U = ad4 N (cf N (q / 256) (q % 256)) (q / 256) (ad U (q / 256)) 4 from if_pos z]
    exact ad4_in hN (ad_in h hq) (cf_lt _ _ _) z 4 (Nat.le_refl 4)
  · rw [show ap N q U = U from if_neg z]; exact h
theorem ab4_in {N U : Nat → Nat} {P : Nat → Prop} (hN : NPr N P) (h : UPr U P) {c b : Nat} (hc : c < 2) (hb : b < 96) : ∀ k, k ≤ 4 → UPr (ab4 N c b U k) P
  | 0, _ => h
  | k + 1, hk => ap_in hN (ab4_in hN h hc hb k (by omega)) (hN c b k hc hb (by omega))
theorem ab_in {N U : Nat → Nat} {P : Nat → Prop} (hN : NPr N P) (h : UPr U P) {b s : Nat} (hb : P b) (hb2 : b < 96) : UPr (ab N b s U) P := ab4_in hN (ad_in h hb) (cf_lt _ _ _) hb2 4 (Nat.le_refl 4)
theorem su_in {N rb rs : Nat → Nat} {P : Nat → Prop} (hN : NPr N P) : ∀ z, (∀ i : Nat, i < z → P (rb i) ∧ rb i < 96) → UPr (su N rb rs z) P
  | 0, _ => fun _ hj => absurd rfl hj
  | z + 1, h => ab_in hN (su_in hN z (fun i hi => h i (by omega))) (h z (Nat.lt_succ_self z)).1 (h z (Nat.lt_succ_self z)).2
def CLo (C : CS) (P : Nat → Prop) : Prop := NPr (sN C) P ∧ UPr (sU C) P ∧ (∀ i : Nat, i < sZ C → P (sb C i)) ∧ (∀ j : Nat, j ≤ 3 → P j)
def EIn (C : CS) (t : Nat) : Prop := ∃ (Es : List Nat) (w r f g : Nat), Es.length ≤ 21 + 3 * w + r ∧ w + r + f ≤ t ∧ g ≤ 7 * f ∧ sZ C + g = 1 + w ∧ CLo C (fun j => j ∈ Es)
def LSt (C : CS) (t : Nat) : Prop := IC C ∧ ZB (sN C) ∧ (∀ i : Nat, i < sZ C → sb C i < 64) ∧ EIn C t
theorem EI_61 {C : CS} {t : Nat} (h : EIn C t) (ht : t ≤ 15) (hz : sZ C < 8) : cn (sU C) 64 ≤ 61 := by
  obtain ⟨Es, w, r, f, g, h1, h2, h3, h4, h5⟩ := h
  have hc := cn_len 64 Es (fun j _ hu => h5.2.1 j hu)
  have h6 : 3 * w + r ≤ 40 := by
    rcases (show f = 0 ∨ f = 1 ∨ 2 ≤ f by omega) with rfl | rfl | hf
    · omega
    · omega
    · omega
  omega
theorem LS_b {C : CS} {t : Nat} (h : LSt C t) (ht : t ≤ 15) (hz : sZ C < 8) : b1 C < 64 ∧ b2 C < 64 ∧ b3 C < 64 := b_64 (EI_61 h.2.2.2 ht hz)
theorem EI_s {C : CS} {t : Nat} (h : EIn C t) : EIn C (t + 1) := by
  obtain ⟨Es, w, r, f, g, h1, h2, h3, h4, h5⟩ := h
  exact ⟨Es, w, r, f, g, h1, by omega, h3, h4, h5⟩
theorem LS_s {C : CS} {t : Nat} (h : LSt C t) : LSt C (t + 1) := ⟨h.1, h.2.1, h.2.2.1, EI_s h.2.2.2⟩
theorem LS_mi {C : CS} {t k : Nat} (h : LSt C t) (hk : k < 4) : LSt (miS C k) t := ⟨⟨h.1.1, h.1.2.1, h.1.2.2.1, h.1.2.2.2.1, hk, h.1.2.2.2.2.2⟩, h.2.1, h.2.2.1, h.2.2.2⟩
theorem LS_rot {C : CS} {t c b k v : Nat} (h : LSt C t) (hb : b < 64) (hk : k < 4) (hv : v < 65536) : LSt (nS C (pn (sN C) c b k v)) (t + 1) := by
  obtain ⟨hI, hZ, hb64, Es, w, r, f, g, h1, h2, h3, h4, h5⟩ := h
  refine ⟨IC_nS hI (up_BN hI.1 hv), fun c2 b2 k2 hc2 hb1 hb2 hk2 => ?_, hb64, v / 256 :: Es, w, r + 1, f, g, ?_, by omega, h3, h4, ?_, ?_, ?_, ?_⟩
  · show nu (pn (sN C) c b k v) c2 b2 k2 = 0
    rw [nu_pn (by omega) hb2 hk hk2, if_neg (by omega)]
    exact hZ c2 b2 k2 hc2 hb1 hb2 hk2
  · rw [List.length_cons]; omega
  · intro c2 b2 k2 hc2 hb2 hk2
    show nu (pn (sN C) c b k v) c2 b2 k2 / 256 ∈ v / 256 :: Es
    rw [nu_pn (by omega) hb2 hk hk2]
    split
    · exact List.mem_cons_self
    · exact List.mem_cons_of_mem _ (h5.1 c2 b2 k2 hc2 hb2 hk2)
  · exact fun j hj => List.mem_cons_of_mem _ (h5.2.1 j hj)
  · exact fun i hi => List.mem_cons_of_mem _ (h5.2.2.1 i hi)
  · exact fun j hj => List.mem_cons_of_mem _ (h5.2.2.2 j hj)
theorem NP_md {N : Nat → Nat} {P : Nat → Prop} (h : NPr N P) (b s l : Nat) : ∀ m, m ≤ gl N b s l → NPr (md N (wb N b s l) (wtc N b s l) m).2 P
  | 0, _ => h
  | m + 1, hm => fun c b2 k hc hb2 hk => by
    show P (nu (ly2 (md N (wb N b s l) (wtc N b s l) m).2 (wb N b s l m) (wtc N b s l) m) c b2 k / 256)
    rw [nu_ly2 hc (wb_in (by omega)) hb2 hk]
    split
    · rw [wtc_at hk]; exact h _ _ _ (gl_lt (by omega)) (wb_in (by omega)) hk
    · exact NP_md h b s l m (by omega) c b2 k hc hb2 hk
theorem LS_nS {C : CS} {t : Nat} {N : Nat → Nat} (h : LSt C t) (hN : BN N) (hZ : ZB N) (hP : ∀ P : Nat → Prop, NPr (sN C) P → NPr N P) : LSt (nS C N) t := by
  obtain ⟨hI, _, hb64, Es, w, r, f, g, h1, h2, h3, h4, h5⟩ := h
  exact ⟨IC_nS hI hN, hZ, hb64, Es, w, r, f, g, h1, h2, h3, h4, hP _ h5.1, h5.2⟩
theorem ZB_mdX {N rb rs : Nat → Nat} (h : ZB N) (r l : Nat) : ZB (mdX N rb rs r l).2 := ZB_md h _ _ _ _ (Nat.le_refl _)
theorem NP_mdX {N rb rs : Nat → Nat} {P : Nat → Prop} (h : NPr N P) (r l : Nat) : NPr (mdX N rb rs r l).2 P := NP_md h _ _ _ _ (Nat.le_refl _)
theorem LS_mend {C : CS} {t : Nat} (h : LSt C t) (r l : Nat) : LSt (nS C (mdX (sN C) (sb C) (ss C) r l).2) t := LS_nS h (mdX_BN h.1.1 r l) (ZB_mdX h.2.1 r l) (fun _ hP => NP_mdX hP r l)
theorem ZB_slf {N rb rs : Nat → Nat} (h : ZB N) (r : Nat) : ∀ k, ZB (slf N rb rs r k).2
  | 0 => h
  | k + 1 => ZB_mdX (ZB_slf h r k) r k
theorem ZB_scf {N rb rs : Nat → Nat} (h : ZB N) : ∀ r, ZB (scf N rb rs r).2
  | 0 => h
  | r + 1 => ZB_slf (ZB_scf h r) r 16
theorem NP_slf {N rb rs : Nat → Nat} {P : Nat → Prop} (h : NPr N P) (r : Nat) : ∀ k, NPr (slf N rb rs r k).2 P
  | 0 => h
  | k + 1 => NP_mdX (NP_slf h r k) r k
theorem NP_scf {N rb rs : Nat → Nat} {P : Nat → Prop} (h : NPr N P) : ∀ r, NPr (scf N rb rs r).2 P
  | 0 => h
  | r + 1 => NP_slf (NP_scf h r) r 16
theorem LS_scf {C : CS} {t : Nat} (h : LSt C t) (r : Nat) : LSt (nS C (scf (sN C) (sb C) (ss C) r).2) t := LS_nS h (scf_BN h.1.1 r) (ZB_scf h.2.1 r) (fun _ hP => NP_scf hP r)
theorem LS_fr {C : CS} {t a k : Nat} (h : LSt C t) (hak : a + k ≤ sZ C) (hk : k < sZ C) (hk0 : 0 < k) : LSt (frS C a k) (t + 1) := by
  obtain ⟨hI, hZ, hb64, Es, w, r, f, g, h1, h2, h3, h4, h5⟩ := h
  have h8 := hI.2.2.2.1
  have hrm : ∀ i : Nat, i < sZ C - k → ∃ j : Nat, j < sZ C ∧ rmi (sb C) a k (sZ C) i = sb C j := fun i hi => by
    unfold rmi; split
    · exact ⟨i + k, by omega, rfl⟩
    · exact ⟨i, by omega, rfl⟩
  have h6 : ∀ i : Nat, i < sZ C - k → rmi (sb C) a k (sZ C) i ∈ Es ∧ rmi (sb C) a k (sZ C) i < 96 := fun i hi => by
    obtain ⟨j, hj, e⟩ := hrm i hi
    rw [e]
    exact ⟨h5.2.2.1 j hj, hI.rb hj⟩
  refine ⟨IC_fr hI hk, hZ, fun i hi => ?_, Es, w, r, f + 1, g + k, h1, by omega, by omega, ?_, h5.1, ?_, fun i hi => (h6 i hi).1, h5.2.2.2⟩
  · obtain ⟨j, hj, e⟩ := hrm i hi
    show rmi (sb C) a k (sZ C) i < 64
    rw [e]; exact hb64 j hj
  · show sZ C - k + (g + k) = 1 + w
    omega
  · exact su_in h5.1 (sZ C - k) h6
theorem LS_wr {C : CS} {t l p x : Nat} (h : LSt C t) (ht : t ≤ 15) (hl : l < 16) (hp : p < 4) (hx : x < 1000) (hE : wrE C l = 0) : LSt (wrS C l p x) (t + 1) := by
  have hok := pw_ok hE
  obtain ⟨hb1, hb2, hb3⟩ := LS_b h ht hok.1
  obtain ⟨hI, hZ, hb64, Es, w, r, f, g, h1, h2, h3, h4, h5⟩ := h
  have hne := b_ne (C := C) (by omega) (by omega) (by omega)
  have hg3 : gl (sN C) (sb C 0) (ss C 0) l = 3 := (gl_sp _ _ _ _).mpr hok.2.2
  have hT : ∀ v k : Nat, v < 3 → k < 4 → wrT C l p x (v * 4 + k) / 256 ∈ b1 C :: b2 C :: b3 C :: Es := by
    intro v k hv hk
    have old : wtC C l (v * 4 + k) / 256 ∈ b1 C :: b2 C :: b3 C :: Es := by
      rw [show wtC C l (v * 4 + k) = nu (sN C) (wd (sN C) (sb C 0) (ss C 0) l v) (wb (sN C) (sb C 0) (ss C 0) l v) k from wtc_at hk]
      exact List.mem_cons_of_mem _ (List.mem_cons_of_mem _ (List.mem_cons_of_mem _ (h5.1 _ _ _ (gl_lt (by omega)) (wb_in (by omega)) hk)))
    rcases (show v = 0 ∨ v = 1 ∨ v = 2 by omega) with rfl | rfl | rfl
    · show cT3 _ _ _ _ _ _ (0 * 4 + k) / 256 ∈ _
      rw [cT3_0 _ hl hk]
      split
      · have := sm_lt (fun k => cT3 (wtC C l) l p x (b1 C) (b2 C) (1 * 4 + k)) 0
        rw [show (256 * b2 C + sm (fun k => cT3 (wtC C l) l p x (b1 C) (b2 C) (1 * 4 + k)) 0) / 256 = b2 C by omega]
        exact List.mem_cons_of_mem _ List.mem_cons_self
      · exact old
    · show cT3 _ _ _ _ _ _ (1 * 4 + k) / 256 ∈ _
      rw [cT3_1 _ hl hp hk]
      split
      · have := sm_lt (fun k => cT3 (wtC C l) l p x (b1 C) (b2 C) (2 * 4 + k)) 0
        rw [show (256 * b1 C + sm (fun k => cT3 (wtC C l) l p x (b1 C) (b2 C) (2 * 4 + k)) 0) / 256 = b1 C by omega]
        exact List.mem_cons_self
      · exact old
    · show cT3 _ _ _ _ _ _ (2 * 4 + k) / 256 ∈ _
      rw [cT3_2 _ hl hk]
      split
      · exact List.mem_cons_of_mem _ (List.mem_cons_of_mem _ (List.mem_cons_of_mem _ (h5.2.2.2 _ (by omega))))
      · exact old
  have hO : ∀ c b k : Nat, c < 2 → b < 96 → k < 4 → nu (sN C) c b k / 256 ∈ b1 C :: b2 C :: b3 C :: Es := fun c b k hc hb hk => List.mem_cons_of_mem _ (List.mem_cons_of_mem _ (List.mem_cons_of_mem _ (h5.1 c b k hc hb hk)))
  refine ⟨IC_wrS hI hl hp hx hE, fun c2 q2 k2 hc2 hq1 hq2 hk2 => ?_, fun i hi => ?_, b1 C :: b2 C :: b3 C :: Es, w + 1, r, f, g, ?_, by omega, h3, ?_, ?_, ?_, ?_, ?_⟩
  · show nu (cN (sM C) (sN C) (b1 C) (b2 C) (b3 C) (wrT C l p x)) c2 q2 k2 = 0
    rcases (show c2 = 0 ∨ c2 = 1 by omega) with rfl | rfl
    · rw [nu_cN0 (by omega) (by omega) (by omega) hne.1 hne.2.1 hne.2.2 hq2 hk2, if_neg (by omega), if_neg (by omega), if_neg (by omega)]
      exact hZ _ _ _ hc2 hq1 hq2 hk2
    · rw [nu_cN1 (by omega) (by omega) (by omega) hq2 hk2, if_neg (by omega), if_neg (by omega), if_neg (by omega)]
      exact hZ _ _ _ hc2 hq1 hq2 hk2
  · show alt (sb C) (sZ C) (b3 C) i < 64
    have hi2 : i < sZ C + 1 := hi
    unfold alt; (repeat' split)
    · exact hb3
    · exact hb64 _ (by omega)
    · omega
  · simp only [List.length_cons]; omega
  · show sZ C + 1 + g = 1 + (w + 1)
    omega
  · intro c2 q2 k2 hc2 hq2 hk2
    show nu (cN (sM C) (sN C) (b1 C) (b2 C) (b3 C) (wrT C l p x)) c2 q2 k2 / 256 ∈ _
    rcases (show c2 = 0 ∨ c2 = 1 by omega) with rfl | rfl
    · rw [nu_cN0 (by omega) (by omega) (by omega) hne.1 hne.2.1 hne.2.2 hq2 hk2]
      by_cases z1 : q2 = b3 C
      · rw [if_pos z1]; exact hT 0 k2 (by decide) hk2
      · rw [if_neg z1]
        by_cases z2 : q2 = b2 C
        · rw [if_pos z2]
          unfold w2f; (repeat' split)
          · exact hO 0 (b2 C) k2 (by decide) (by omega) hk2
          · exact hT 2 k2 (by decide) hk2
          · exact hT 1 k2 (by decide) hk2
        · rw [if_neg z2]
          by_cases z3 : q2 = b1 C
          · rw [if_pos z3]
            unfold w1f
            by_cases y1 : sM C = 1
            · rw [if_pos y1]
              show (if k2 < 2 then wrT C l p x (2 * 4 + k2) else nu (sN C) 0 (b1 C) k2) / 256 ∈ _
              split
              · exact hT 2 k2 (by decide) hk2
              · exact hO 0 (b1 C) k2 (by decide) (by omega) hk2
            · rw [if_neg y1]
              split
              · exact hT 1 k2 (by decide) hk2
              · exact hT 2 k2 (by decide) hk2
          · rw [if_neg z3]; exact hO 0 q2 k2 (by decide) hq2 hk2
    · rw [nu_cN1 (by omega) (by omega) (by omega) hq2 hk2]
      (repeat' split)
      · exact hT 0 k2 (by decide) hk2
      · exact hT 1 k2 (by decide) hk2
      · exact hT 2 k2 (by decide) hk2
      · exact hO 1 q2 k2 (by decide) hq2 hk2
  · intro j hj
    have hj2 : ¬ up (up (up (sU C) (b1 C) 1) (b2 C) 1) (b3 C) 1 j = 0 := hj
    by_cases z1 : j = b1 C
    · rw [z1]; exact List.mem_cons_self
    · by_cases z2 : j = b2 C
      · rw [z2]; exact List.mem_cons_of_mem _ List.mem_cons_self
      · by_cases z3 : j = b3 C
        · rw [z3]; exact List.mem_cons_of_mem _ (List.mem_cons_of_mem _ List.mem_cons_self)
        · rw [up_n _ _ z3, up_n _ _ z2, up_n _ _ z1] at hj2
          exact List.mem_cons_of_mem _ (List.mem_cons_of_mem _ (List.mem_cons_of_mem _ (h5.2.1 j hj2)))
  · intro i hi
    have hi2 : i < sZ C + 1 := hi
    show alt (sb C) (sZ C) (b3 C) i ∈ _
    unfold alt; (repeat' split)
    · exact List.mem_cons_of_mem _ (List.mem_cons_of_mem _ List.mem_cons_self)
    · exact List.mem_cons_of_mem _ (List.mem_cons_of_mem _ (List.mem_cons_of_mem _ (h5.2.2.1 _ (by omega))))
    · omega
  · exact fun j hj => List.mem_cons_of_mem _ (List.mem_cons_of_mem _ (List.mem_cons_of_mem _ (h5.2.2.2 j hj)))
theorem hN_at {j : Nat} : hN 20 j / 256 < 20 := by
  have h1 := s9_lt (j - 64)
  have h2 := s9_lt (j - 448)
  unfold hN
  (repeat' split) <;> omega
theorem LS_0 : LSt C0 0 := by
  refine ⟨C0_IC, fun c b k hc hb hb2 hk => ?_, fun i hi => ?_, List.range 21, 0, 0, 0, 0, ?_, Nat.le_refl 0, Nat.le_refl 0, rfl, fun c b k _ _ _ => ?_, fun j hj => ?_, fun i hi => ?_, fun j hj => ?_⟩
  · show hN 20 ((c * 96 + b) * 4 + k) = 0
    unfold hN
    rw [if_neg (by omega), if_neg (by omega)]
  · have h : i < 1 := hi
    rw [show i = 0 by omega]
    show 20 < 64
    decide
  · rw [List.length_range]; exact Nat.le_refl 21
  · exact List.mem_range.mpr (Nat.lt_trans (hN_at (j := (c * 96 + b) * 4 + k)) (by decide))
  · have hj2 : ¬ (if j < 21 then 1 else 0) = 0 := hj
    refine List.mem_range.mpr ?_
    split at hj2
    · assumption
    · exact absurd rfl hj2
  · have h : i < 1 := hi
    rw [show i = 0 by omega]
    exact List.mem_range.mpr (show 20 < 21 by decide)
  · exact List.mem_range.mpr (by omega)
