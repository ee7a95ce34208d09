/-! the class itself: calls that change its state -/
noncomputable def b1 (C : CS) : Nat := ff (sU C) 96
noncomputable def b2 (C : CS) : Nat := ff (up (sU C) (b1 C) 1) 96
noncomputable def b3 (C : CS) : Nat := ff (up (up (sU C) (b1 C) 1) (b2 C) 1) 96
abbrev wtC (C : CS) (l : Nat) : Nat → Nat := wtc (sN C) (sb C 0) (ss C 0) l
noncomputable def wrT (C : CS) (l p x : Nat) : Nat → Nat := cT3 (wtC C l) l p x (b1 C) (b2 C)
noncomputable def wrS (C : CS) (l p x : Nat) : CS := (cN (sM C) (sN C) (b1 C) (b2 C) (b3 C) (wrT C l p x), up (up (up (sU C) (b1 C) 1) (b2 C) 1) (b3 C) 1, alt (sn C) (sZ C) (sW C + 1), alt (sb C) (sZ C) (b3 C), alt (ss C) (sZ C) (sm (wrT C l p x) (0 * 4)), sZ C + 1, 0, sW C + 1)
noncomputable def wrE (C : CS) (l : Nat) : Int32 := pw (sZ C) (cn (sU C) 96) (spC C 0 l)
theorem pw_ok {z u f : Nat} (h : pw z u f = 0) : z < 8 ∧ 3 ≤ 96 - u ∧ f = 0 := by
  unfold pw at h
  by_cases h1 : 8 ≤ z
  · rw [if_pos h1] at h; exact absurd h (by decide)
  · rw [if_neg h1] at h
    by_cases h2 : 96 - u < 3
    · rw [if_pos h2] at h; exact absurd h (by decide)
    · rw [if_neg h2] at h
      by_cases h3 : f = 0
      · exact ⟨by omega, by omega, h3⟩
      · rw [if_neg h3] at h; exact absurd h (by decide)
abbrev okW (C : CS) (x y z : Int32) : Prop := (rng x 16 ∧ rng y 4 ∧ rng z 1000) ∧ wrE C (dv x) = 0
noncomputable def p_write (C : CS) (x y z : Int32) : Int32 := cI (rng x 16 ∧ rng y 4 ∧ rng z 1000) (cI (wrE C (dv x) = 0) (nI (wtC C (dv x) (2 * 4 + dv y))) (wrE C (dv x))) (-1000001)
def miS (C : CS) (k : Nat) : CS := (sN C, sU C, sn C, sb C, ss C, sZ C, k, sW C)
def nS (C : CS) (N : Nat → Nat) : CS := (N, sU C, sn C, sb C, ss C, sZ C, sM C, sW C)
noncomputable def p_mishap (C : CS) (x : Int32) : Int32 := cI (rng x 4) (nI (sM C)) (-1000001)
abbrev okR (x y z u : Int32) : Prop := rng x 96 ∧ rng y 2 ∧ rng z 4 ∧ rng u 65536
noncomputable def p_rot (C : CS) (x y z u : Int32) : Int32 := cI (okR x y z u) (nI (nu (sN C) (dv y) (dv x) (dv z))) (-1000001)
noncomputable def mdX (N rb rs : Nat → Nat) (r l : Nat) : Nat × (Nat → Nat) := md N (wb N (rb r) (rs r) l) (wtc N (rb r) (rs r) l) (gl N (rb r) (rs r) l)
theorem mdX_BN {N rb rs : Nat → Nat} (h : BN N) (r l : Nat) : BN (mdX N rb rs r l).2 := md_BN h _ (fun _ _ _ _ => wtc_lt h _ _ _ _)
noncomputable def p_mend (C : CS) (x y : Int32) : Int32 := cI (rng x (sZ C) ∧ rng y 16) (nI (mdX (sN C) (sb C) (ss C) (dv x) (dv y)).1) (-1000001)
noncomputable def slf (N rb rs : Nat → Nat) (r : Nat) : Nat → Nat × (Nat → Nat)
  | 0 => (0, N)
  | k + 1 => ((slf N rb rs r k).1 + (mdX (slf N rb rs r k).2 rb rs r k).1, (mdX (slf N rb rs r k).2 rb rs r k).2)
theorem slf_BN {N rb rs : Nat → Nat} (h : BN N) (r : Nat) : ∀ k, BN (slf N rb rs r k).2
  | 0 => h
  | k + 1 => mdX_BN (slf_BN h r k) r k
noncomputable def scf (N rb rs : Nat → Nat) : Nat → Nat × (Nat → Nat)
  | 0 => (0, N)
  | r + 1 => ((scf N rb rs r).1 + (slf (scf N rb rs r).2 rb rs r 16).1, (slf (scf N rb rs r).2 rb rs r 16).2)
theorem scf_BN {N rb rs : Nat → Nat} (h : BN N) : ∀ r, BN (scf N rb rs r).2
  | 0 => h
  | r + 1 => slf_BN (scf_BN h r) r 16
def frS (C : CS) (a k : Nat) : CS := (sN C, su (sN C) (rmi (sb C) a k (sZ C)) (rmi (ss C) a k (sZ C)) (sZ C - k), rmi (sn C) a k (sZ C), rmi (sb C) a k (sZ C), rmi (ss C) a k (sZ C), sZ C - k, sM C, sW C)
theorem rmi_lt {f : Nat → Nat} {a k z b : Nat} (h : ∀ i, i < z → f i < b) {i : Nat} (hi : i < z - k) : rmi f a k z i < b := by
  unfold rmi; split
  · exact h _ (by omega)
  · exact h _ (by omega)
noncomputable def p_free (C : CS) (x : Int32) : Int32 := cI (rng x (sZ C)) (if dv x = 0 then (-1000002) else nI (cw (sU C) (sU (frS C (dv x) 1)) 96)) (-1000001)
noncomputable def p_back (C : CS) (x : Int32) : Int32 := cI (rng x (sZ C)) (if dv x = 0 then nI 0 else nI (cw (sU C) (sU (frS C 0 (dv x))) 96)) (-1000001)
def bkS (C : CS) (k : Nat) : CS := if k = 0 then C else frS C 0 k
def own (C : CS) (r : Nat) : Nat → Nat := ab (sN C) (sb C r) (ss C r) (fun _ => 0)
def owi (C : CS) (r i : Nat) : Nat → Nat := if r < i then own C r else fun _ => 0
def oth (C : CS) (r : Nat) : Nat → (Nat → Nat)
  | 0 => fun _ => 0
  | i + 1 => if i = r then oth C r i else ab (sN C) (sb C i) (ss C i) (oth C r i)
theorem owi_BU (C : CS) (r i : Nat) : BU (owi C r i) := by
  unfold owi; split
  · exact ab_BU (fun _ => Nat.zero_le 1) _ _
  · exact fun _ => Nat.zero_le 1
theorem oth_BU (C : CS) (r : Nat) : ∀ i, BU (oth C r i)
  | 0 => fun _ => Nat.zero_le 1
  | i + 1 => by
    unfold oth; split
    · exact oth_BU C r i
    · exact ab_BU (oth_BU C r i) _ _
noncomputable def rtv (C : CS) (r w : Nat) : Nat := if w = 0 then sn C r else if w = 1 then sb C r else if w = 2 then ss C r else if w = 3 then cn (own C r) 96 else cw (own C r) (oth C r (sZ C)) 96
noncomputable def p_rootOf (C : CS) (x y : Int32) : Int32 := cI (rng x (sZ C) ∧ rng y 5) (nI (rtv C (dv x) (dv y))) (-1000001)
noncomputable def lof (U : Nat → Nat) : Int32 := if ff U 96 < 96 then nI (ff U 96) else (-1000004)
theorem lof_a {U : Nat → Nat} (h : (0 : Int32) ≤ lo U) : lo U = lof U := by
  by_cases h9 : ff U 96 < 96
  · have e1 : lo U = nI (ff U 96) := if_pos h9
    have e2 : lof U = nI (ff U 96) := if_pos h9
    rw [e1, e2]
  · have e1 : lo U = -1 := if_neg h9
    rw [e1] at h
    exact absurd h (by decide)
theorem lof_b {U : Nat → Nat} (h : ¬ (0 : Int32) ≤ lo U) : (-1000004 : Int32) = lof U := by
  by_cases h9 : ff U 96 < 96
  · have e1 : lo U = nI (ff U 96) := if_pos h9
    rw [e1] at h
    exact absurd (nI_pos' (Nat.lt_trans h9 (by decide))) h
  · have e2 : lof U = -1000004 := if_neg h9
    rw [e2]
noncomputable def ctv (C : CS) (hn L w : Nat) : Int32 := if w = 0 then nI (sZ C) else if w = 1 then nI (96 - cn (sU C) 96) else if w = 2 then nI (sM C) else if w = 3 then nI (sW C) else if w = 4 then nI (cu (sN C) (sU C) 96) else if w = 5 then lof (sU C) else if w = 6 then nI hn else nI L
noncomputable def p_count (C : CS) (hn L : Nat) (x : Int32) : Int32 := cI (rng x 8) (ctv C hn L (dv x)) (-1000001)
abbrev typ (x : Int32) : Prop := ¬ x < nI 32 ∧ x ≤ nI 126
theorem typ_of {x : Int32} (h : typ x) : ∃ k : Nat, (32 ≤ k ∧ k ≤ 126) ∧ x = nI k := by
  have h0 : ¬ x < 0 := fun z => h.1 (Int32.lt_iff_toInt_lt.mpr (by
    have := Int32.lt_iff_toInt_lt.mp z
    rw [nI_toInt (by decide)]
    have e : (0 : Int32).toInt = 0 := rfl
    omega))
  obtain ⟨k, hk, rfl⟩ := nI_of h0
  refine ⟨k, ⟨?_, (nI_leI hk (by decide)).mp h.2⟩, rfl⟩
  exact Nat.not_lt.mp (fun z => h.1 ((nI_ltI hk (by decide)).mpr z))
noncomputable def p_type (L : Nat) (x : Int32) : Int32 := cI (typ x) (if L < 60 then nI (L + 1) else (-1000003)) (-1000001)
theorem i2c_ok {k : Nat} (h : k ≤ 126) : ((nI k).toUInt32 % 65536).toInt32 = nI k := by
  rw [pk_char, pk_tn (by omega), Nat.mod_eq_of_lt (by omega)]
set_option maxHeartbeats 4000000 in
set_option maxRecDepth 100000 in
theorem c_X8_lowestFree (l : Launch) (E : En) (o : Nat) (a : Nat → Nat) (b : Nat → Nat) (y0 : Nat) (x0 : Nat) (v0 : Nat) (g0 : Nat) (k0 : Nat) (m0 : Nat) (C : CS) (hI : IC C) : CtI l yX8_lowestFree wsX8_lowestFree ({ frames := 1, cells := 0, slots := 0, locals := 21 } : Room) E [.ref o] [ob 8 o [.ref (a 0), .ref (b 0), .ref y0, .ref x0, .ref v0, .ref g0, .ref k0, .ref m0], ob 5 (a 0) [.ref (a 1), .ref (a 2), .ref (a 3), .int (nI (sM C)), .int (nI (sW C))], ob 1 (a 1) [.ref (a 4)], ai E (a 4) 768 (sN C), ob 0 (a 2) [.ref (a 5)], az E (a 5) 96 (sU C), ob 3 (a 3) [.ref (a 6), .ref (a 7), .ref (a 8), .int (nI (sZ C))], ai E (a 6) 8 (sn C), ai E (a 7) 8 (sb C), ai E (a 8) 8 (ss C)] (fun rr uu => rr = (lof (sU C)) ∧ uu = [ob 8 o [.ref (a 0), .ref (b 0), .ref y0, .ref x0, .ref v0, .ref g0, .ref k0, .ref m0], ob 5 (a 0) [.ref (a 1), .ref (a 2), .ref (a 3), .int (nI (sM C)), .int (nI (sW C))], ob 1 (a 1) [.ref (a 4)], ai E (a 4) 768 (sN C), ob 0 (a 2) [.ref (a 5)], az E (a 5) 96 (sU C), ob 3 (a 3) [.ref (a 6), .ref (a 7), .ref (a 8), .int (nI (sZ C))], ai E (a 6) 8 (sn C), ai E (a 7) 8 (sb C), ai E (a 8) 8 (ss C)]) := by
  refine CtI.of cX8_lowestFree 2 RX8 .int rfl (by decide) rfl (Or.inl rfl) (Nat.le_of_ble_eq_true rfl) (fun h => by cases h) ?_
  intro Γ F hret
  show G Γ E 0 0 0 [(0, .ref o)] [] [ob 8 o [.ref (a 0), .ref (b 0), .ref y0, .ref x0, .ref v0, .ref g0, .ref k0, .ref m0], ob 5 (a 0) [.ref (a 1), .ref (a 2), .ref (a 3), .int (nI (sM C)), .int (nI (sW C))], ob 1 (a 1) [.ref (a 4)], ai E (a 4) 768 (sN C), ob 0 (a 2) [.ref (a 5)], az E (a 5) 96 (sU C), ob 3 (a 3) [.ref (a 6), .ref (a 7), .ref (a 8), .int (nI (sZ C))], ai E (a 6) 8 (sn C), ai E (a 7) 8 (sb C), ai E (a 8) 8 (ss C)]
  refine g_aload_n F 0 dX8_lowestFree_0 rfl rfl ?_
  refine g_get F 0 0 dX8_lowestFree_1 rfl rfl (by decide) (by decide +kernel) (by decide +kernel) rfl ?_
  refine g_getN (host := "SummedParents") F 1 1 dX8_lowestFree_4 rfl rfl (by decide) (by decide +kernel) (by decide +kernel) rfl ?_
  refine g_callViR (n := 0) F [4, 5] (c_X0_lowestOutside l E (a 2) (a 5) (sU C) (by first | assumption | exact hI.1 | exact hI.2.1)) dX8_lowestFree_7 rfl (by decide) rfl rfl rfl (Nat.le_of_ble_eq_true rfl) ⟨Nat.le_of_ble_eq_true rfl, Nat.le_of_ble_eq_true rfl⟩ rfl rfl ⟨Nat.le_of_ble_eq_true rfl, Nat.le_of_ble_eq_true rfl⟩ 4 rfl rfl gX8_lowestFree_X0_lowestOutside (by decide +kernel) (fun r u hp => by obtain ⟨-, h⟩ := hp; exact h) ?_
  rintro r_7 u_7 ⟨rfl, -⟩
  refine g_istore_n (lv2 := [(1, .int (lo (sU C))), (0, .ref o)]) F dX8_lowestFree_10 rfl (by decide) rfl ?_
  refine g_iload_n F 0 dX8_lowestFree_11 rfl rfl ?_
  refine g_if_ge (tgt := 20) F dX8_lowestFree_12 (by decide) (fun c12 => ?_) (fun c12 => ?_)
  · skip
    refine g_iload_n F 0 dX8_lowestFree_20 rfl rfl ?_
    exact hret _ _ _ _ dX8_lowestFree_21 ⟨(by first | exact lof_a c12 | exact lof_b c12), rfl⟩
  · skip
    refine g_ldc (v := (-1000004)) F dX8_lowestFree_15 (by decide +kernel) ?_
    refine g_goto (tgt := 21) F dX8_lowestFree_17 (by decide) ?_
    exact hret _ _ _ _ dX8_lowestFree_21 ⟨(by first | exact lof_a c12 | exact lof_b c12), rfl⟩
set_option maxHeartbeats 4000000 in
set_option maxRecDepth 100000 in
theorem c_X8_count (l : Launch) (E : En) (o : Nat) (a : Nat → Nat) (b : Nat → Nat) (y0 : Nat) (x0 : Nat) (v0 : Nat) (g0 : Nat) (k0 : Nat) (m0 : Nat) (C : CS) (y1 : Nat) (hn : Nat) (tc : Nat) (L : Nat) (ta : Nat) (br : Nat) (lf : Nat) (pl : Nat) (vl : Nat) (x1 : Int32) (hI : IC C) : CtI l yX8_count wsX8_count ({ frames := 4, cells := 0, slots := 0, locals := 90 } : Room) E [.ref o, .int (x1)] [ob 8 o [.ref (a 0), .ref (b 0), .ref y0, .ref x0, .ref v0, .ref g0, .ref k0, .ref m0], ob 5 (a 0) [.ref (a 1), .ref (a 2), .ref (a 3), .int (nI (sM C)), .int (nI (sW C))], ob 1 (a 1) [.ref (a 4)], ai E (a 4) 768 (sN C), ob 0 (a 2) [.ref (a 5)], az E (a 5) 96 (sU C), ob 3 (a 3) [.ref (a 6), .ref (a 7), .ref (a 8), .int (nI (sZ C))], ai E (a 6) 8 (sn C), ai E (a 7) 8 (sb C), ai E (a 8) 8 (ss C), ob 2 y0 [.ref y1, .int (nI hn)], ob 4 x0 [.ref tc, .int (nI L), .int (nI ta), .int (nI br), .int (nI lf), .int (nI pl), .int (nI vl)]] (fun rr uu => rr = (p_count C hn L x1) ∧ uu = [ob 8 o [.ref (a 0), .ref (b 0), .ref y0, .ref x0, .ref v0, .ref g0, .ref k0, .ref m0], ob 5 (a 0) [.ref (a 1), .ref (a 2), .ref (a 3), .int (nI (sM C)), .int (nI (sW C))], ob 1 (a 1) [.ref (a 4)], ai E (a 4) 768 (sN C), ob 0 (a 2) [.ref (a 5)], az E (a 5) 96 (sU C), ob 3 (a 3) [.ref (a 6), .ref (a 7), .ref (a 8), .int (nI (sZ C))], ai E (a 6) 8 (sn C), ai E (a 7) 8 (sb C), ai E (a 8) 8 (ss C), ob 2 y0 [.ref y1, .int (nI hn)], ob 4 x0 [.ref tc, .int (nI L), .int (nI ta), .int (nI br), .int (nI lf), .int (nI pl), .int (nI vl)]]) := by
  refine CtI.of cX8_count 2 RX8 .int rfl (by decide) rfl (Or.inl rfl) (Nat.le_of_ble_eq_true rfl) (fun h => by cases h) ?_
  intro Γ F hret
  show G Γ E 0 0 0 [(0, .ref o), (1, .int (x1))] [] [ob 8 o [.ref (a 0), .ref (b 0), .ref y0, .ref x0, .ref v0, .ref g0, .ref k0, .ref m0], ob 5 (a 0) [.ref (a 1), .ref (a 2), .ref (a 3), .int (nI (sM C)), .int (nI (sW C))], ob 1 (a 1) [.ref (a 4)], ai E (a 4) 768 (sN C), ob 0 (a 2) [.ref (a 5)], az E (a 5) 96 (sU C), ob 3 (a 3) [.ref (a 6), .ref (a 7), .ref (a 8), .int (nI (sZ C))], ai E (a 6) 8 (sn C), ai E (a 7) 8 (sb C), ai E (a 8) 8 (ss C), ob 2 y0 [.ref y1, .int (nI hn)], ob 4 x0 [.ref tc, .int (nI L), .int (nI ta), .int (nI br), .int (nI lf), .int (nI pl), .int (nI vl)]]
  refine g_iload_n F 1 dX8_count_0 rfl rfl ?_
  by_cases hsw : rng x1 8
  · obtain ⟨w, hw, rfl⟩ := rng_of (by decide) hsw
    rcases (show w = 0 ∨ w = 1 ∨ w = 2 ∨ w = 3 ∨ w = 4 ∨ w = 5 ∨ w = 6 ∨ w = 7 by omega) with rfl | rfl | rfl | rfl | rfl | rfl | rfl | rfl
    · refine g_tabIn (off := 47) (tgt := 48) F dX8_count_1 (by decide) (by decide) (by decide) (by decide) ?_
      refine g_aload_n F 0 dX8_count_48 rfl rfl ?_
      refine g_get F 0 0 dX8_count_49 rfl rfl (by decide) (by decide +kernel) (by decide +kernel) rfl ?_
      refine g_getN (host := "SummedParents") F 1 2 dX8_count_52 rfl rfl (by decide) (by decide +kernel) (by decide +kernel) rfl ?_
      refine g_callViR (n := 0) F [6] (c_X3_size l E (a 3) (a 6) (a 7) (a 8) (sZ C) ) dX8_count_55 rfl (by decide) rfl rfl rfl (Nat.le_of_ble_eq_true rfl) ⟨Nat.le_of_ble_eq_true rfl, Nat.le_of_ble_eq_true rfl⟩ rfl rfl ⟨Nat.le_of_ble_eq_true rfl, Nat.le_of_ble_eq_true rfl⟩ 6 rfl rfl gX8_count_X3_size (by decide +kernel) (fun r u hp => by obtain ⟨-, h⟩ := hp; exact h) ?_
      rintro r_55 u_55 ⟨rfl, -⟩
      exact hret _ _ _ _ dX8_count_58 ⟨(by unfold p_count ctv; rw [cI_pos ((rng_nI (by decide) (by decide)).mpr (by decide)), dv_nI (by decide)]; rfl), rfl⟩
    · refine g_tabIn (off := 58) (tgt := 59) F dX8_count_1 (by decide) (by decide) (by decide) (by decide) ?_
      refine g_bipush (v := nI 96) F dX8_count_59 (by decide) ?_
      refine g_aload_n F 0 dX8_count_61 rfl rfl ?_
      refine g_get F 0 0 dX8_count_62 rfl rfl (by decide) (by decide +kernel) (by decide +kernel) rfl ?_
      refine g_getN (host := "SummedParents") F 1 1 dX8_count_65 rfl rfl (by decide) (by decide +kernel) (by decide +kernel) rfl ?_
      refine g_callViR (n := 0) F [4, 5] (c_X0_size l E (a 2) (a 5) (sU C) (by first | assumption | exact hI.1 | exact hI.2.1)) dX8_count_68 rfl (by decide) rfl rfl rfl (Nat.le_of_ble_eq_true rfl) ⟨Nat.le_of_ble_eq_true rfl, Nat.le_of_ble_eq_true rfl⟩ rfl rfl ⟨Nat.le_of_ble_eq_true rfl, Nat.le_of_ble_eq_true rfl⟩ 4 rfl rfl gX8_count_X0_size (by decide +kernel) (fun r u hp => by obtain ⟨-, h⟩ := hp; exact h) ?_
      rintro r_68 u_68 ⟨rfl, -⟩
      have := cn_le (sU C) 96
      refine g_isubN F dX8_count_71 (by omega) ?_
      exact hret _ _ _ _ dX8_count_72 ⟨(by unfold p_count ctv; rw [cI_pos ((rng_nI (by decide) (by decide)).mpr (by decide)), dv_nI (by decide)]; rfl), rfl⟩
    · refine g_tabIn (off := 72) (tgt := 73) F dX8_count_1 (by decide) (by decide) (by decide) (by decide) ?_
      refine g_aload_n F 0 dX8_count_73 rfl rfl ?_
      refine g_get F 0 0 dX8_count_74 rfl rfl (by decide) (by decide +kernel) (by decide +kernel) rfl ?_
      refine g_getN (host := "SummedParents") F 1 3 dX8_count_77 rfl rfl (by decide) (by decide +kernel) (by decide +kernel) rfl ?_
      exact hret _ _ _ _ dX8_count_80 ⟨(by unfold p_count ctv; rw [cI_pos ((rng_nI (by decide) (by decide)).mpr (by decide)), dv_nI (by decide)]; rfl), rfl⟩
    · refine g_tabIn (off := 80) (tgt := 81) F dX8_count_1 (by decide) (by decide) (by decide) (by decide) ?_
      refine g_aload_n F 0 dX8_count_81 rfl rfl ?_
      refine g_get F 0 0 dX8_count_82 rfl rfl (by decide) (by decide +kernel) (by decide +kernel) rfl ?_
      refine g_getN (host := "SummedParents") F 1 4 dX8_count_85 rfl rfl (by decide) (by decide +kernel) (by decide +kernel) rfl ?_
      exact hret _ _ _ _ dX8_count_88 ⟨(by unfold p_count ctv; rw [cI_pos ((rng_nI (by decide) (by decide)).mpr (by decide)), dv_nI (by decide)]; rfl), rfl⟩
    · refine g_tabIn (off := 88) (tgt := 89) F dX8_count_1 (by decide) (by decide) (by decide) (by decide) ?_
      refine g_aload_n F 0 dX8_count_89 rfl rfl ?_
      refine g_get F 0 0 dX8_count_90 rfl rfl (by decide) (by decide +kernel) (by decide +kernel) rfl ?_
      refine g_callViR (n := 0) F [1, 2, 3, 4, 5] (c_X5_unlikeInUse l E (a 0) (a 1) (a 2) (a 3) (a 4) (a 5) (sM C) (sW C) (sN C) (sU C) (by first | assumption | exact hI.1 | exact hI.2.1) (by first | assumption | exact hI.1 | exact hI.2.1)) dX8_count_93 rfl (by decide) rfl rfl rfl (Nat.le_of_ble_eq_true rfl) ⟨Nat.le_of_ble_eq_true rfl, Nat.le_of_ble_eq_true rfl⟩ rfl rfl ⟨Nat.le_of_ble_eq_true rfl, Nat.le_of_ble_eq_true rfl⟩ 1 rfl rfl gX8_count_X5_unlikeInUse (by decide +kernel) (fun r u hp => by obtain ⟨-, h⟩ := hp; exact h) ?_
      rintro r_93 u_93 ⟨rfl, -⟩
      exact hret _ _ _ _ dX8_count_96 ⟨(by unfold p_count ctv; rw [cI_pos ((rng_nI (by decide) (by decide)).mpr (by decide)), dv_nI (by decide)]; rfl), rfl⟩
    · refine g_tabIn (off := 96) (tgt := 97) F dX8_count_1 (by decide) (by decide) (by decide) (by decide) ?_
      refine g_aload_n F 0 dX8_count_97 rfl rfl ?_
      refine g_callViR (n := 0) F [0, 1, 2, 3, 4, 5, 6, 7, 8, 9] (c_X8_lowestFree l E o a b y0 x0 v0 g0 k0 m0 C (by first | assumption | exact hI.1 | exact hI.2.1)) dX8_count_98 rfl (by decide) rfl rfl rfl (Nat.le_of_ble_eq_true rfl) ⟨Nat.le_of_ble_eq_true rfl, Nat.le_of_ble_eq_true rfl⟩ rfl rfl ⟨Nat.le_of_ble_eq_true rfl, Nat.le_of_ble_eq_true rfl⟩ 0 rfl rfl gX8_count_X8_lowestFree (by decide +kernel) (fun r u hp => by obtain ⟨-, h⟩ := hp; exact h) ?_
      rintro r_98 u_98 ⟨rfl, -⟩
      exact hret _ _ _ _ dX8_count_101 ⟨(by unfold p_count ctv; rw [cI_pos ((rng_nI (by decide) (by decide)).mpr (by decide)), dv_nI (by decide)]; rfl), rfl⟩
    · refine g_tabIn (off := 101) (tgt := 102) F dX8_count_1 (by decide) (by decide) (by decide) (by decide) ?_
      refine g_aload_n F 0 dX8_count_102 rfl rfl ?_
      refine g_get F 0 2 dX8_count_103 rfl rfl (by decide) (by decide +kernel) (by decide +kernel) rfl ?_
      refine g_callViR (n := 0) F [10] (c_X2_size l E y0 y1 hn ) dX8_count_106 rfl (by decide) rfl rfl rfl (Nat.le_of_ble_eq_true rfl) ⟨Nat.le_of_ble_eq_true rfl, Nat.le_of_ble_eq_true rfl⟩ rfl rfl ⟨Nat.le_of_ble_eq_true rfl, Nat.le_of_ble_eq_true rfl⟩ 10 rfl rfl gX8_count_X2_size (by decide +kernel) (fun r u hp => by obtain ⟨-, h⟩ := hp; exact h) ?_
      rintro r_106 u_106 ⟨rfl, -⟩
      exact hret _ _ _ _ dX8_count_109 ⟨(by unfold p_count ctv; rw [cI_pos ((rng_nI (by decide) (by decide)).mpr (by decide)), dv_nI (by decide)]; rfl), rfl⟩
    · refine g_tabIn (off := 109) (tgt := 110) F dX8_count_1 (by decide) (by decide) (by decide) (by decide) ?_
      refine g_aload_n F 0 dX8_count_110 rfl rfl ?_
      refine g_get F 0 3 dX8_count_111 rfl rfl (by decide) (by decide +kernel) (by decide +kernel) rfl ?_
      refine g_callViR (n := 0) F [11] (c_X4_length l E x0 tc L ta br lf pl vl ) dX8_count_114 rfl (by decide) rfl rfl rfl (Nat.le_of_ble_eq_true rfl) ⟨Nat.le_of_ble_eq_true rfl, Nat.le_of_ble_eq_true rfl⟩ rfl rfl ⟨Nat.le_of_ble_eq_true rfl, Nat.le_of_ble_eq_true rfl⟩ 11 rfl rfl gX8_count_X4_length (by decide +kernel) (fun r u hp => by obtain ⟨-, h⟩ := hp; exact h) ?_
      rintro r_114 u_114 ⟨rfl, -⟩
      exact hret _ _ _ _ dX8_count_117 ⟨(by unfold p_count ctv; rw [cI_pos ((rng_nI (by decide) (by decide)).mpr (by decide)), dv_nI (by decide)]; rfl), rfl⟩
  · refine g_tabOut (tgt := 118) F dX8_count_1 (rng_out (by decide) hsw) (by decide) ?_
    refine g_ldc (v := (-1000001)) F dX8_count_118 (by decide +kernel) ?_
    exact hret _ _ _ _ dX8_count_120 ⟨(by unfold p_count; rw [cI_neg hsw]), rfl⟩
