/-! the reference's calls: all roots, all leaves -/
theorem IC_scf {C : CS} (h : IC C) (r : Nat) : IC (nS C (scf (sN C) (sb C) (ss C) r).2) := IC_nS h (scf_BN h.1 r)
theorem IC_slf {C : CS} (h : IC C) (r k : Nat) : IC (nS C (slf (scf (sN C) (sb C) (ss C) r).2 (sb C) (ss C) r k).2) := IC_nS h (slf_BN (scf_BN h.1 r) r k)
def bk (C : CS) (i : Nat) : CS := (sN C, sU C, rmi (sn C) 0 i (sZ C), rmi (sb C) 0 i (sZ C), rmi (ss C) 0 i (sZ C), sZ C - i, sM C, sW C)
theorem rmi_00 (f : Nat → Nat) (z : Nat) : rmi f 0 0 z = f := by
  funext j
  unfold rmi; split <;> rfl
theorem rmi_ss (f : Nat → Nat) {i z j : Nat} (h : j < z - i - 1) : rmi (rmi f 0 i z) 0 1 (z - i) j = rmi f 0 (i + 1) z j := by
  unfold rmi
  rw [if_pos (by omega), if_pos (by omega), if_pos (by omega), show j + 1 + i = j + (i + 1) by omega]
theorem bk_0 {S : Nat → Nat} {C : CS} (h : Rel S C) : Rel S (bk C 0) := h.congr (fun _ _ => rfl) (fun _ _ => rfl) rfl rfl rfl (fun i _ => by
  show sn C i = rmi (sn C) 0 0 (sZ C) i ∧ sb C i = rmi (sb C) 0 0 (sZ C) i ∧ ss C i = rmi (ss C) 0 0 (sZ C) i
  rw [rmi_00, rmi_00, rmi_00]; exact ⟨rfl, rfl, rfl⟩)
theorem bk_0' {S : Nat → Nat} {C : CS} (h : Rel S (bk C 0)) : Rel S C := h.congr (fun _ _ => rfl) (fun _ _ => rfl) rfl rfl rfl (fun i _ => by
  show rmi (sn C) 0 0 (sZ C) i = sn C i ∧ rmi (sb C) 0 0 (sZ C) i = sb C i ∧ rmi (ss C) 0 0 (sZ C) i = ss C i
  rw [rmi_00, rmi_00, rmi_00]; exact ⟨rfl, rfl, rfl⟩)
theorem bk_s {S : Nat → Nat} {C : CS} {i : Nat} (h : Rel S (drS (bk C i) 0)) : Rel S (bk C (i + 1)) := h.congr (fun _ _ => rfl) (fun _ _ => rfl) (by show sZ C - i - 1 = sZ C - (i + 1); omega) rfl rfl (fun j hj => by
  have hj2 : j < sZ C - i - 1 := hj
  exact ⟨rmi_ss (sn C) hj2, rmi_ss (sb C) hj2, rmi_ss (ss C) hj2⟩)
theorem IC_bk {C : CS} (h : IC C) {r : Nat} (hr : r < sZ C) : IC (bk C r) := by
  refine ⟨h.1, h.2.1, ?_, ?_, h.2.2.2.2.1, fun i hi => rmi_lt (fun j hj => h.rb hj) hi, fun i hi => rmi_lt (fun j hj => h.rs hj) hi⟩
  · show 1 ≤ sZ C - r; omega
  · have := h.2.2.2.1
    show sZ C - r ≤ 8; omega
noncomputable def owc (C : CS) (r a i : Nat) : Nat := if a = 0 then cn (own C r) i else cw (own C r) (oth C r (sZ C)) i
set_option maxHeartbeats 4000000 in
set_option maxRecDepth 100000 in
theorem c_X9_scrub (l : Launch) (E : En) (q : Nat) (r : Nat → Nat) (rc : Nat) (tl : Nat) (at9 : Nat) (lf9 : Int32) (pl9 : Int32) (vl9 : Int32) (fa : Nat) (rs9 : Nat) (cs : Int32) (dn : Nat) (S : Nat → Nat) (C : CS) (B : Nat → Nat) (Q : Nat → Nat) (K : Nat → Int32) (F0 : Nat → Nat) (HH : Nat → Nat) (H : Nat → CS) (hR : Rel S C) (hI : IC C) (hRH : RelH HH H rc) (hrc : rc ≤ 3) : CtI l yX9_scrub wsX9_scrub ({ frames := 5, cells := 0, slots := 0, locals := 116 } : Room) E [.ref q] [ob 9 q [.ref (r 0), .ref (r 1), .ref (r 2), .int (nI rc), .ref (r 3), .int (nI tl), .ref (r 4), .ref (r 5), .ref (r 6), .ref (r 7), .ref (r 8), .ref (r 9), .ref (r 10), .ref (r 11), .ref (r 12), .int (nI at9), .int (lf9), .int (pl9), .int (vl9), .int (nI fa), .int (nI rs9), .int (cs), .int (nI dn)], ai E (r 0) 892 S, ai E (r 4) 3 B, ai E (r 5) 3 Q, ax E (r 6) 3 K, ai E (r 7) 12 F0, ai E (r 2) 2676 HH] (fun rr uu => ∃ (S2 : Nat → Nat), ∃ (B2 : Nat → Nat), ∃ (Q2 : Nat → Nat), ∃ (K2 : Nat → Int32), ∃ (F2 : Nat → Nat), ∃ (H2 : Nat → Nat), (Rel S2 (nS C (scf (sN C) (sb C) (ss C) (sZ C)).2)) ∧ (RelH H2 (rcH C H rc) (rcn rc)) ∧ rr = (nI ((scf (sN C) (sb C) (ss C) (sZ C)).1)) ∧ uu = [ob 9 q [.ref (r 0), .ref (r 1), .ref (r 2), .int (nI (rcn rc)), .ref (r 3), .int (nI tl), .ref (r 4), .ref (r 5), .ref (r 6), .ref (r 7), .ref (r 8), .ref (r 9), .ref (r 10), .ref (r 11), .ref (r 12), .int (nI at9), .int (lf9), .int (pl9), .int (vl9), .int (nI fa), .int (nI rs9), .int (cs), .int (nI dn)], ai E (r 0) 892 S2, ai E (r 4) 3 B2, ai E (r 5) 3 Q2, ax E (r 6) 3 K2, ai E (r 7) 12 F2, ai E (r 2) 2676 H2]) := by
  refine CtI.of cX9_scrub 4 RX9 .int rfl (by decide) rfl (Or.inl rfl) (Nat.le_of_ble_eq_true rfl) (fun h => by cases h) ?_
  intro Γ F hret
  show G Γ E 0 0 0 [(0, .ref q)] [] [ob 9 q [.ref (r 0), .ref (r 1), .ref (r 2), .int (nI rc), .ref (r 3), .int (nI tl), .ref (r 4), .ref (r 5), .ref (r 6), .ref (r 7), .ref (r 8), .ref (r 9), .ref (r 10), .ref (r 11), .ref (r 12), .int (nI at9), .int (lf9), .int (pl9), .int (vl9), .int (nI fa), .int (nI rs9), .int (cs), .int (nI dn)], ai E (r 0) 892 S, ai E (r 4) 3 B, ai E (r 5) 3 Q, ax E (r 6) 3 K, ai E (r 7) 12 F0, ai E (r 2) 2676 HH]
  have hz8 := hI.2.2.2.1
  refine g_aload_n F 0 dX9_scrub_0 rfl rfl ?_
  refine g_callVvW (n := 0) F [0, 1, 6] (c_X9_record l E q r rc tl at9 lf9 pl9 vl9 fa rs9 cs dn S C HH H (by assumption) (by assumption) (by assumption) (by omega)) dX9_scrub_1 rfl (by decide) rfl rfl rfl (Nat.le_of_ble_eq_true rfl) ⟨Nat.le_of_ble_eq_true rfl, Nat.le_of_ble_eq_true rfl⟩ rfl rfl ⟨Nat.le_of_ble_eq_true rfl, Nat.le_of_ble_eq_true rfl⟩ 0 rfl rfl gX9_scrub_X9_record (by decide +kernel) (fun u hp => by obtain ⟨_, -, rfl⟩ := hp; rfl) ?_
  rintro u_1 ⟨H2_1, hRH2_1, rfl⟩
  refine g_ws (w2 := [ob 9 q [.ref (r 0), .ref (r 1), .ref (r 2), .int (nI (rcn rc)), .ref (r 3), .int (nI tl), .ref (r 4), .ref (r 5), .ref (r 6), .ref (r 7), .ref (r 8), .ref (r 9), .ref (r 10), .ref (r 11), .ref (r 12), .int (nI at9), .int (lf9), .int (pl9), .int (vl9), .int (nI fa), .int (nI rs9), .int (cs), .int (nI dn)], ai E (r 0) 892 S, ai E (r 4) 3 B, ai E (r 5) 3 Q, ax E (r 6) 3 K, ai E (r 7) 12 F0, ai E (r 2) 2676 H2_1]) rfl ?_
  refine g_iconst (v := nI 0) F dX9_scrub_4 (by decide) ?_
  refine g_istore_n (lv2 := [(1, .int (nI 0)), (0, .ref q)]) F dX9_scrub_5 rfl (by decide) rfl ?_
  refine g_iconst (v := nI 0) F dX9_scrub_6 (by decide) ?_
  refine g_istore_n (lv2 := [(2, .int (nI 0)), (1, .int (nI 0)), (0, .ref q)]) F dX9_scrub_7 rfl (by decide) rfl ?_
  have loop8 : ∀ (n : Nat) (r1 : Nat) (zz : Nat) (Sv : Nat → Nat) (Bv : Nat → Nat) (Qv : Nat → Nat) (Kv : Nat → Int32) (Fv : Nat → Nat), sZ C - r1 < n → (r1 ≤ sZ C) → (zz = (scf (sN C) (sb C) (ss C) r1).1) → (Rel Sv (nS C (scf (sN C) (sb C) (ss C) r1).2)) → G Γ E 0 0 8 [(0, .ref q), (1, .int (nI zz)), (2, .int (nI r1))] [] [ob 9 q [.ref (r 0), .ref (r 1), .ref (r 2), .int (nI (rcn rc)), .ref (r 3), .int (nI tl), .ref (r 4), .ref (r 5), .ref (r 6), .ref (r 7), .ref (r 8), .ref (r 9), .ref (r 10), .ref (r 11), .ref (r 12), .int (nI at9), .int (lf9), .int (pl9), .int (vl9), .int (nI fa), .int (nI rs9), .int (cs), .int (nI dn)], ai E (r 0) 892 Sv, ai E (r 4) 3 Bv, ai E (r 5) 3 Qv, ax E (r 6) 3 Kv, ai E (r 7) 12 Fv, ai E (r 2) 2676 H2_1] := by
    intro n
    induction n with
    | zero => intro r1 zz Sv Bv Qv Kv Fv hz; exact absurd hz (Nat.not_lt_zero _)
    | succ n ih8 =>
      intro r1 zz Sv Bv Qv Kv Fv hz8 hr1 hz hS
      refine g_iload_n F 2 dX9_scrub_8 rfl rfl ?_
      refine g_aload_n F 0 dX9_scrub_9 rfl rfl ?_
      refine g_get F 0 0 dX9_scrub_10 rfl rfl (by decide) (by decide +kernel) (by decide +kernel) rfl ?_
      refine g_sipush (v := nI 864) F dX9_scrub_13 (by decide) ?_
      refine g_iald F 1 dX9_scrub_16 rfl (by omega) (by decide) ?_
      refine g_top (nI (Sv 864)) (nI (sZ C)) (by rw [hS.2.2.1]; rfl) ?_
      refine g_icmp_geN (tgt := 49) F dX9_scrub_17 (by decide) (by omega) (by omega) (fun c17 => ?_) (fun c17 => ?_)
      · skip
        refine g_iload_n F 1 dX9_scrub_49 rfl rfl ?_
        exact hret _ _ _ _ dX9_scrub_50 ⟨Sv, Bv, Qv, Kv, Fv, H2_1, (by have e9 : r1 = sZ C := (by omega); rw [e9] at hS; exact hS), (by exact hRH2_1), (congrArg nI (by rw [hz, show r1 = sZ C by omega])), (by rfl)⟩
      · skip
        refine g_iconst (v := nI 0) F dX9_scrub_20 (by decide) ?_
        refine g_istore_n (lv2 := [(3, .int (nI 0)), (0, .ref q), (1, .int (nI zz)), (2, .int (nI r1))]) F dX9_scrub_21 rfl (by decide) rfl ?_
        have loop22 : ∀ (n : Nat) (i : Nat) (yy : Nat) (Sw : Nat → Nat) (Bw : Nat → Nat) (Qw : Nat → Nat) (Kw : Nat → Int32) (Fw : Nat → Nat), 16 - i < n → (i ≤ 16) → (yy = zz + (slf (scf (sN C) (sb C) (ss C) r1).2 (sb C) (ss C) r1 i).1) → (Rel Sw (nS C (slf (scf (sN C) (sb C) (ss C) r1).2 (sb C) (ss C) r1 i).2)) → G Γ E 0 0 22 [(0, .ref q), (1, .int (nI yy)), (2, .int (nI r1)), (3, .int (nI i))] [] [ob 9 q [.ref (r 0), .ref (r 1), .ref (r 2), .int (nI (rcn rc)), .ref (r 3), .int (nI tl), .ref (r 4), .ref (r 5), .ref (r 6), .ref (r 7), .ref (r 8), .ref (r 9), .ref (r 10), .ref (r 11), .ref (r 12), .int (nI at9), .int (lf9), .int (pl9), .int (vl9), .int (nI fa), .int (nI rs9), .int (cs), .int (nI dn)], ai E (r 0) 892 Sw, ai E (r 4) 3 Bw, ai E (r 5) 3 Qw, ax E (r 6) 3 Kw, ai E (r 7) 12 Fw, ai E (r 2) 2676 H2_1] := by
          intro n
          induction n with
          | zero => intro i yy Sw Bw Qw Kw Fw hz; exact absurd hz (Nat.not_lt_zero _)
          | succ n ih22 =>
            intro i yy Sw Bw Qw Kw Fw hz22 hi hy hS3
            refine g_iload_n F 3 dX9_scrub_22 rfl rfl ?_
            refine g_bipush (v := nI 16) F dX9_scrub_23 (by decide) ?_
            refine g_icmp_geN (tgt := 43) F dX9_scrub_25 (by decide) (by omega) (by omega) (fun c25 => ?_) (fun c25 => ?_)
            · skip
              refine g_iinc (k := 2) (v := nI (r1 + 1)) (lv2 := [(2, .int (nI (r1 + 1))), (0, .ref q), (1, .int (nI yy)), (3, .int (nI i))]) F dX9_scrub_43 rfl (nI_1 _) (by decide) rfl ?_
              refine g_goto (tgt := 8) F dX9_scrub_46 (by decide) ?_
              refine g_lv [1, 2, 0] rfl ?_
              exact ih8 (r1 + 1) yy Sw Bw Qw Kw Fw (by omega) (by omega) (by rw [hy, show i = 16 by omega, hz]; rfl) (by have e9 : i = 16 := (by omega); rw [e9] at hS3; exact hS3)
            · skip
              refine g_iload_n F 1 dX9_scrub_28 rfl rfl ?_
              refine g_aload_n F 0 dX9_scrub_29 rfl rfl ?_
              refine g_iload_n F 2 dX9_scrub_30 rfl rfl ?_
              refine g_iload_n F 3 dX9_scrub_31 rfl rfl ?_
              refine g_callViW (n := 2) F [0, 1, 2, 3, 4, 5] (c_X9_mendWay l E q r (rcn rc) tl at9 lf9 pl9 vl9 fa rs9 cs dn Sw (nS C (slf (scf (sN C) (sb C) (ss C) r1).2 (sb C) (ss C) r1 i).2) Bw Qw Kw Fw r1 i (by exact hS3) (by exact IC_slf hI _ _) (by exact c17) (by omega)) dX9_scrub_32 rfl (by decide) rfl rfl rfl (Nat.le_of_ble_eq_true rfl) ⟨Nat.le_of_ble_eq_true rfl, Nat.le_of_ble_eq_true rfl⟩ rfl rfl ⟨Nat.le_of_ble_eq_true rfl, Nat.le_of_ble_eq_true rfl⟩ 0 rfl rfl gX9_scrub_X9_mendWay (by decide +kernel) (fun r u hp => by obtain ⟨_, _, _, _, _, -, -, rfl⟩ := hp; rfl) ?_
              rintro r_32 u_32 ⟨S2_32, B2_32, Q2_32, K2_32, F2_32, hR2_32, rfl, rfl⟩
              refine g_ws (w2 := [ob 9 q [.ref (r 0), .ref (r 1), .ref (r 2), .int (nI (rcn rc)), .ref (r 3), .int (nI tl), .ref (r 4), .ref (r 5), .ref (r 6), .ref (r 7), .ref (r 8), .ref (r 9), .ref (r 10), .ref (r 11), .ref (r 12), .int (nI at9), .int (lf9), .int (pl9), .int (vl9), .int (nI fa), .int (nI rs9), .int (cs), .int (nI dn)], ai E (r 0) 892 S2_32, ai E (r 4) 3 B2_32, ai E (r 5) 3 Q2_32, ax E (r 6) 3 K2_32, ai E (r 7) 12 F2_32, ai E (r 2) 2676 H2_1]) rfl ?_
              refine g_iaddN F dX9_scrub_35 ?_
              refine g_istore_n (lv2 := [(1, .int (nI (yy + ((mdX (sN (nS C (slf (scf (sN C) (sb C) (ss C) r1).2 (sb C) (ss C) r1 i).2)) (sb (nS C (slf (scf (sN C) (sb C) (ss C) r1).2 (sb C) (ss C) r1 i).2)) (ss (nS C (slf (scf (sN C) (sb C) (ss C) r1).2 (sb C) (ss C) r1 i).2)) r1 i).1)))), (0, .ref q), (2, .int (nI r1)), (3, .int (nI i))]) F dX9_scrub_36 rfl (by decide) rfl ?_
              refine g_iinc (k := 3) (v := nI (i + 1)) (lv2 := [(3, .int (nI (i + 1))), (1, .int (nI (yy + ((mdX (sN (nS C (slf (scf (sN C) (sb C) (ss C) r1).2 (sb C) (ss C) r1 i).2)) (sb (nS C (slf (scf (sN C) (sb C) (ss C) r1).2 (sb C) (ss C) r1 i).2)) (ss (nS C (slf (scf (sN C) (sb C) (ss C) r1).2 (sb C) (ss C) r1 i).2)) r1 i).1)))), (0, .ref q), (2, .int (nI r1))]) F dX9_scrub_37 rfl (nI_1 _) (by decide) rfl ?_
              refine g_goto (tgt := 22) F dX9_scrub_40 (by decide) ?_
              refine g_lv [2, 1, 3, 0] rfl ?_
              exact ih22 (i + 1) (yy + ((mdX (sN (nS C (slf (scf (sN C) (sb C) (ss C) r1).2 (sb C) (ss C) r1 i).2)) (sb (nS C (slf (scf (sN C) (sb C) (ss C) r1).2 (sb C) (ss C) r1 i).2)) (ss (nS C (slf (scf (sN C) (sb C) (ss C) r1).2 (sb C) (ss C) r1 i).2)) r1 i).1)) S2_32 B2_32 Q2_32 K2_32 F2_32 (by omega) (by omega) (by rw [hy, Nat.add_assoc]; rfl) (by exact hR2_32)
        refine g_lv [1, 2, 3, 0] rfl ?_
        exact loop22 ((16 - 0) + 1) 0 zz Sv Bv Qv Kv Fv (Nat.lt_succ_self _) (by omega) (by rfl) (by exact hS)
  refine g_lv [2, 1, 0] rfl ?_
  exact loop8 ((sZ C - 0) + 1) 0 0 S B Q K F0 (Nat.lt_succ_self _) (by exact Nat.zero_le _) (by rfl) (by exact hR)
set_option maxHeartbeats 4000000 in
set_option maxRecDepth 100000 in
theorem c_X9_hasUnlike (l : Launch) (E : En) (q : Nat) (r : Nat → Nat) (rc : Nat) (tl : Nat) (at9 : Nat) (lf9 : Int32) (pl9 : Int32) (vl9 : Int32) (fa : Nat) (rs9 : Nat) (cs : Int32) (dn : Nat) (S : Nat → Nat) (C : CS) (B : Nat → Nat) (hR : Rel S C) (hI : IC C) (hb : ∀ v : Nat, v < 3 → B v < 96) : CtI l yX9_hasUnlike wsX9_hasUnlike ({ frames := 2, cells := 0, slots := 0, locals := 46 } : Room) E [.ref q] [ob 9 q [.ref (r 0), .ref (r 1), .ref (r 2), .int (nI rc), .ref (r 3), .int (nI tl), .ref (r 4), .ref (r 5), .ref (r 6), .ref (r 7), .ref (r 8), .ref (r 9), .ref (r 10), .ref (r 11), .ref (r 12), .int (nI at9), .int (lf9), .int (pl9), .int (vl9), .int (nI fa), .int (nI rs9), .int (cs), .int (nI dn)], ai E (r 0) 892 S, ai E (r 4) 3 B] (fun rr uu => rr = (bi (∃ v : Nat, v < 3 ∧ ¬ al (sN C) (B v))) ∧ uu = [ob 9 q [.ref (r 0), .ref (r 1), .ref (r 2), .int (nI rc), .ref (r 3), .int (nI tl), .ref (r 4), .ref (r 5), .ref (r 6), .ref (r 7), .ref (r 8), .ref (r 9), .ref (r 10), .ref (r 11), .ref (r 12), .int (nI at9), .int (lf9), .int (pl9), .int (vl9), .int (nI fa), .int (nI rs9), .int (cs), .int (nI dn)], ai E (r 0) 892 S, ai E (r 4) 3 B]) := by
  refine CtI.of cX9_hasUnlike 3 RX9 .boolean rfl (by decide) rfl (Or.inr rfl) (Nat.le_of_ble_eq_true rfl) (fun _ r u hp => by obtain ⟨rfl, -⟩ := hp; exact bi_narrow _) ?_
  intro Γ F hret
  show G Γ E 0 0 0 [(0, .ref q)] [] [ob 9 q [.ref (r 0), .ref (r 1), .ref (r 2), .int (nI rc), .ref (r 3), .int (nI tl), .ref (r 4), .ref (r 5), .ref (r 6), .ref (r 7), .ref (r 8), .ref (r 9), .ref (r 10), .ref (r 11), .ref (r 12), .int (nI at9), .int (lf9), .int (pl9), .int (vl9), .int (nI fa), .int (nI rs9), .int (cs), .int (nI dn)], ai E (r 0) 892 S, ai E (r 4) 3 B]
  refine g_iconst (v := nI 0) F dX9_hasUnlike_0 (by decide) ?_
  refine g_istore_n (lv2 := [(1, .int (nI 0)), (0, .ref q)]) F dX9_hasUnlike_1 rfl (by decide) rfl ?_
  refine g_iconst (v := nI 0) F dX9_hasUnlike_2 (by decide) ?_
  refine g_istore_n (lv2 := [(2, .int (nI 0)), (1, .int (nI 0)), (0, .ref q)]) F dX9_hasUnlike_3 rfl (by decide) rfl ?_
  have loop4 : ∀ (n : Nat) (i : Nat) (y : Nat), 3 - i < n → (i ≤ 3) → (y ≤ 1) → (y = 0 ↔ ∀ k : Nat, k < i → al (sN C) (B k)) → G Γ E 0 0 4 [(0, .ref q), (1, .int (nI y)), (2, .int (nI i))] [] [ob 9 q [.ref (r 0), .ref (r 1), .ref (r 2), .int (nI rc), .ref (r 3), .int (nI tl), .ref (r 4), .ref (r 5), .ref (r 6), .ref (r 7), .ref (r 8), .ref (r 9), .ref (r 10), .ref (r 11), .ref (r 12), .int (nI at9), .int (lf9), .int (pl9), .int (vl9), .int (nI fa), .int (nI rs9), .int (cs), .int (nI dn)], ai E (r 0) 892 S, ai E (r 4) 3 B] := by
    intro n
    induction n with
    | zero => intro i y hz; exact absurd hz (Nat.not_lt_zero _)
    | succ n ih4 =>
      intro i y hz4 hi hy1 hy
      refine g_iload_n F 2 dX9_hasUnlike_4 rfl rfl ?_
      refine g_iconst (v := nI 3) F dX9_hasUnlike_5 (by decide) ?_
      refine g_icmp_geN (tgt := 38) F dX9_hasUnlike_6 (by decide) (by omega) (by omega) (fun c6 => ?_) (fun c6 => ?_)
      · skip
        refine g_iload_n F 1 dX9_hasUnlike_38 rfl rfl ?_
        refine g_top (nI y) (bi (∃ v : Nat, v < 3 ∧ ¬ al (sN C) (B v))) (by rcases (show y = 0 ∨ y = 1 by omega) with h9 | h9; (rw [h9, bi_neg (fun ⟨v, h1, h2⟩ => h2 (hy.mp h9 v (by omega)))]; rfl); (rw [h9, bi_pos (Classical.byContradiction (fun h => absurd (hy.mpr (fun k hk => Classical.byContradiction (fun h2 => h ⟨k, by omega, h2⟩))) (by omega)))]; rfl)) ?_
        exact hret _ _ _ _ dX9_hasUnlike_39 ⟨rfl, rfl⟩
      · skip
        refine g_iload_n F 1 dX9_hasUnlike_9 rfl rfl ?_
        refine g_if_neN (tgt := 26) F dX9_hasUnlike_10 (by decide) (by omega) (fun c10 => ?_) (fun c10 => ?_)
        · skip
          refine g_iconst (v := nI 1) F dX9_hasUnlike_26 (by decide) ?_
          refine g_goto (tgt := 31) F dX9_hasUnlike_27 (by decide) ?_
          refine g_istore_n (lv2 := [(1, .int (nI 1)), (0, .ref q), (2, .int (nI i))]) F dX9_hasUnlike_31 rfl (by decide) rfl ?_
          refine g_iinc (k := 2) (v := nI (i + 1)) (lv2 := [(2, .int (nI (i + 1))), (1, .int (nI 1)), (0, .ref q)]) F dX9_hasUnlike_32 rfl (nI_1 _) (by decide) rfl ?_
          refine g_goto (tgt := 4) F dX9_hasUnlike_35 (by decide) ?_
          refine g_lv [2, 1, 0] rfl ?_
          exact ih4 (i + 1) 1 (by omega) (by omega) (by omega) (by exact ⟨fun h => absurd h (by decide), fun h => absurd (hy.mpr (fun k hk => h k (by omega))) c10⟩)
        · skip
          refine g_aload_n F 0 dX9_hasUnlike_13 rfl rfl ?_
          refine g_aload_n F 0 dX9_hasUnlike_14 rfl rfl ?_
          refine g_get F 0 6 dX9_hasUnlike_15 rfl rfl (by decide) (by decide +kernel) (by decide +kernel) rfl ?_
          refine g_iload_n F 2 dX9_hasUnlike_18 rfl rfl ?_
          refine g_iald F 2 dX9_hasUnlike_19 rfl (by omega) (by decide) ?_
          refine g_callViR (n := 1) F [0, 1] (c_X9_areUnlike l E q r rc tl at9 lf9 pl9 vl9 fa rs9 cs dn S C (B i) (by assumption) (by assumption) (by exact hb _ (by omega))) dX9_hasUnlike_20 rfl (by decide) rfl rfl rfl (Nat.le_of_ble_eq_true rfl) ⟨Nat.le_of_ble_eq_true rfl, Nat.le_of_ble_eq_true rfl⟩ rfl rfl ⟨Nat.le_of_ble_eq_true rfl, Nat.le_of_ble_eq_true rfl⟩ 0 rfl rfl gX9_hasUnlike_X9_areUnlike (by decide +kernel) (fun r u hp => by obtain ⟨-, h⟩ := hp; exact h) ?_
          rintro r_20 u_20 ⟨rfl, -⟩
          refine g_if_eqB (tgt := 30) F dX9_hasUnlike_23 (by decide) (fun c23 => ?_) (fun c23 => ?_)
          · skip
            refine g_iconst (v := nI 0) F dX9_hasUnlike_30 (by decide) ?_
            refine g_istore_n (lv2 := [(1, .int (nI 0)), (0, .ref q), (2, .int (nI i))]) F dX9_hasUnlike_31 rfl (by decide) rfl ?_
            refine g_iinc (k := 2) (v := nI (i + 1)) (lv2 := [(2, .int (nI (i + 1))), (1, .int (nI 0)), (0, .ref q)]) F dX9_hasUnlike_32 rfl (nI_1 _) (by decide) rfl ?_
            refine g_goto (tgt := 4) F dX9_hasUnlike_35 (by decide) ?_
            refine g_lv [2, 1, 0] rfl ?_
            exact ih4 (i + 1) 0 (by omega) (by omega) (by omega) (by exact ⟨fun _ k hk => by (by_cases z : k = i); (rw [z]; exact Classical.not_not.mp c23); exact hy.mp c10 k (by omega), fun _ => rfl⟩)
          · skip
            refine g_iconst (v := nI 1) F dX9_hasUnlike_26 (by decide) ?_
            refine g_goto (tgt := 31) F dX9_hasUnlike_27 (by decide) ?_
            refine g_istore_n (lv2 := [(1, .int (nI 1)), (0, .ref q), (2, .int (nI i))]) F dX9_hasUnlike_31 rfl (by decide) rfl ?_
            refine g_iinc (k := 2) (v := nI (i + 1)) (lv2 := [(2, .int (nI (i + 1))), (1, .int (nI 1)), (0, .ref q)]) F dX9_hasUnlike_32 rfl (nI_1 _) (by decide) rfl ?_
            refine g_goto (tgt := 4) F dX9_hasUnlike_35 (by decide) ?_
            refine g_lv [2, 1, 0] rfl ?_
            exact ih4 (i + 1) 1 (by omega) (by omega) (by omega) (by exact ⟨fun h => absurd h (by decide), fun h => absurd (h i (by omega)) c23⟩)
  refine g_lv [2, 1, 0] rfl ?_
  exact loop4 ((3 - 0) + 1) 0 0 (Nat.lt_succ_self _) (by omega) (by omega) (by exact ⟨fun _ k hk => by omega, fun _ => rfl⟩)
set_option maxHeartbeats 4000000 in
set_option maxRecDepth 100000 in
theorem c_X9_leaves (l : Launch) (E : En) (q : Nat) (r : Nat → Nat) (rc : Nat) (tl : Nat) (at9 : Nat) (lf9 : Int32) (pl9 : Int32) (vl9 : Int32) (fa : Nat) (rs9 : Nat) (cs : Int32) (dn : Nat) (S : Nat → Nat) (C : CS) (B : Nat → Nat) (Q : Nat → Nat) (K : Nat → Int32) (x1 : Int32) (x2 : Int32) (hR : Rel S C) (hI : IC C) : CtI l yX9_leaves wsX9_leaves ({ frames := 4, cells := 0, slots := 0, locals := 92 } : Room) E [.ref q, .int (x1), .int (x2)] [ob 9 q [.ref (r 0), .ref (r 1), .ref (r 2), .int (nI rc), .ref (r 3), .int (nI tl), .ref (r 4), .ref (r 5), .ref (r 6), .ref (r 7), .ref (r 8), .ref (r 9), .ref (r 10), .ref (r 11), .ref (r 12), .int (nI at9), .int (lf9), .int (pl9), .int (vl9), .int (nI fa), .int (nI rs9), .int (cs), .int (nI dn)], ai E (r 0) 892 S, ai E (r 4) 3 B, ai E (r 5) 3 Q, ax E (r 6) 3 K] (fun rr uu => ∃ (B2 : Nat → Nat), ∃ (Q2 : Nat → Nat), ∃ (K2 : Nat → Int32), rr = (p_leaves C x1 x2) ∧ uu = [ob 9 q [.ref (r 0), .ref (r 1), .ref (r 2), .int (nI rc), .ref (r 3), .int (nI tl), .ref (r 4), .ref (r 5), .ref (r 6), .ref (r 7), .ref (r 8), .ref (r 9), .ref (r 10), .ref (r 11), .ref (r 12), .int (nI at9), .int (lf9), .int (pl9), .int (vl9), .int (nI fa), .int (nI rs9), .int (cs), .int (nI dn)], ai E (r 0) 892 S, ai E (r 4) 3 B2, ai E (r 5) 3 Q2, ax E (r 6) 3 K2]) := by
  refine CtI.of cX9_leaves 7 RX9 .int rfl (by decide) rfl (Or.inl rfl) (Nat.le_of_ble_eq_true rfl) (fun h => by cases h) ?_
  intro Γ F hret
  show G Γ E 0 0 0 [(0, .ref q), (1, .int (x1)), (2, .int (x2))] [] [ob 9 q [.ref (r 0), .ref (r 1), .ref (r 2), .int (nI rc), .ref (r 3), .int (nI tl), .ref (r 4), .ref (r 5), .ref (r 6), .ref (r 7), .ref (r 8), .ref (r 9), .ref (r 10), .ref (r 11), .ref (r 12), .int (nI at9), .int (lf9), .int (pl9), .int (vl9), .int (nI fa), .int (nI rs9), .int (cs), .int (nI dn)], ai E (r 0) 892 S, ai E (r 4) 3 B, ai E (r 5) 3 Q, ax E (r 6) 3 K]
  refine g_aload_n F 0 dX9_leaves_0 rfl rfl ?_
  refine g_iload_n F 1 dX9_leaves_1 rfl rfl ?_
  refine g_callViR (n := 1) F [0, 1] (c_X9_isRoot l E q r rc tl at9 lf9 pl9 vl9 fa rs9 cs dn S C x1 (by assumption) (by assumption)) dX9_leaves_2 rfl (by decide) rfl rfl rfl (Nat.le_of_ble_eq_true rfl) ⟨Nat.le_of_ble_eq_true rfl, Nat.le_of_ble_eq_true rfl⟩ rfl rfl ⟨Nat.le_of_ble_eq_true rfl, Nat.le_of_ble_eq_true rfl⟩ 0 rfl rfl gX9_leaves_X9_isRoot (by decide +kernel) (fun r u hp => by obtain ⟨-, h⟩ := hp; exact h) ?_
  rintro r_2 u_2 ⟨rfl, -⟩
  refine g_if_eqB (tgt := 17) F dX9_leaves_5 (by decide) (fun c5 => ?_) (fun c5 => ?_)
  · skip
    refine g_ldc (v := (-1000001)) F dX9_leaves_17 (by decide +kernel) ?_
    exact hret _ _ _ _ dX9_leaves_19 ⟨B, Q, K, (by unfold p_leaves; rw [cI_neg (fun h => by first | exact c5 h.1 | exact c14 h.2)]), (by rfl)⟩
  · skip
    obtain ⟨r1, hr1, rfl⟩ := rng_of (by have := hI.2.2.2.1; omega) (c5)
    refine g_iload_n F 2 dX9_leaves_8 rfl rfl ?_
    refine g_iconst (v := nI 0) F dX9_leaves_9 (by decide) ?_
    refine g_iconst (v := nI 2) F dX9_leaves_10 (by decide) ?_
    refine g_callSiR (n := 3) F [] (c_X9_within_x l E x2 2 (by omega)) dX9_leaves_11 rfl (by decide) rfl rfl rfl (Nat.le_of_ble_eq_true rfl) ⟨Nat.le_of_ble_eq_true rfl, Nat.le_of_ble_eq_true rfl⟩ rfl rfl ⟨Nat.le_of_ble_eq_true rfl, Nat.le_of_ble_eq_true rfl⟩ ggX9_leaves_X9_within (by decide +kernel) (by decide +kernel) (by decide +kernel) (by decide +kernel) (fun r u hp => by obtain ⟨-, h⟩ := hp; exact h) ?_
    rintro r_11 u_11 ⟨rfl, -⟩
    refine g_if_neB (tgt := 20) F dX9_leaves_14 (by decide) (fun c14 => ?_) (fun c14 => ?_)
    · skip
      obtain ⟨w1, hw1, rfl⟩ := rng_of (by first | decide | omega) (c14)
      have hz8 := hI.2.2.2.1
      refine g_iconst (v := nI 0) F dX9_leaves_20 (by decide) ?_
      refine g_istore_n (lv2 := [(3, .int (nI 0)), (0, .ref q), (1, .int (nI r1)), (2, .int (nI w1))]) F dX9_leaves_21 rfl (by decide) rfl ?_
      refine g_iconst (v := nI 0) F dX9_leaves_22 (by decide) ?_
      refine g_istore (lv2 := [(4, .int (nI 0)), (3, .int (nI 0)), (0, .ref q), (1, .int (nI r1)), (2, .int (nI w1))]) F dX9_leaves_23 (by decide) rfl ?_
      have loop25 : ∀ (n : Nat) (i : Nat) (zz : Nat) (Bv : Nat → Nat) (Qv : Nat → Nat) (Kv : Nat → Int32), 16 - i < n → (i ≤ 16) → (zz = lvs C r1 w1 i) → G Γ E 0 0 25 [(0, .ref q), (1, .int (nI r1)), (2, .int (nI w1)), (3, .int (nI zz)), (4, .int (nI i))] [] [ob 9 q [.ref (r 0), .ref (r 1), .ref (r 2), .int (nI rc), .ref (r 3), .int (nI tl), .ref (r 4), .ref (r 5), .ref (r 6), .ref (r 7), .ref (r 8), .ref (r 9), .ref (r 10), .ref (r 11), .ref (r 12), .int (nI at9), .int (lf9), .int (pl9), .int (vl9), .int (nI fa), .int (nI rs9), .int (cs), .int (nI dn)], ai E (r 0) 892 S, ai E (r 4) 3 Bv, ai E (r 5) 3 Qv, ax E (r 6) 3 Kv] := by
        intro n
        induction n with
        | zero => intro i zz Bv Qv Kv hz; exact absurd hz (Nat.not_lt_zero _)
        | succ n ih25 =>
          intro i zz Bv Qv Kv hz25 hi hz
          refine g_iload F 4 dX9_leaves_25 rfl ?_
          refine g_bipush (v := nI 16) F dX9_leaves_27 (by decide) ?_
          refine g_icmp_geN (tgt := 130) F dX9_leaves_29 (by decide) (by omega) (by omega) (fun c29 => ?_) (fun c29 => ?_)
          · skip
            refine g_iload_n F 3 dX9_leaves_130 rfl rfl ?_
            exact hret _ _ _ _ dX9_leaves_131 ⟨Bv, Qv, Kv, (by unfold p_leaves; rw [cI_pos ⟨(rng_nI (by omega) (by omega)).mpr hr1, (rng_nI (by decide) (by omega)).mpr hw1⟩, dv_nI (by omega), dv_nI (by omega), hz, show i = 16 by omega]), (by rfl)⟩
          · skip
            refine g_aload_n F 0 dX9_leaves_32 rfl rfl ?_
            refine g_iload_n F 1 dX9_leaves_33 rfl rfl ?_
            refine g_iload F 4 dX9_leaves_34 rfl ?_
            refine g_callViW (n := 2) F [0, 1, 2, 3, 4] (c_X9_findWay l E q r rc tl at9 lf9 pl9 vl9 fa rs9 cs dn S C Bv Qv Kv r1 i (by exact hR) (by assumption) (by exact hr1) (by omega)) dX9_leaves_36 rfl (by decide) rfl rfl rfl (Nat.le_of_ble_eq_true rfl) ⟨Nat.le_of_ble_eq_true rfl, Nat.le_of_ble_eq_true rfl⟩ rfl rfl ⟨Nat.le_of_ble_eq_true rfl, Nat.le_of_ble_eq_true rfl⟩ 0 rfl rfl gX9_leaves_X9_findWay (by decide +kernel) (fun r u hp => by obtain ⟨_, _, _, -, -, rfl⟩ := hp; rfl) ?_
            rintro r_36 u_36 ⟨B2_36, Q2_36, K2_36, hW_36, rfl, rfl⟩
            refine g_ws (w2 := [ob 9 q [.ref (r 0), .ref (r 1), .ref (r 2), .int (nI rc), .ref (r 3), .int (nI tl), .ref (r 4), .ref (r 5), .ref (r 6), .ref (r 7), .ref (r 8), .ref (r 9), .ref (r 10), .ref (r 11), .ref (r 12), .int (nI at9), .int (lf9), .int (pl9), .int (vl9), .int (nI fa), .int (nI rs9), .int (cs), .int (nI dn)], ai E (r 0) 892 S, ai E (r 4) 3 B2_36, ai E (r 5) 3 Q2_36, ax E (r 6) 3 K2_36]) rfl ?_
            refine g_istore (lv2 := [(5, .int (bi (spC C r1 i = 0))), (0, .ref q), (1, .int (nI r1)), (2, .int (nI w1)), (3, .int (nI zz)), (4, .int (nI i))]) F dX9_leaves_39 (by decide) rfl ?_
            refine g_iload_n F 3 dX9_leaves_41 rfl rfl ?_
            refine g_if_neN (tgt := 58) F dX9_leaves_42 (by decide) (by omega) (fun c42 => ?_) (fun c42 => ?_)
            · skip
              refine g_iload F 0 dX9_leaves_58 rfl ?_
              refine g_if_eqB (tgt := 105) F dX9_leaves_60 (by decide) (fun c60 => ?_) (fun c60 => ?_)
              · skip
                refine g_iconst (v := nI 0) F dX9_leaves_105 (by decide) ?_
                have hkd : ¬ kd C r1 w1 i := by
                  unfold kd; rw [if_neg c42]; split
                  · exact fun h => c60 h.1
                  · exact fun h => c60 h.1
                refine g_istore (lv2 := [(6, .int (nI 0)), (5, .int (bi (spC C r1 i = 0))), (0, .ref q), (1, .int (nI r1)), (2, .int (nI w1)), (3, .int (nI zz)), (4, .int (nI i))]) F dX9_leaves_106 (by decide) rfl ?_
                refine g_iload_n F 5 dX9_leaves_108 rfl rfl ?_
                refine g_iload F 0 dX9_leaves_109 rfl ?_
                refine g_if_eqN (tgt := 121) F dX9_leaves_111 (by decide) (by decide) (fun c111 => ?_) (fun c111 => absurd c111 (by decide))
                refine g_iconst (v := nI 0) F dX9_leaves_121 (by decide) ?_
                refine g_ior F dX9_leaves_122 ?_
                refine g_top ((nI zz) ||| (nI 0)) (nI zz) (by rw [nI_or, Nat.or_zero]) ?_
                refine g_istore_n (lv2 := [(3, .int (nI zz)), (6, .int (nI 0)), (5, .int (bi (spC C r1 i = 0))), (0, .ref q), (1, .int (nI r1)), (2, .int (nI w1)), (4, .int (nI i))]) F dX9_leaves_123 rfl (by decide) rfl ?_
                refine g_iinc (k := 6) (v := nI (i + 1)) (lv2 := [(4, .int (nI (i + 1))), (3, .int (nI zz)), (6, .int (nI 0)), (5, .int (bi (spC C r1 i = 0))), (0, .ref q), (1, .int (nI r1)), (2, .int (nI w1))]) F dX9_leaves_124 rfl (nI_1 _) (by decide) rfl ?_
                refine g_goto (tgt := 25) F dX9_leaves_127 (by decide) ?_
                refine g_lv [4, 5, 6, 1, 0] rfl ?_
                exact ih25 (i + 1) zz B2_36 Q2_36 K2_36 (by omega) (by omega) (by show _ = cI _ _ _; rw [cI_neg hkd, hz])
              · skip
                have hg9 : ∀ v : Nat, v < 3 → _ := fun v hv => hW_36.good (v := v) hv hv (by rw [show glC C r1 i = 3 from sp_gl.mp c60]; exact hv)
                refine g_iload_n F 3 dX9_leaves_63 rfl rfl ?_
                refine g_iconst (v := nI 1) F dX9_leaves_64 (by decide) ?_
                refine g_icmp_neN (tgt := 78) F dX9_leaves_65 (by decide) (by omega) (by omega) (fun c65 => ?_) (fun c65 => ?_)
                · skip
                  refine g_aload_n F 1 dX9_leaves_78 rfl rfl ?_
                  refine g_get F 0 8 dX9_leaves_79 rfl rfl (by decide) (by decide +kernel) (by decide +kernel) rfl ?_
                  refine g_iconst (v := nI 0) F dX9_leaves_82 (by decide) ?_
                  refine g_xald F 4 dX9_leaves_83 rfl (by omega) (by decide) ?_
                  refine g_top (K2_36 0) (nI (wDC C r1 i 0)) (by rw [(hg9 0 (by decide)).1]) ?_
                  refine g_aload_n F 1 dX9_leaves_84 rfl rfl ?_
                  refine g_get F 0 8 dX9_leaves_85 rfl rfl (by decide) (by decide +kernel) (by decide +kernel) rfl ?_
                  refine g_iconst (v := nI 1) F dX9_leaves_88 (by decide) ?_
                  refine g_xald F 4 dX9_leaves_89 rfl (by omega) (by decide) ?_
                  refine g_top (K2_36 1) (nI (wDC C r1 i 1)) (by rw [(hg9 1 (by decide)).1]) ?_
                  refine g_iaddN F dX9_leaves_90 ?_
                  refine g_aload_n F 1 dX9_leaves_91 rfl rfl ?_
                  refine g_get F 0 8 dX9_leaves_92 rfl rfl (by decide) (by decide +kernel) (by decide +kernel) rfl ?_
                  refine g_iconst (v := nI 2) F dX9_leaves_95 (by decide) ?_
                  refine g_xald F 4 dX9_leaves_96 rfl (by omega) (by decide) ?_
                  refine g_top (K2_36 2) (nI (wDC C r1 i 2)) (by rw [(hg9 2 (by decide)).1]) ?_
                  refine g_iaddN F dX9_leaves_97 ?_
                  have d0 := (hg9 0 (by decide)).2.2.2.1
                  have d1 := (hg9 1 (by decide)).2.2.2.1
                  have d2 := (hg9 2 (by decide)).2.2.2.1
                  refine g_if_leN (tgt := 105) F dX9_leaves_98 (by decide) (by omega) (fun c98 => ?_) (fun c98 => ?_)
                  · skip
                    refine g_iconst (v := nI 0) F dX9_leaves_105 (by decide) ?_
                    have hkd : ¬ kd C r1 w1 i := by
                      unfold kd; rw [if_neg c42, if_neg c65]
                      intro ⟨_, v, h1, h2⟩
                      have h2 : wDC C r1 i v = 1 := h2
                      rcases (show v = 0 ∨ v = 1 ∨ v = 2 by omega) with rfl | rfl | rfl <;> omega
                    refine g_istore (lv2 := [(6, .int (nI 0)), (5, .int (bi (spC C r1 i = 0))), (0, .ref q), (1, .int (nI r1)), (2, .int (nI w1)), (3, .int (nI zz)), (4, .int (nI i))]) F dX9_leaves_106 (by decide) rfl ?_
                    refine g_iload_n F 5 dX9_leaves_108 rfl rfl ?_
                    refine g_iload F 0 dX9_leaves_109 rfl ?_
                    refine g_if_eqN (tgt := 121) F dX9_leaves_111 (by decide) (by decide) (fun c111 => ?_) (fun c111 => absurd c111 (by decide))
                    refine g_iconst (v := nI 0) F dX9_leaves_121 (by decide) ?_
                    refine g_ior F dX9_leaves_122 ?_
                    refine g_top ((nI zz) ||| (nI 0)) (nI zz) (by rw [nI_or, Nat.or_zero]) ?_
                    refine g_istore_n (lv2 := [(3, .int (nI zz)), (6, .int (nI 0)), (5, .int (bi (spC C r1 i = 0))), (0, .ref q), (1, .int (nI r1)), (2, .int (nI w1)), (4, .int (nI i))]) F dX9_leaves_123 rfl (by decide) rfl ?_
                    refine g_iinc (k := 6) (v := nI (i + 1)) (lv2 := [(4, .int (nI (i + 1))), (3, .int (nI zz)), (6, .int (nI 0)), (5, .int (bi (spC C r1 i = 0))), (0, .ref q), (1, .int (nI r1)), (2, .int (nI w1))]) F dX9_leaves_124 rfl (nI_1 _) (by decide) rfl ?_
                    refine g_goto (tgt := 25) F dX9_leaves_127 (by decide) ?_
                    refine g_lv [4, 5, 6, 1, 0] rfl ?_
                    exact ih25 (i + 1) zz B2_36 Q2_36 K2_36 (by omega) (by omega) (by show _ = cI _ _ _; rw [cI_neg hkd, hz])
                  · skip
                    refine g_iconst (v := nI 1) F dX9_leaves_101 (by decide) ?_
                    refine g_goto (tgt := 106) F dX9_leaves_102 (by decide) ?_
                    have hkd : kd C r1 w1 i := by
                      unfold kd; rw [if_neg c42, if_neg c65]
                      have d0 := (hg9 0 (by decide)).2.2.2.1
                      have d1 := (hg9 1 (by decide)).2.2.2.1
                      have d2 := (hg9 2 (by decide)).2.2.2.1
                      refine ⟨c60, ?_⟩
                      by_cases z0 : wDC C r1 i 0 = 1
                      · exact ⟨0, by decide, z0⟩
                      by_cases z1 : wDC C r1 i 1 = 1
                      · exact ⟨1, by decide, z1⟩
                      exact ⟨2, by decide, by omega⟩
                    refine g_istore (lv2 := [(6, .int (nI 1)), (5, .int (bi (spC C r1 i = 0))), (0, .ref q), (1, .int (nI r1)), (2, .int (nI w1)), (3, .int (nI zz)), (4, .int (nI i))]) F dX9_leaves_106 (by decide) rfl ?_
                    refine g_iload_n F 5 dX9_leaves_108 rfl rfl ?_
                    refine g_iload F 0 dX9_leaves_109 rfl ?_
                    refine g_if_eqN (tgt := 121) F dX9_leaves_111 (by decide) (by decide) (fun c111 => absurd c111 (by decide)) (fun c111 => ?_)
                    refine g_iconst (v := nI 1) F dX9_leaves_114 (by decide) ?_
                    refine g_iload F 6 dX9_leaves_115 rfl ?_
                    refine g_ishl F dX9_leaves_117 ?_
                    refine g_top ((nI 1) <<< ((nI i) &&& 31)) (nI (2 ^ i)) (by rw [shl1 i (by omega)]) ?_
                    refine g_goto (tgt := 122) F dX9_leaves_118 (by decide) ?_
                    refine g_ior F dX9_leaves_122 ?_
                    refine g_top ((nI zz) ||| (nI (2 ^ i))) (nI (zz ||| 2 ^ i)) (by rw [nI_or]) ?_
                    refine g_istore_n (lv2 := [(3, .int (nI (zz ||| 2 ^ i))), (6, .int (nI 1)), (5, .int (bi (spC C r1 i = 0))), (0, .ref q), (1, .int (nI r1)), (2, .int (nI w1)), (4, .int (nI i))]) F dX9_leaves_123 rfl (by decide) rfl ?_
                    refine g_iinc (k := 6) (v := nI (i + 1)) (lv2 := [(4, .int (nI (i + 1))), (3, .int (nI (zz ||| 2 ^ i))), (6, .int (nI 1)), (5, .int (bi (spC C r1 i = 0))), (0, .ref q), (1, .int (nI r1)), (2, .int (nI w1))]) F dX9_leaves_124 rfl (nI_1 _) (by decide) rfl ?_
                    refine g_goto (tgt := 25) F dX9_leaves_127 (by decide) ?_
                    refine g_lv [4, 5, 6, 1, 0] rfl ?_
                    exact ih25 (i + 1) (zz ||| 2 ^ i) B2_36 Q2_36 K2_36 (by omega) (by omega) (by show _ = cI _ _ _; rw [cI_pos hkd, hz])
                · skip
                  refine g_aload_n F 1 dX9_leaves_68 rfl rfl ?_
                  refine g_callViR (n := 0) F [0, 1, 2] (c_X9_hasUnlike l E q r rc tl at9 lf9 pl9 vl9 fa rs9 cs dn S C B2_36 (by assumption) (by assumption) (by intro v hv; rw [(hg9 v hv).2.1]; exact (hg9 v hv).2.2.2.2)) dX9_leaves_69 rfl (by decide) rfl rfl rfl (Nat.le_of_ble_eq_true rfl) ⟨Nat.le_of_ble_eq_true rfl, Nat.le_of_ble_eq_true rfl⟩ rfl rfl ⟨Nat.le_of_ble_eq_true rfl, Nat.le_of_ble_eq_true rfl⟩ 0 rfl rfl gX9_leaves_X9_hasUnlike (by decide +kernel) (fun r u hp => by obtain ⟨-, h⟩ := hp; exact h) ?_
                  rintro r_69 u_69 ⟨rfl, -⟩
                  refine g_if_eqB (tgt := 105) F dX9_leaves_72 (by decide) (fun c72 => ?_) (fun c72 => ?_)
                  · skip
                    refine g_iconst (v := nI 0) F dX9_leaves_105 (by decide) ?_
                    have hkd : ¬ kd C r1 w1 i := by
                      unfold kd; rw [if_neg c42, if_pos c65]
                      intro ⟨_, v, h1, h2⟩
                      exact c72 ⟨v, h1, by rw [(hg9 v h1).2.1]; exact h2⟩
                    refine g_istore (lv2 := [(6, .int (nI 0)), (5, .int (bi (spC C r1 i = 0))), (0, .ref q), (1, .int (nI r1)), (2, .int (nI w1)), (3, .int (nI zz)), (4, .int (nI i))]) F dX9_leaves_106 (by decide) rfl ?_
                    refine g_iload_n F 5 dX9_leaves_108 rfl rfl ?_
                    refine g_iload F 0 dX9_leaves_109 rfl ?_
                    refine g_if_eqN (tgt := 121) F dX9_leaves_111 (by decide) (by decide) (fun c111 => ?_) (fun c111 => absurd c111 (by decide))
                    refine g_iconst (v := nI 0) F dX9_leaves_121 (by decide) ?_
                    refine g_ior F dX9_leaves_122 ?_
                    refine g_top ((nI zz) ||| (nI 0)) (nI zz) (by rw [nI_or, Nat.or_zero]) ?_
                    refine g_istore_n (lv2 := [(3, .int (nI zz)), (6, .int (nI 0)), (5, .int (bi (spC C r1 i = 0))), (0, .ref q), (1, .int (nI r1)), (2, .int (nI w1)), (4, .int (nI i))]) F dX9_leaves_123 rfl (by decide) rfl ?_
                    refine g_iinc (k := 6) (v := nI (i + 1)) (lv2 := [(4, .int (nI (i + 1))), (3, .int (nI zz)), (6, .int (nI 0)), (5, .int (bi (spC C r1 i = 0))), (0, .ref q), (1, .int (nI r1)), (2, .int (nI w1))]) F dX9_leaves_124 rfl (nI_1 _) (by decide) rfl ?_
                    refine g_goto (tgt := 25) F dX9_leaves_127 (by decide) ?_
                    refine g_lv [4, 5, 6, 1, 0] rfl ?_
                    exact ih25 (i + 1) zz B2_36 Q2_36 K2_36 (by omega) (by omega) (by show _ = cI _ _ _; rw [cI_neg hkd, hz])
                  · skip
                    refine g_goto (tgt := 101) F dX9_leaves_75 (by decide) ?_
                    refine g_iconst (v := nI 1) F dX9_leaves_101 (by decide) ?_
                    refine g_goto (tgt := 106) F dX9_leaves_102 (by decide) ?_
                    have hkd : kd C r1 w1 i := by
                      unfold kd; rw [if_neg c42, if_pos c65]
                      obtain ⟨v, h1, h2⟩ := c72
                      exact ⟨c60, v, h1, by rw [← (hg9 v h1).2.1]; exact h2⟩
                    refine g_istore (lv2 := [(6, .int (nI 1)), (5, .int (bi (spC C r1 i = 0))), (0, .ref q), (1, .int (nI r1)), (2, .int (nI w1)), (3, .int (nI zz)), (4, .int (nI i))]) F dX9_leaves_106 (by decide) rfl ?_
                    refine g_iload_n F 5 dX9_leaves_108 rfl rfl ?_
                    refine g_iload F 0 dX9_leaves_109 rfl ?_
                    refine g_if_eqN (tgt := 121) F dX9_leaves_111 (by decide) (by decide) (fun c111 => absurd c111 (by decide)) (fun c111 => ?_)
                    refine g_iconst (v := nI 1) F dX9_leaves_114 (by decide) ?_
                    refine g_iload F 6 dX9_leaves_115 rfl ?_
                    refine g_ishl F dX9_leaves_117 ?_
                    refine g_top ((nI 1) <<< ((nI i) &&& 31)) (nI (2 ^ i)) (by rw [shl1 i (by omega)]) ?_
                    refine g_goto (tgt := 122) F dX9_leaves_118 (by decide) ?_
                    refine g_ior F dX9_leaves_122 ?_
                    refine g_top ((nI zz) ||| (nI (2 ^ i))) (nI (zz ||| 2 ^ i)) (by rw [nI_or]) ?_
                    refine g_istore_n (lv2 := [(3, .int (nI (zz ||| 2 ^ i))), (6, .int (nI 1)), (5, .int (bi (spC C r1 i = 0))), (0, .ref q), (1, .int (nI r1)), (2, .int (nI w1)), (4, .int (nI i))]) F dX9_leaves_123 rfl (by decide) rfl ?_
                    refine g_iinc (k := 6) (v := nI (i + 1)) (lv2 := [(4, .int (nI (i + 1))), (3, .int (nI (zz ||| 2 ^ i))), (6, .int (nI 1)), (5, .int (bi (spC C r1 i = 0))), (0, .ref q), (1, .int (nI r1)), (2, .int (nI w1))]) F dX9_leaves_124 rfl (nI_1 _) (by decide) rfl ?_
                    refine g_goto (tgt := 25) F dX9_leaves_127 (by decide) ?_
                    refine g_lv [4, 5, 6, 1, 0] rfl ?_
                    exact ih25 (i + 1) (zz ||| 2 ^ i) B2_36 Q2_36 K2_36 (by omega) (by omega) (by show _ = cI _ _ _; rw [cI_pos hkd, hz])
            · skip
              refine g_iload F 0 dX9_leaves_45 rfl ?_
              refine g_if_neB (tgt := 54) F dX9_leaves_47 (by decide) (fun c47 => ?_) (fun c47 => ?_)
              · skip
                refine g_iconst (v := nI 0) F dX9_leaves_54 (by decide) ?_
                refine g_goto (tgt := 106) F dX9_leaves_55 (by decide) ?_
                have hkd : ¬ kd C r1 w1 i := by
                  unfold kd; rw [if_pos c42]; exact fun h => h c47
                refine g_istore (lv2 := [(6, .int (nI 0)), (5, .int (bi (spC C r1 i = 0))), (0, .ref q), (1, .int (nI r1)), (2, .int (nI w1)), (3, .int (nI zz)), (4, .int (nI i))]) F dX9_leaves_106 (by decide) rfl ?_
                refine g_iload_n F 5 dX9_leaves_108 rfl rfl ?_
                refine g_iload F 0 dX9_leaves_109 rfl ?_
                refine g_if_eqN (tgt := 121) F dX9_leaves_111 (by decide) (by decide) (fun c111 => ?_) (fun c111 => absurd c111 (by decide))
                refine g_iconst (v := nI 0) F dX9_leaves_121 (by decide) ?_
                refine g_ior F dX9_leaves_122 ?_
                refine g_top ((nI zz) ||| (nI 0)) (nI zz) (by rw [nI_or, Nat.or_zero]) ?_
                refine g_istore_n (lv2 := [(3, .int (nI zz)), (6, .int (nI 0)), (5, .int (bi (spC C r1 i = 0))), (0, .ref q), (1, .int (nI r1)), (2, .int (nI w1)), (4, .int (nI i))]) F dX9_leaves_123 rfl (by decide) rfl ?_
                refine g_iinc (k := 6) (v := nI (i + 1)) (lv2 := [(4, .int (nI (i + 1))), (3, .int (nI zz)), (6, .int (nI 0)), (5, .int (bi (spC C r1 i = 0))), (0, .ref q), (1, .int (nI r1)), (2, .int (nI w1))]) F dX9_leaves_124 rfl (nI_1 _) (by decide) rfl ?_
                refine g_goto (tgt := 25) F dX9_leaves_127 (by decide) ?_
                refine g_lv [4, 5, 6, 1, 0] rfl ?_
                exact ih25 (i + 1) zz B2_36 Q2_36 K2_36 (by omega) (by omega) (by show _ = cI _ _ _; rw [cI_neg hkd, hz])
              · skip
                refine g_iconst (v := nI 1) F dX9_leaves_50 (by decide) ?_
                refine g_goto (tgt := 106) F dX9_leaves_51 (by decide) ?_
                have hkd : kd C r1 w1 i := by
                  unfold kd; rw [if_pos c42]; exact c47
                refine g_istore (lv2 := [(6, .int (nI 1)), (5, .int (bi (spC C r1 i = 0))), (0, .ref q), (1, .int (nI r1)), (2, .int (nI w1)), (3, .int (nI zz)), (4, .int (nI i))]) F dX9_leaves_106 (by decide) rfl ?_
                refine g_iload_n F 5 dX9_leaves_108 rfl rfl ?_
                refine g_iload F 0 dX9_leaves_109 rfl ?_
                refine g_if_eqN (tgt := 121) F dX9_leaves_111 (by decide) (by decide) (fun c111 => absurd c111 (by decide)) (fun c111 => ?_)
                refine g_iconst (v := nI 1) F dX9_leaves_114 (by decide) ?_
                refine g_iload F 6 dX9_leaves_115 rfl ?_
                refine g_ishl F dX9_leaves_117 ?_
                refine g_top ((nI 1) <<< ((nI i) &&& 31)) (nI (2 ^ i)) (by rw [shl1 i (by omega)]) ?_
                refine g_goto (tgt := 122) F dX9_leaves_118 (by decide) ?_
                refine g_ior F dX9_leaves_122 ?_
                refine g_top ((nI zz) ||| (nI (2 ^ i))) (nI (zz ||| 2 ^ i)) (by rw [nI_or]) ?_
                refine g_istore_n (lv2 := [(3, .int (nI (zz ||| 2 ^ i))), (6, .int (nI 1)), (5, .int (bi (spC C r1 i = 0))), (0, .ref q), (1, .int (nI r1)), (2, .int (nI w1)), (4, .int (nI i))]) F dX9_leaves_123 rfl (by decide) rfl ?_
                refine g_iinc (k := 6) (v := nI (i + 1)) (lv2 := [(4, .int (nI (i + 1))), (3, .int (nI (zz ||| 2 ^ i))), (6, .int (nI 1)), (5, .int (bi (spC C r1 i = 0))), (0, .ref q), (1, .int (nI r1)), (2, .int (nI w1))]) F dX9_leaves_124 rfl (nI_1 _) (by decide) rfl ?_
                refine g_goto (tgt := 25) F dX9_leaves_127 (by decide) ?_
                refine g_lv [4, 5, 6, 1, 0] rfl ?_
                exact ih25 (i + 1) (zz ||| 2 ^ i) B2_36 Q2_36 K2_36 (by omega) (by omega) (by show _ = cI _ _ _; rw [cI_pos hkd, hz])
      refine g_lv [2, 3, 4, 1, 0] rfl ?_
      exact loop25 ((16 - 0) + 1) 0 0 B Q K (Nat.lt_succ_self _) (by omega) (by rfl)
    · skip
      refine g_ldc (v := (-1000001)) F dX9_leaves_17 (by decide +kernel) ?_
      exact hret _ _ _ _ dX9_leaves_19 ⟨B, Q, K, (by unfold p_leaves; rw [cI_neg (fun h => by first | exact c5 h.1 | exact c14 h.2)]), (by rfl)⟩
set_option maxHeartbeats 4000000 in
set_option maxRecDepth 100000 in
theorem c_X9_free (l : Launch) (E : En) (q : Nat) (r : Nat → Nat) (rc : Nat) (tl : Nat) (at9 : Nat) (lf9 : Int32) (pl9 : Int32) (vl9 : Int32) (fa : Nat) (rs9 : Nat) (cs : Int32) (dn : Nat) (S : Nat → Nat) (C : CS) (Ow : Nat → Nat) (HH : Nat → Nat) (H : Nat → CS) (x1 : Int32) (hR : Rel S C) (hI : IC C) (hRH : RelH HH H rc) (hrc : rc ≤ 3) : CtI l yX9_free wsX9_free ({ frames := 7, cells := 0, slots := 0, locals := 163 } : Room) E [.ref q, .int (x1)] [ob 9 q [.ref (r 0), .ref (r 1), .ref (r 2), .int (nI rc), .ref (r 3), .int (nI tl), .ref (r 4), .ref (r 5), .ref (r 6), .ref (r 7), .ref (r 8), .ref (r 9), .ref (r 10), .ref (r 11), .ref (r 12), .int (nI at9), .int (lf9), .int (pl9), .int (vl9), .int (nI fa), .int (nI rs9), .int (cs), .int (nI dn)], ai E (r 0) 892 S, ai E (r 12) 96 Ow, ai E (r 2) 2676 HH] (fun rr uu => ∃ (S2 : Nat → Nat), ∃ (O2 : Nat → Nat), ∃ (H2 : Nat → Nat), (Rel S2 (cI (rng x1 (sZ C) ∧ ¬ dv x1 = 0) (frS C (dv x1) 1) C)) ∧ (RelH H2 (cI (rng x1 (sZ C) ∧ ¬ dv x1 = 0) (rcH C H rc) H) (cI (rng x1 (sZ C) ∧ ¬ dv x1 = 0) (rcn rc) rc)) ∧ rr = (p_free C x1) ∧ uu = [ob 9 q [.ref (r 0), .ref (r 1), .ref (r 2), .int (nI (cI (rng x1 (sZ C) ∧ ¬ dv x1 = 0) (rcn rc) rc)), .ref (r 3), .int (nI tl), .ref (r 4), .ref (r 5), .ref (r 6), .ref (r 7), .ref (r 8), .ref (r 9), .ref (r 10), .ref (r 11), .ref (r 12), .int (nI at9), .int (lf9), .int (pl9), .int (vl9), .int (nI fa), .int (nI rs9), .int (cs), .int (nI dn)], ai E (r 0) 892 S2, ai E (r 12) 96 O2, ai E (r 2) 2676 H2]) := by
  refine CtI.of cX9_free 2 RX9 .int rfl (by decide) rfl (Or.inl rfl) (Nat.le_of_ble_eq_true rfl) (fun h => by cases h) ?_
  intro Γ F hret
  show G Γ E 0 0 0 [(0, .ref q), (1, .int (x1))] [] [ob 9 q [.ref (r 0), .ref (r 1), .ref (r 2), .int (nI rc), .ref (r 3), .int (nI tl), .ref (r 4), .ref (r 5), .ref (r 6), .ref (r 7), .ref (r 8), .ref (r 9), .ref (r 10), .ref (r 11), .ref (r 12), .int (nI at9), .int (lf9), .int (pl9), .int (vl9), .int (nI fa), .int (nI rs9), .int (cs), .int (nI dn)], ai E (r 0) 892 S, ai E (r 12) 96 Ow, ai E (r 2) 2676 HH]
  refine g_aload_n F 0 dX9_free_0 rfl rfl ?_
  refine g_iload_n F 1 dX9_free_1 rfl rfl ?_
  refine g_callViR (n := 1) F [0, 1] (c_X9_isRoot l E q r rc tl at9 lf9 pl9 vl9 fa rs9 cs dn S C x1 (by assumption) (by assumption)) dX9_free_2 rfl (by decide) rfl rfl rfl (Nat.le_of_ble_eq_true rfl) ⟨Nat.le_of_ble_eq_true rfl, Nat.le_of_ble_eq_true rfl⟩ rfl rfl ⟨Nat.le_of_ble_eq_true rfl, Nat.le_of_ble_eq_true rfl⟩ 0 rfl rfl gX9_free_X9_isRoot (by decide +kernel) (fun r u hp => by obtain ⟨-, h⟩ := hp; exact h) ?_
  rintro r_2 u_2 ⟨rfl, -⟩
  refine g_if_eqB (tgt := 12) F dX9_free_5 (by decide) (fun c5 => ?_) (fun c5 => ?_)
  · skip
    refine g_aload_n F 0 dX9_free_12 rfl rfl ?_
    refine g_iload_n F 1 dX9_free_13 rfl rfl ?_
    refine g_callViR (n := 1) F [0, 1] (c_X9_isRoot l E q r rc tl at9 lf9 pl9 vl9 fa rs9 cs dn S C x1 (by assumption) (by assumption)) dX9_free_14 rfl (by decide) rfl rfl rfl (Nat.le_of_ble_eq_true rfl) ⟨Nat.le_of_ble_eq_true rfl, Nat.le_of_ble_eq_true rfl⟩ rfl rfl ⟨Nat.le_of_ble_eq_true rfl, Nat.le_of_ble_eq_true rfl⟩ 0 rfl rfl gX9_free_X9_isRoot (by decide +kernel) (fun r u hp => by obtain ⟨-, h⟩ := hp; exact h) ?_
    rintro r_14 u_14 ⟨rfl, -⟩
    refine g_if_eqB (tgt := 25) F dX9_free_17 (by decide) (fun c17 => ?_) (fun c17 => ?_)
    · skip
      refine g_ldc (v := (-1000001)) F dX9_free_25 (by decide +kernel) ?_
      exact hret _ _ _ _ dX9_free_27 ⟨S, Ow, HH, (by rw [cI_neg (fun h => c5 h.1)]; exact hR), (by rw [cI_neg (fun h => c5 h.1), cI_neg (fun h => c5 h.1)]; exact hRH), (by unfold p_free; rw [cI_neg c5]), (by first | (rw [cI_neg (fun h => c5 h.1)]; done) | (rw [cI_neg (fun h => c5 h.1)]; rfl))⟩
    · skip
      exact absurd c17 c5
  · skip
    obtain ⟨r1, hr1, rfl⟩ := rng_of (by have := hI.2.2.2.1; omega) (c5)
    have hz8 := hI.2.2.2.1
    have hrP : rng (nI r1) (sZ C) := (rng_nI (by omega) (by omega)).mpr hr1
    refine g_iload_n F 1 dX9_free_8 rfl rfl ?_
    refine g_if_neN (tgt := 28) F dX9_free_9 (by decide) (by omega) (fun c9 => ?_) (fun c9 => ?_)
    · skip
      have hP : rng (nI r1) (sZ C) ∧ ¬ dv (nI r1) = 0 := ⟨hrP, by rw [dv_nI (by omega)]; exact c9⟩
      refine g_aload_n F 0 dX9_free_28 rfl rfl ?_
      refine g_callVvW (n := 0) F [0, 1, 3] (c_X9_record l E q r rc tl at9 lf9 pl9 vl9 fa rs9 cs dn S C HH H (by assumption) (by assumption) (by assumption) (by omega)) dX9_free_29 rfl (by decide) rfl rfl rfl (Nat.le_of_ble_eq_true rfl) ⟨Nat.le_of_ble_eq_true rfl, Nat.le_of_ble_eq_true rfl⟩ rfl rfl ⟨Nat.le_of_ble_eq_true rfl, Nat.le_of_ble_eq_true rfl⟩ 0 rfl rfl gX9_free_X9_record (by decide +kernel) (fun u hp => by obtain ⟨_, -, rfl⟩ := hp; rfl) ?_
      rintro u_29 ⟨H2_29, hRH2_29, rfl⟩
      refine g_ws (w2 := [ob 9 q [.ref (r 0), .ref (r 1), .ref (r 2), .int (nI (rcn rc)), .ref (r 3), .int (nI tl), .ref (r 4), .ref (r 5), .ref (r 6), .ref (r 7), .ref (r 8), .ref (r 9), .ref (r 10), .ref (r 11), .ref (r 12), .int (nI at9), .int (lf9), .int (pl9), .int (vl9), .int (nI fa), .int (nI rs9), .int (cs), .int (nI dn)], ai E (r 0) 892 S, ai E (r 12) 96 Ow, ai E (r 2) 2676 H2_29]) rfl ?_
      refine g_aload_n F 0 dX9_free_32 rfl rfl ?_
      refine g_iload_n F 1 dX9_free_33 rfl rfl ?_
      refine g_callVvW (n := 1) F [0, 1] (c_X9_dropRoot l E q r (rcn rc) tl at9 lf9 pl9 vl9 fa rs9 cs dn S C r1 (by assumption) (by omega) (by omega)) dX9_free_34 rfl (by decide) rfl rfl rfl (Nat.le_of_ble_eq_true rfl) ⟨Nat.le_of_ble_eq_true rfl, Nat.le_of_ble_eq_true rfl⟩ rfl rfl ⟨Nat.le_of_ble_eq_true rfl, Nat.le_of_ble_eq_true rfl⟩ 0 rfl rfl gX9_free_X9_dropRoot (by decide +kernel) (fun u hp => by obtain ⟨_, -, rfl⟩ := hp; rfl) ?_
      rintro u_34 ⟨S2_34, hR2_34, rfl⟩
      refine g_ws (w2 := [ob 9 q [.ref (r 0), .ref (r 1), .ref (r 2), .int (nI (rcn rc)), .ref (r 3), .int (nI tl), .ref (r 4), .ref (r 5), .ref (r 6), .ref (r 7), .ref (r 8), .ref (r 9), .ref (r 10), .ref (r 11), .ref (r 12), .int (nI at9), .int (lf9), .int (pl9), .int (vl9), .int (nI fa), .int (nI rs9), .int (cs), .int (nI dn)], ai E (r 0) 892 S2_34, ai E (r 12) 96 Ow, ai E (r 2) 2676 H2_29]) rfl ?_
      refine g_aload_n F 0 dX9_free_37 rfl rfl ?_
      refine g_callViW (n := 0) F [0, 1, 2] (c_X9_letGo l E q r (rcn rc) tl at9 lf9 pl9 vl9 fa rs9 cs dn S2_34 (drS C r1) Ow (by exact hR2_34) (by exact IC_dr hI hr1 (by omega))) dX9_free_38 rfl (by decide) rfl rfl rfl (Nat.le_of_ble_eq_true rfl) ⟨Nat.le_of_ble_eq_true rfl, Nat.le_of_ble_eq_true rfl⟩ rfl rfl ⟨Nat.le_of_ble_eq_true rfl, Nat.le_of_ble_eq_true rfl⟩ 0 rfl rfl gX9_free_X9_letGo (by decide +kernel) (fun r u hp => by obtain ⟨_, _, -, -, rfl⟩ := hp; rfl) ?_
      rintro r_38 u_38 ⟨S2_38, O2_38, hR2_38, rfl, rfl⟩
      refine g_ws (w2 := [ob 9 q [.ref (r 0), .ref (r 1), .ref (r 2), .int (nI (rcn rc)), .ref (r 3), .int (nI tl), .ref (r 4), .ref (r 5), .ref (r 6), .ref (r 7), .ref (r 8), .ref (r 9), .ref (r 10), .ref (r 11), .ref (r 12), .int (nI at9), .int (lf9), .int (pl9), .int (vl9), .int (nI fa), .int (nI rs9), .int (cs), .int (nI dn)], ai E (r 0) 892 S2_38, ai E (r 12) 96 O2_38, ai E (r 2) 2676 H2_29]) rfl ?_
      exact hret _ _ _ _ dX9_free_41 ⟨S2_38, O2_38, H2_29, (by rw [cI_pos hP]; rw [dv_nI (by omega)]; exact hR2_38), (by rw [cI_pos hP, cI_pos hP]; exact hRH2_29), (by unfold p_free; rw [cI_pos hrP, dv_nI (by omega), if_neg c9]; rfl), (by first | (rw [cI_pos hP]; done) | (rw [cI_pos hP]; rfl))⟩
    · skip
      refine g_aload_n F 0 dX9_free_12 rfl rfl ?_
      refine g_iload_n F 1 dX9_free_13 rfl rfl ?_
      refine g_callViR (n := 1) F [0, 1] (c_X9_isRoot l E q r rc tl at9 lf9 pl9 vl9 fa rs9 cs dn S C (nI r1) (by assumption) (by assumption)) dX9_free_14 rfl (by decide) rfl rfl rfl (Nat.le_of_ble_eq_true rfl) ⟨Nat.le_of_ble_eq_true rfl, Nat.le_of_ble_eq_true rfl⟩ rfl rfl ⟨Nat.le_of_ble_eq_true rfl, Nat.le_of_ble_eq_true rfl⟩ 0 rfl rfl gX9_free_X9_isRoot (by decide +kernel) (fun r u hp => by obtain ⟨-, h⟩ := hp; exact h) ?_
      rintro r_14 u_14 ⟨rfl, -⟩
      refine g_if_eqB (tgt := 25) F dX9_free_17 (by decide) (fun c17 => ?_) (fun c17 => ?_)
      · skip
        exact absurd hrP c17
      · skip
        refine g_ldc (v := (-1000002)) F dX9_free_20 (by decide +kernel) ?_
        refine g_goto (tgt := 27) F dX9_free_22 (by decide) ?_
        exact hret _ _ _ _ dX9_free_27 ⟨S, Ow, HH, (by rw [cI_neg (fun h => h.2 (by rw [dv_nI (by omega)]; exact c9))]; exact hR), (by rw [cI_neg (fun h => h.2 (by rw [dv_nI (by omega)]; exact c9)), cI_neg (fun h => h.2 (by rw [dv_nI (by omega)]; exact c9))]; exact hRH), (by unfold p_free; rw [cI_pos hrP, dv_nI (by omega), if_pos c9]), (by first | (rw [cI_neg (fun h => h.2 (by rw [dv_nI (by omega)]; exact c9))]; done) | (rw [cI_neg (fun h => h.2 (by rw [dv_nI (by omega)]; exact c9))]; rfl))⟩
set_option maxHeartbeats 4000000 in
set_option maxRecDepth 100000 in
theorem c_X9_back (l : Launch) (E : En) (q : Nat) (r : Nat → Nat) (rc : Nat) (tl : Nat) (at9 : Nat) (lf9 : Int32) (pl9 : Int32) (vl9 : Int32) (fa : Nat) (rs9 : Nat) (cs : Int32) (dn : Nat) (S : Nat → Nat) (C : CS) (Ow : Nat → Nat) (HH : Nat → Nat) (H : Nat → CS) (x1 : Int32) (hR : Rel S C) (hI : IC C) (hRH : RelH HH H rc) (hrc : rc ≤ 3) : CtI l yX9_back wsX9_back ({ frames := 7, cells := 0, slots := 0, locals := 163 } : Room) E [.ref q, .int (x1)] [ob 9 q [.ref (r 0), .ref (r 1), .ref (r 2), .int (nI rc), .ref (r 3), .int (nI tl), .ref (r 4), .ref (r 5), .ref (r 6), .ref (r 7), .ref (r 8), .ref (r 9), .ref (r 10), .ref (r 11), .ref (r 12), .int (nI at9), .int (lf9), .int (pl9), .int (vl9), .int (nI fa), .int (nI rs9), .int (cs), .int (nI dn)], ai E (r 0) 892 S, ai E (r 12) 96 Ow, ai E (r 2) 2676 HH] (fun rr uu => ∃ (S2 : Nat → Nat), ∃ (O2 : Nat → Nat), ∃ (H2 : Nat → Nat), (Rel S2 (cI (rng x1 (sZ C)) (bkS C (dv x1)) C)) ∧ (RelH H2 (cI (rng x1 (sZ C)) (rcH C H rc) H) (cI (rng x1 (sZ C)) (rcn rc) rc)) ∧ rr = (p_back C x1) ∧ uu = [ob 9 q [.ref (r 0), .ref (r 1), .ref (r 2), .int (nI (cI (rng x1 (sZ C)) (rcn rc) rc)), .ref (r 3), .int (nI tl), .ref (r 4), .ref (r 5), .ref (r 6), .ref (r 7), .ref (r 8), .ref (r 9), .ref (r 10), .ref (r 11), .ref (r 12), .int (nI at9), .int (lf9), .int (pl9), .int (vl9), .int (nI fa), .int (nI rs9), .int (cs), .int (nI dn)], ai E (r 0) 892 S2, ai E (r 12) 96 O2, ai E (r 2) 2676 H2]) := by
  refine CtI.of cX9_back 3 RX9 .int rfl (by decide) rfl (Or.inl rfl) (Nat.le_of_ble_eq_true rfl) (fun h => by cases h) ?_
  intro Γ F hret
  show G Γ E 0 0 0 [(0, .ref q), (1, .int (x1))] [] [ob 9 q [.ref (r 0), .ref (r 1), .ref (r 2), .int (nI rc), .ref (r 3), .int (nI tl), .ref (r 4), .ref (r 5), .ref (r 6), .ref (r 7), .ref (r 8), .ref (r 9), .ref (r 10), .ref (r 11), .ref (r 12), .int (nI at9), .int (lf9), .int (pl9), .int (vl9), .int (nI fa), .int (nI rs9), .int (cs), .int (nI dn)], ai E (r 0) 892 S, ai E (r 12) 96 Ow, ai E (r 2) 2676 HH]
  refine g_aload_n F 0 dX9_back_0 rfl rfl ?_
  refine g_iload_n F 1 dX9_back_1 rfl rfl ?_
  refine g_callViR (n := 1) F [0, 1] (c_X9_isRoot l E q r rc tl at9 lf9 pl9 vl9 fa rs9 cs dn S C x1 (by assumption) (by assumption)) dX9_back_2 rfl (by decide) rfl rfl rfl (Nat.le_of_ble_eq_true rfl) ⟨Nat.le_of_ble_eq_true rfl, Nat.le_of_ble_eq_true rfl⟩ rfl rfl ⟨Nat.le_of_ble_eq_true rfl, Nat.le_of_ble_eq_true rfl⟩ 0 rfl rfl gX9_back_X9_isRoot (by decide +kernel) (fun r u hp => by obtain ⟨-, h⟩ := hp; exact h) ?_
  rintro r_2 u_2 ⟨rfl, -⟩
  refine g_if_neB (tgt := 11) F dX9_back_5 (by decide) (fun c5 => ?_) (fun c5 => ?_)
  · skip
    obtain ⟨r1, hr1, rfl⟩ := rng_of (by have := hI.2.2.2.1; omega) (c5)
    have hz8 := hI.2.2.2.1
    have hP : rng (nI r1) (sZ C) := (rng_nI (by omega) (by omega)).mpr hr1
    refine g_aload_n F 0 dX9_back_11 rfl rfl ?_
    refine g_callVvW (n := 0) F [0, 1, 3] (c_X9_record l E q r rc tl at9 lf9 pl9 vl9 fa rs9 cs dn S C HH H (by assumption) (by assumption) (by assumption) (by omega)) dX9_back_12 rfl (by decide) rfl rfl rfl (Nat.le_of_ble_eq_true rfl) ⟨Nat.le_of_ble_eq_true rfl, Nat.le_of_ble_eq_true rfl⟩ rfl rfl ⟨Nat.le_of_ble_eq_true rfl, Nat.le_of_ble_eq_true rfl⟩ 0 rfl rfl gX9_back_X9_record (by decide +kernel) (fun u hp => by obtain ⟨_, -, rfl⟩ := hp; rfl) ?_
    rintro u_12 ⟨H2_12, hRH2_12, rfl⟩
    refine g_ws (w2 := [ob 9 q [.ref (r 0), .ref (r 1), .ref (r 2), .int (nI (rcn rc)), .ref (r 3), .int (nI tl), .ref (r 4), .ref (r 5), .ref (r 6), .ref (r 7), .ref (r 8), .ref (r 9), .ref (r 10), .ref (r 11), .ref (r 12), .int (nI at9), .int (lf9), .int (pl9), .int (vl9), .int (nI fa), .int (nI rs9), .int (cs), .int (nI dn)], ai E (r 0) 892 S, ai E (r 12) 96 Ow, ai E (r 2) 2676 H2_12]) rfl ?_
    refine g_iconst (v := nI 0) F dX9_back_15 (by decide) ?_
    refine g_istore_n (lv2 := [(2, .int (nI 0)), (0, .ref q), (1, .int (nI r1))]) F dX9_back_16 rfl (by decide) rfl ?_
    have loop17 : ∀ (n : Nat) (i : Nat) (Sv : Nat → Nat), r1 - i < n → (i ≤ r1) → (Rel Sv (bk C i)) → G Γ E 0 0 17 [(0, .ref q), (1, .int (nI r1)), (2, .int (nI i))] [] [ob 9 q [.ref (r 0), .ref (r 1), .ref (r 2), .int (nI (rcn rc)), .ref (r 3), .int (nI tl), .ref (r 4), .ref (r 5), .ref (r 6), .ref (r 7), .ref (r 8), .ref (r 9), .ref (r 10), .ref (r 11), .ref (r 12), .int (nI at9), .int (lf9), .int (pl9), .int (vl9), .int (nI fa), .int (nI rs9), .int (cs), .int (nI dn)], ai E (r 0) 892 Sv, ai E (r 12) 96 Ow, ai E (r 2) 2676 H2_12] := by
      intro n
      induction n with
      | zero => intro i Sv hz; exact absurd hz (Nat.not_lt_zero _)
      | succ n ih17 =>
        intro i Sv hz17 hi hS
        refine g_iload_n F 2 dX9_back_17 rfl rfl ?_
        refine g_iload_n F 1 dX9_back_18 rfl rfl ?_
        refine g_icmp_geN (tgt := 33) F dX9_back_19 (by decide) (by omega) (by omega) (fun c19 => ?_) (fun c19 => ?_)
        · skip
          have e9 : i = r1 := by omega
          rw [e9] at hS
          refine g_iload_n F 1 dX9_back_33 rfl rfl ?_
          refine g_if_neN (tgt := 41) F dX9_back_34 (by decide) (by omega) (fun c34 => ?_) (fun c34 => ?_)
          · skip
            refine g_aload_n F 0 dX9_back_41 rfl rfl ?_
            refine g_callViW (n := 0) F [0, 1, 2] (c_X9_letGo l E q r (rcn rc) tl at9 lf9 pl9 vl9 fa rs9 cs dn Sv (bk C r1) Ow (by exact hS) (by exact IC_bk hI hr1)) dX9_back_42 rfl (by decide) rfl rfl rfl (Nat.le_of_ble_eq_true rfl) ⟨Nat.le_of_ble_eq_true rfl, Nat.le_of_ble_eq_true rfl⟩ rfl rfl ⟨Nat.le_of_ble_eq_true rfl, Nat.le_of_ble_eq_true rfl⟩ 0 rfl rfl gX9_back_X9_letGo (by decide +kernel) (fun r u hp => by obtain ⟨_, _, -, -, rfl⟩ := hp; rfl) ?_
            rintro r_42 u_42 ⟨S2_42, O2_42, hR2_42, rfl, rfl⟩
            refine g_ws (w2 := [ob 9 q [.ref (r 0), .ref (r 1), .ref (r 2), .int (nI (rcn rc)), .ref (r 3), .int (nI tl), .ref (r 4), .ref (r 5), .ref (r 6), .ref (r 7), .ref (r 8), .ref (r 9), .ref (r 10), .ref (r 11), .ref (r 12), .int (nI at9), .int (lf9), .int (pl9), .int (vl9), .int (nI fa), .int (nI rs9), .int (cs), .int (nI dn)], ai E (r 0) 892 S2_42, ai E (r 12) 96 O2_42, ai E (r 2) 2676 H2_12]) rfl ?_
            exact hret _ _ _ _ dX9_back_45 ⟨S2_42, O2_42, H2_12, (by rw [cI_pos hP]; rw [dv_nI (by omega), show bkS C r1 = frS C 0 r1 from if_neg c34]; exact hR2_42), (by rw [cI_pos hP, cI_pos hP]; exact hRH2_12), (by unfold p_back; rw [cI_pos hP, dv_nI (by omega), if_neg c34]; rfl), (by first | (rw [cI_pos hP]; done) | (rw [cI_pos hP]; rfl))⟩
          · skip
            refine g_iconst (v := nI 0) F dX9_back_37 (by decide) ?_
            refine g_goto (tgt := 45) F dX9_back_38 (by decide) ?_
            exact hret _ _ _ _ dX9_back_45 ⟨Sv, Ow, H2_12, (by rw [cI_pos hP]; rw [dv_nI (by omega), show bkS C r1 = C from if_pos c34]; rw [c34] at hS; exact bk_0' hS), (by rw [cI_pos hP, cI_pos hP]; exact hRH2_12), (by unfold p_back; rw [cI_pos hP, dv_nI (by omega), if_pos c34]), (by first | (rw [cI_pos hP]; done) | (rw [cI_pos hP]; rfl))⟩
        · skip
          refine g_aload_n F 0 dX9_back_22 rfl rfl ?_
          refine g_iconst (v := nI 0) F dX9_back_23 (by decide) ?_
          refine g_callVvW (n := 1) F [0, 1] (c_X9_dropRoot l E q r (rcn rc) tl at9 lf9 pl9 vl9 fa rs9 cs dn Sv (bk C i) 0 (by exact hS) (by show sZ C - i ≤ 8; omega) (by show 0 < sZ C - i; omega)) dX9_back_24 rfl (by decide) rfl rfl rfl (Nat.le_of_ble_eq_true rfl) ⟨Nat.le_of_ble_eq_true rfl, Nat.le_of_ble_eq_true rfl⟩ rfl rfl ⟨Nat.le_of_ble_eq_true rfl, Nat.le_of_ble_eq_true rfl⟩ 0 rfl rfl gX9_back_X9_dropRoot (by decide +kernel) (fun u hp => by obtain ⟨_, -, rfl⟩ := hp; rfl) ?_
          rintro u_24 ⟨S2_24, hR2_24, rfl⟩
          refine g_ws (w2 := [ob 9 q [.ref (r 0), .ref (r 1), .ref (r 2), .int (nI (rcn rc)), .ref (r 3), .int (nI tl), .ref (r 4), .ref (r 5), .ref (r 6), .ref (r 7), .ref (r 8), .ref (r 9), .ref (r 10), .ref (r 11), .ref (r 12), .int (nI at9), .int (lf9), .int (pl9), .int (vl9), .int (nI fa), .int (nI rs9), .int (cs), .int (nI dn)], ai E (r 0) 892 S2_24, ai E (r 12) 96 Ow, ai E (r 2) 2676 H2_12]) rfl ?_
          refine g_iinc (k := 2) (v := nI (i + 1)) (lv2 := [(2, .int (nI (i + 1))), (0, .ref q), (1, .int (nI r1))]) F dX9_back_27 rfl (nI_1 _) (by decide) rfl ?_
          refine g_goto (tgt := 17) F dX9_back_30 (by decide) ?_
          refine g_lv [1, 2, 0] rfl ?_
          exact ih17 (i + 1) S2_24 (by omega) (by omega) (by exact bk_s hR2_24)
    refine g_lv [1, 2, 0] rfl ?_
    exact loop17 ((r1 - 0) + 1) 0 S (Nat.lt_succ_self _) (by exact Nat.zero_le _) (by exact bk_0 hR)
  · skip
    refine g_ldc (v := (-1000001)) F dX9_back_8 (by decide +kernel) ?_
    exact hret _ _ _ _ dX9_back_10 ⟨S, Ow, HH, (by rw [cI_neg c5]; exact hR), (by rw [cI_neg c5, cI_neg c5]; exact hRH), (by unfold p_back; rw [cI_neg c5]), (by first | (rw [cI_neg c5]; done) | (rw [cI_neg c5]; rfl))⟩
set_option maxHeartbeats 4000000 in
set_option maxRecDepth 100000 in
theorem c_X9_ownedBy (l : Launch) (E : En) (q : Nat) (r : Nat → Nat) (rc : Nat) (tl : Nat) (at9 : Nat) (lf9 : Int32) (pl9 : Int32) (vl9 : Int32) (fa : Nat) (rs9 : Nat) (cs : Int32) (dn : Nat) (S : Nat → Nat) (C : CS) (Ow : Nat → Nat) (r1 : Nat) (al9 : Nat) (hR : Rel S C) (hI : IC C) (hr : r1 < sZ C) (hal : al9 ≤ 1) : CtI l yX9_ownedBy wsX9_ownedBy ({ frames := 6, cells := 0, slots := 0, locals := 140 } : Room) E [.ref q, .int (nI r1), .int (nI al9)] [ob 9 q [.ref (r 0), .ref (r 1), .ref (r 2), .int (nI rc), .ref (r 3), .int (nI tl), .ref (r 4), .ref (r 5), .ref (r 6), .ref (r 7), .ref (r 8), .ref (r 9), .ref (r 10), .ref (r 11), .ref (r 12), .int (nI at9), .int (lf9), .int (pl9), .int (vl9), .int (nI fa), .int (nI rs9), .int (cs), .int (nI dn)], ai E (r 0) 892 S, ai E (r 12) 96 Ow] (fun rr uu => ∃ (O2 : Nat → Nat), rr = (nI (owc C r1 al9 96)) ∧ uu = [ob 9 q [.ref (r 0), .ref (r 1), .ref (r 2), .int (nI rc), .ref (r 3), .int (nI tl), .ref (r 4), .ref (r 5), .ref (r 6), .ref (r 7), .ref (r 8), .ref (r 9), .ref (r 10), .ref (r 11), .ref (r 12), .int (nI at9), .int (lf9), .int (pl9), .int (vl9), .int (nI fa), .int (nI rs9), .int (cs), .int (nI dn)], ai E (r 0) 892 S, ai E (r 12) 96 O2]) := by
  refine CtI.of cX9_ownedBy 5 RX9 .int rfl (by decide) rfl (Or.inl rfl) (Nat.le_of_ble_eq_true rfl) (fun h => by cases h) ?_
  intro Γ F hret
  show G Γ E 0 0 0 [(0, .ref q), (1, .int (nI r1)), (2, .int (nI al9))] [] [ob 9 q [.ref (r 0), .ref (r 1), .ref (r 2), .int (nI rc), .ref (r 3), .int (nI tl), .ref (r 4), .ref (r 5), .ref (r 6), .ref (r 7), .ref (r 8), .ref (r 9), .ref (r 10), .ref (r 11), .ref (r 12), .int (nI at9), .int (lf9), .int (pl9), .int (vl9), .int (nI fa), .int (nI rs9), .int (cs), .int (nI dn)], ai E (r 0) 892 S, ai E (r 12) 96 Ow]
  have hz8 := hI.2.2.2.1
  refine g_aload_n F 0 dX9_ownedBy_0 rfl rfl ?_
  refine g_callVvW (n := 0) F [0, 1, 2] (c_X9_findOwners l E q r rc tl at9 lf9 pl9 vl9 fa rs9 cs dn S C Ow (by assumption) (by assumption)) dX9_ownedBy_1 rfl (by decide) rfl rfl rfl (Nat.le_of_ble_eq_true rfl) ⟨Nat.le_of_ble_eq_true rfl, Nat.le_of_ble_eq_true rfl⟩ rfl rfl ⟨Nat.le_of_ble_eq_true rfl, Nat.le_of_ble_eq_true rfl⟩ 0 rfl rfl gX9_ownedBy_X9_findOwners (by decide +kernel) (fun u hp => by obtain ⟨_, -, rfl⟩ := hp; rfl) ?_
  rintro u_1 ⟨O2_1, hO2_1, rfl⟩
  refine g_ws (w2 := [ob 9 q [.ref (r 0), .ref (r 1), .ref (r 2), .int (nI rc), .ref (r 3), .int (nI tl), .ref (r 4), .ref (r 5), .ref (r 6), .ref (r 7), .ref (r 8), .ref (r 9), .ref (r 10), .ref (r 11), .ref (r 12), .int (nI at9), .int (lf9), .int (pl9), .int (vl9), .int (nI fa), .int (nI rs9), .int (cs), .int (nI dn)], ai E (r 0) 892 S, ai E (r 12) 96 O2_1]) rfl ?_
  refine g_iconst (v := nI 0) F dX9_ownedBy_4 (by decide) ?_
  refine g_istore_n (lv2 := [(3, .int (nI 0)), (0, .ref q), (1, .int (nI r1)), (2, .int (nI al9))]) F dX9_ownedBy_5 rfl (by decide) rfl ?_
  refine g_iconst (v := nI 0) F dX9_ownedBy_6 (by decide) ?_
  refine g_istore (lv2 := [(4, .int (nI 0)), (3, .int (nI 0)), (0, .ref q), (1, .int (nI r1)), (2, .int (nI al9))]) F dX9_ownedBy_7 (by decide) rfl ?_
  have loop9 : ∀ (n : Nat) (i : Nat) (y : Nat), 96 - i < n → (i ≤ 96) → (y = owc C r1 al9 i) → G Γ E 0 0 9 [(0, .ref q), (1, .int (nI r1)), (2, .int (nI al9)), (3, .int (nI y)), (4, .int (nI i))] [] [ob 9 q [.ref (r 0), .ref (r 1), .ref (r 2), .int (nI rc), .ref (r 3), .int (nI tl), .ref (r 4), .ref (r 5), .ref (r 6), .ref (r 7), .ref (r 8), .ref (r 9), .ref (r 10), .ref (r 11), .ref (r 12), .int (nI at9), .int (lf9), .int (pl9), .int (vl9), .int (nI fa), .int (nI rs9), .int (cs), .int (nI dn)], ai E (r 0) 892 S, ai E (r 12) 96 O2_1] := by
    intro n
    induction n with
    | zero => intro i y hz; exact absurd hz (Nat.not_lt_zero _)
    | succ n ih9 =>
      intro i y hz9 hi hy
      refine g_iload F 4 dX9_ownedBy_9 rfl ?_
      refine g_bipush (v := nI 96) F dX9_ownedBy_11 (by decide) ?_
      refine g_icmp_geN (tgt := 61) F dX9_ownedBy_13 (by decide) (by omega) (by omega) (fun c13 => ?_) (fun c13 => ?_)
      · skip
        refine g_iload_n F 3 dX9_ownedBy_61 rfl rfl ?_
        exact hret _ _ _ _ dX9_ownedBy_62 ⟨O2_1, (congrArg nI (by rw [hy, show i = 96 by omega])), (by rfl)⟩
      · skip
        have ho7 := hO2_1 i (by omega)
        have hob := own_BU C r1 i
        have hbt := obs_bit (C := C) (b := i) (sZ C) hr
        have hoe := obs_eq (C := C) (b := i) (sZ C) hr
        have ho6 : obs C (sZ C) i < 2 ^ 8 := Nat.lt_of_lt_of_le (obs_lt C _ i) (Nat.pow_le_pow_right (by decide) hI.2.2.2.1)
        have hp9 : 2 ^ r1 ≤ 2 ^ 8 := Nat.pow_le_pow_right (by decide) (by omega)
        refine g_iload_n F 3 dX9_ownedBy_16 rfl rfl ?_
        refine g_iload_n F 2 dX9_ownedBy_17 rfl rfl ?_
        refine g_if_eqN (tgt := 42) F dX9_ownedBy_18 (by decide) (by omega) (fun c18 => ?_) (fun c18 => ?_)
        · skip
          refine g_aload_n F 0 dX9_ownedBy_42 rfl rfl ?_
          refine g_get F 0 14 dX9_ownedBy_43 rfl rfl (by decide) (by decide +kernel) (by decide +kernel) rfl ?_
          refine g_iload F 4 dX9_ownedBy_46 rfl ?_
          refine g_iald F 2 dX9_ownedBy_48 rfl (by omega) (by decide) ?_
          refine g_top (nI (O2_1 i)) (nI (obs C (sZ C) i)) (by rw [ho7]) ?_
          refine g_iload_n F 1 dX9_ownedBy_49 rfl rfl ?_
          refine g_ishr F dX9_ownedBy_50 ?_
          refine g_iconst (v := nI 1) F dX9_ownedBy_51 (by decide) ?_
          refine g_iand F dX9_ownedBy_52 ?_
          refine g_top (((nI (obs C (sZ C) i)) >>> ((nI r1) &&& 31)) &&& (nI 1)) (nI (own C r1 i)) (by rw [shr_bit r1 (by omega) _ (by omega), ← hbt]) ?_
          refine g_iaddN F dX9_ownedBy_53 ?_
          refine g_istore_n (lv2 := [(3, .int (nI (y + (own C r1 i)))), (0, .ref q), (1, .int (nI r1)), (2, .int (nI al9)), (4, .int (nI i))]) F dX9_ownedBy_54 rfl (by decide) rfl ?_
          refine g_iinc (k := 4) (v := nI (i + 1)) (lv2 := [(4, .int (nI (i + 1))), (3, .int (nI (y + (own C r1 i)))), (0, .ref q), (1, .int (nI r1)), (2, .int (nI al9))]) F dX9_ownedBy_55 rfl (nI_1 _) (by decide) rfl ?_
          refine g_goto (tgt := 9) F dX9_ownedBy_58 (by decide) ?_
          refine g_lv [2, 3, 4, 1, 0] rfl ?_
          exact ih9 (i + 1) (y + (own C r1 i)) (by omega) (by omega) (by unfold owc at hy ⊢; rw [if_pos c18] at hy ⊢; rw [cn_s, hy]; rcases (show own C r1 i = 0 ∨ own C r1 i = 1 by omega) with h9 | h9; (rw [if_pos h9, h9]); (rw [if_neg (by omega), h9]))
        · skip
          refine g_aload_n F 0 dX9_ownedBy_21 rfl rfl ?_
          refine g_get F 0 14 dX9_ownedBy_22 rfl rfl (by decide) (by decide +kernel) (by decide +kernel) rfl ?_
          refine g_iload F 4 dX9_ownedBy_25 rfl ?_
          refine g_iald F 2 dX9_ownedBy_27 rfl (by omega) (by decide) ?_
          refine g_top (nI (O2_1 i)) (nI (obs C (sZ C) i)) (by rw [ho7]) ?_
          refine g_iconst (v := nI 1) F dX9_ownedBy_28 (by decide) ?_
          refine g_iload_n F 1 dX9_ownedBy_29 rfl rfl ?_
          refine g_ishl F dX9_ownedBy_30 ?_
          refine g_top ((nI 1) <<< ((nI r1) &&& 31)) (nI (2 ^ r1)) (by rw [shl1 r1 (by omega)]) ?_
          refine g_icmp_neN (tgt := 38) F dX9_ownedBy_31 (by decide) (by omega) (by omega) (fun c31 => ?_) (fun c31 => ?_)
          · skip
            refine g_iconst (v := nI 0) F dX9_ownedBy_38 (by decide) ?_
            refine g_goto (tgt := 53) F dX9_ownedBy_39 (by decide) ?_
            refine g_iaddN F dX9_ownedBy_53 ?_
            refine g_istore_n (lv2 := [(3, .int (nI (y + 0))), (0, .ref q), (1, .int (nI r1)), (2, .int (nI al9)), (4, .int (nI i))]) F dX9_ownedBy_54 rfl (by decide) rfl ?_
            refine g_iinc (k := 4) (v := nI (i + 1)) (lv2 := [(4, .int (nI (i + 1))), (3, .int (nI (y + 0))), (0, .ref q), (1, .int (nI r1)), (2, .int (nI al9))]) F dX9_ownedBy_55 rfl (nI_1 _) (by decide) rfl ?_
            refine g_goto (tgt := 9) F dX9_ownedBy_58 (by decide) ?_
            refine g_lv [2, 3, 4, 1, 0] rfl ?_
            exact ih9 (i + 1) (y + 0) (by omega) (by omega) (by unfold owc at hy ⊢; rw [if_neg c18] at hy ⊢; rw [cw_s, hy]; rw [hoe] at c31; by_cases h9 : own C r1 i = 0; (rw [if_pos h9]); (rw [if_neg h9, if_neg (fun h8 => c31 ⟨by omega, h8⟩)]))
          · skip
            refine g_iconst (v := nI 1) F dX9_ownedBy_34 (by decide) ?_
            refine g_goto (tgt := 53) F dX9_ownedBy_35 (by decide) ?_
            refine g_iaddN F dX9_ownedBy_53 ?_
            refine g_istore_n (lv2 := [(3, .int (nI (y + 1))), (0, .ref q), (1, .int (nI r1)), (2, .int (nI al9)), (4, .int (nI i))]) F dX9_ownedBy_54 rfl (by decide) rfl ?_
            refine g_iinc (k := 4) (v := nI (i + 1)) (lv2 := [(4, .int (nI (i + 1))), (3, .int (nI (y + 1))), (0, .ref q), (1, .int (nI r1)), (2, .int (nI al9))]) F dX9_ownedBy_55 rfl (nI_1 _) (by decide) rfl ?_
            refine g_goto (tgt := 9) F dX9_ownedBy_58 (by decide) ?_
            refine g_lv [2, 3, 4, 1, 0] rfl ?_
            exact ih9 (i + 1) (y + 1) (by omega) (by omega) (by unfold owc at hy ⊢; rw [if_neg c18] at hy ⊢; rw [cw_s, hy]; rw [hoe] at c31; rw [if_neg (by omega), if_pos c31.2])
  refine g_lv [2, 3, 4, 1, 0] rfl ?_
  exact loop9 ((96 - 0) + 1) 0 0 (Nat.lt_succ_self _) (by omega) (by unfold owc; split; (rw [cn_0]); (rw [cw_0]))
set_option maxHeartbeats 4000000 in
set_option maxRecDepth 100000 in
theorem c_X9_rootOf (l : Launch) (E : En) (q : Nat) (r : Nat → Nat) (rc : Nat) (tl : Nat) (at9 : Nat) (lf9 : Int32) (pl9 : Int32) (vl9 : Int32) (fa : Nat) (rs9 : Nat) (cs : Int32) (dn : Nat) (S : Nat → Nat) (C : CS) (Ow : Nat → Nat) (x1 : Int32) (x2 : Int32) (hR : Rel S C) (hI : IC C) : CtI l yX9_rootOf wsX9_rootOf ({ frames := 7, cells := 0, slots := 0, locals := 164 } : Room) E [.ref q, .int (x1), .int (x2)] [ob 9 q [.ref (r 0), .ref (r 1), .ref (r 2), .int (nI rc), .ref (r 3), .int (nI tl), .ref (r 4), .ref (r 5), .ref (r 6), .ref (r 7), .ref (r 8), .ref (r 9), .ref (r 10), .ref (r 11), .ref (r 12), .int (nI at9), .int (lf9), .int (pl9), .int (vl9), .int (nI fa), .int (nI rs9), .int (cs), .int (nI dn)], ai E (r 0) 892 S, ai E (r 12) 96 Ow] (fun rr uu => ∃ (O2 : Nat → Nat), rr = (p_rootOf C x1 x2) ∧ uu = [ob 9 q [.ref (r 0), .ref (r 1), .ref (r 2), .int (nI rc), .ref (r 3), .int (nI tl), .ref (r 4), .ref (r 5), .ref (r 6), .ref (r 7), .ref (r 8), .ref (r 9), .ref (r 10), .ref (r 11), .ref (r 12), .int (nI at9), .int (lf9), .int (pl9), .int (vl9), .int (nI fa), .int (nI rs9), .int (cs), .int (nI dn)], ai E (r 0) 892 S, ai E (r 12) 96 O2]) := by
  refine CtI.of cX9_rootOf 3 RX9 .int rfl (by decide) rfl (Or.inl rfl) (Nat.le_of_ble_eq_true rfl) (fun h => by cases h) ?_
  intro Γ F hret
  show G Γ E 0 0 0 [(0, .ref q), (1, .int (x1)), (2, .int (x2))] [] [ob 9 q [.ref (r 0), .ref (r 1), .ref (r 2), .int (nI rc), .ref (r 3), .int (nI tl), .ref (r 4), .ref (r 5), .ref (r 6), .ref (r 7), .ref (r 8), .ref (r 9), .ref (r 10), .ref (r 11), .ref (r 12), .int (nI at9), .int (lf9), .int (pl9), .int (vl9), .int (nI fa), .int (nI rs9), .int (cs), .int (nI dn)], ai E (r 0) 892 S, ai E (r 12) 96 Ow]
  refine g_aload_n F 0 dX9_rootOf_0 rfl rfl ?_
  refine g_iload_n F 1 dX9_rootOf_1 rfl rfl ?_
  refine g_callViR (n := 1) F [0, 1] (c_X9_isRoot l E q r rc tl at9 lf9 pl9 vl9 fa rs9 cs dn S C x1 (by assumption) (by assumption)) dX9_rootOf_2 rfl (by decide) rfl rfl rfl (Nat.le_of_ble_eq_true rfl) ⟨Nat.le_of_ble_eq_true rfl, Nat.le_of_ble_eq_true rfl⟩ rfl rfl ⟨Nat.le_of_ble_eq_true rfl, Nat.le_of_ble_eq_true rfl⟩ 0 rfl rfl gX9_rootOf_X9_isRoot (by decide +kernel) (fun r u hp => by obtain ⟨-, h⟩ := hp; exact h) ?_
  rintro r_2 u_2 ⟨rfl, -⟩
  refine g_if_eqB (tgt := 17) F dX9_rootOf_5 (by decide) (fun c5 => ?_) (fun c5 => ?_)
  · skip
    refine g_ldc (v := (-1000001)) F dX9_rootOf_17 (by decide +kernel) ?_
    exact hret _ _ _ _ dX9_rootOf_19 ⟨Ow, (by unfold p_rootOf; rw [cI_neg (fun h => by first | exact c5 h.1 | exact c14 h.2)]), (by rfl)⟩
  · skip
    obtain ⟨r1, hr1, rfl⟩ := rng_of (by have := hI.2.2.2.1; omega) (c5)
    refine g_iload_n F 2 dX9_rootOf_8 rfl rfl ?_
    refine g_iconst (v := nI 0) F dX9_rootOf_9 (by decide) ?_
    refine g_iconst (v := nI 4) F dX9_rootOf_10 (by decide) ?_
    refine g_callSiR (n := 3) F [] (c_X9_within_x l E x2 4 (by omega)) dX9_rootOf_11 rfl (by decide) rfl rfl rfl (Nat.le_of_ble_eq_true rfl) ⟨Nat.le_of_ble_eq_true rfl, Nat.le_of_ble_eq_true rfl⟩ rfl rfl ⟨Nat.le_of_ble_eq_true rfl, Nat.le_of_ble_eq_true rfl⟩ ggX9_rootOf_X9_within (by decide +kernel) (by decide +kernel) (by decide +kernel) (by decide +kernel) (fun r u hp => by obtain ⟨-, h⟩ := hp; exact h) ?_
    rintro r_11 u_11 ⟨rfl, -⟩
    refine g_if_neB (tgt := 20) F dX9_rootOf_14 (by decide) (fun c14 => ?_) (fun c14 => ?_)
    · skip
      obtain ⟨w1, hw1, rfl⟩ := rng_of (by first | decide | omega) (c14)
      have hz8 := hI.2.2.2.1
      have hr7 := hR.2.2.2.2.2.2 r1 hr1
      refine g_iload_n F 2 dX9_rootOf_20 rfl rfl ?_
      refine g_iconst (v := nI 3) F dX9_rootOf_21 (by decide) ?_
      refine g_icmp_geN (tgt := 34) F dX9_rootOf_22 (by decide) (by omega) (by omega) (fun c22 => ?_) (fun c22 => ?_)
      · skip
        refine g_aload_n F 0 dX9_rootOf_34 rfl rfl ?_
        refine g_iload_n F 1 dX9_rootOf_35 rfl rfl ?_
        refine g_iload_n F 2 dX9_rootOf_36 rfl rfl ?_
        refine g_iconst (v := nI 4) F dX9_rootOf_37 (by decide) ?_
        refine g_icmp_neN (tgt := 45) F dX9_rootOf_38 (by decide) (by omega) (by omega) (fun c38 => ?_) (fun c38 => ?_)
        · skip
          refine g_iconst (v := nI 0) F dX9_rootOf_45 (by decide) ?_
          refine g_callViW (n := 2) F [0, 1, 2] (c_X9_ownedBy l E q r rc tl at9 lf9 pl9 vl9 fa rs9 cs dn S C Ow r1 0 (by assumption) (by assumption) (by exact hr1) (by omega)) dX9_rootOf_46 rfl (by decide) rfl rfl rfl (Nat.le_of_ble_eq_true rfl) ⟨Nat.le_of_ble_eq_true rfl, Nat.le_of_ble_eq_true rfl⟩ rfl rfl ⟨Nat.le_of_ble_eq_true rfl, Nat.le_of_ble_eq_true rfl⟩ 0 rfl rfl gX9_rootOf_X9_ownedBy (by decide +kernel) (fun r u hp => by obtain ⟨_, -, rfl⟩ := hp; rfl) ?_
          rintro r_46 u_46 ⟨O2_46, rfl, rfl⟩
          refine g_ws (w2 := [ob 9 q [.ref (r 0), .ref (r 1), .ref (r 2), .int (nI rc), .ref (r 3), .int (nI tl), .ref (r 4), .ref (r 5), .ref (r 6), .ref (r 7), .ref (r 8), .ref (r 9), .ref (r 10), .ref (r 11), .ref (r 12), .int (nI at9), .int (lf9), .int (pl9), .int (vl9), .int (nI fa), .int (nI rs9), .int (cs), .int (nI dn)], ai E (r 0) 892 S, ai E (r 12) 96 O2_46]) rfl ?_
          exact hret _ _ _ _ dX9_rootOf_49 ⟨O2_46, (by unfold p_rootOf rtv; rw [cI_pos ⟨(rng_nI (by omega) (by omega)).mpr hr1, (rng_nI (by decide) (by omega)).mpr hw1⟩, dv_nI (by omega), dv_nI (by omega)]; rw [if_neg (by omega), if_neg (by omega), if_neg (by omega)]; rw [if_pos (by omega)]; rfl), (by rfl)⟩
        · skip
          refine g_iconst (v := nI 1) F dX9_rootOf_41 (by decide) ?_
          refine g_goto (tgt := 46) F dX9_rootOf_42 (by decide) ?_
          refine g_callViW (n := 2) F [0, 1, 2] (c_X9_ownedBy l E q r rc tl at9 lf9 pl9 vl9 fa rs9 cs dn S C Ow r1 1 (by assumption) (by assumption) (by exact hr1) (by omega)) dX9_rootOf_46 rfl (by decide) rfl rfl rfl (Nat.le_of_ble_eq_true rfl) ⟨Nat.le_of_ble_eq_true rfl, Nat.le_of_ble_eq_true rfl⟩ rfl rfl ⟨Nat.le_of_ble_eq_true rfl, Nat.le_of_ble_eq_true rfl⟩ 0 rfl rfl gX9_rootOf_X9_ownedBy (by decide +kernel) (fun r u hp => by obtain ⟨_, -, rfl⟩ := hp; rfl) ?_
          rintro r_46 u_46 ⟨O2_46, rfl, rfl⟩
          refine g_ws (w2 := [ob 9 q [.ref (r 0), .ref (r 1), .ref (r 2), .int (nI rc), .ref (r 3), .int (nI tl), .ref (r 4), .ref (r 5), .ref (r 6), .ref (r 7), .ref (r 8), .ref (r 9), .ref (r 10), .ref (r 11), .ref (r 12), .int (nI at9), .int (lf9), .int (pl9), .int (vl9), .int (nI fa), .int (nI rs9), .int (cs), .int (nI dn)], ai E (r 0) 892 S, ai E (r 12) 96 O2_46]) rfl ?_
          exact hret _ _ _ _ dX9_rootOf_49 ⟨O2_46, (by unfold p_rootOf rtv; rw [cI_pos ⟨(rng_nI (by omega) (by omega)).mpr hr1, (rng_nI (by decide) (by omega)).mpr hw1⟩, dv_nI (by omega), dv_nI (by omega)]; rw [if_neg (by omega), if_neg (by omega), if_neg (by omega)]; rw [if_neg (by omega)]; rfl), (by rfl)⟩
      · skip
        refine g_aload_n F 0 dX9_rootOf_25 rfl rfl ?_
        refine g_iload_n F 1 dX9_rootOf_26 rfl rfl ?_
        refine g_iload_n F 2 dX9_rootOf_27 rfl rfl ?_
        refine g_callViR (n := 2) F [0, 1] (c_X9_rootPart l E q r rc tl at9 lf9 pl9 vl9 fa rs9 cs dn S C r1 w1 (by omega) (by omega)) dX9_rootOf_28 rfl (by decide) rfl rfl rfl (Nat.le_of_ble_eq_true rfl) ⟨Nat.le_of_ble_eq_true rfl, Nat.le_of_ble_eq_true rfl⟩ rfl rfl ⟨Nat.le_of_ble_eq_true rfl, Nat.le_of_ble_eq_true rfl⟩ 0 rfl rfl gX9_rootOf_X9_rootPart (by decide +kernel) (fun r u hp => by obtain ⟨-, h⟩ := hp; exact h) ?_
        rintro r_28 u_28 ⟨rfl, -⟩
        refine g_goto (tgt := 49) F dX9_rootOf_31 (by decide) ?_
        exact hret _ _ _ _ dX9_rootOf_49 ⟨Ow, (by unfold p_rootOf rtv; rw [cI_pos ⟨(rng_nI (by omega) (by omega)).mpr hr1, (rng_nI (by decide) (by omega)).mpr hw1⟩, dv_nI (by omega), dv_nI (by omega)]; rcases (show w1 = 0 ∨ w1 = 1 ∨ w1 = 2 by omega) with rfl | rfl | rfl; (exact congrArg nI hr7.1); (exact congrArg nI hr7.2.1); (exact congrArg nI hr7.2.2)), (by rfl)⟩
    · skip
      refine g_ldc (v := (-1000001)) F dX9_rootOf_17 (by decide +kernel) ?_
      exact hret _ _ _ _ dX9_rootOf_19 ⟨Ow, (by unfold p_rootOf; rw [cI_neg (fun h => by first | exact c5 h.1 | exact c14 h.2)]), (by rfl)⟩
