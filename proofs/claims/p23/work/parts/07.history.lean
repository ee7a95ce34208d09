/-! the history -/
abbrev CS : Type := (Nat → Nat) × (Nat → Nat) × (Nat → Nat) × (Nat → Nat) × (Nat → Nat) × Nat × Nat × Nat
abbrev sN (C : CS) : Nat → Nat := C.1
abbrev sU (C : CS) : Nat → Nat := C.2.1
abbrev sn (C : CS) : Nat → Nat := C.2.2.1
abbrev sb (C : CS) : Nat → Nat := C.2.2.2.1
abbrev ss (C : CS) : Nat → Nat := C.2.2.2.2.1
abbrev sZ (C : CS) : Nat := C.2.2.2.2.2.1
abbrev sM (C : CS) : Nat := C.2.2.2.2.2.2.1
abbrev sW (C : CS) : Nat := C.2.2.2.2.2.2.2
/-- a state in which all is as it should be -/
def IC (C : CS) : Prop := BN (sN C) ∧ BU (sU C) ∧ 1 ≤ sZ C ∧ sZ C ≤ 8 ∧ sM C < 4 ∧ (∀ i : Nat, i < sZ C → sb C i < 96) ∧ (∀ i : Nat, i < sZ C → ss C i < 251)
def h3 (a b c : Nat) : Nat → Option Nat := fun j => if j = 0 then some a else if j = 1 then some b else if j = 2 then some c else none
def rcH (C : CS) (H : Nat → CS) (n : Nat) : Nat → CS := if n < 3 then fun j => if j = n then C else H j else fun j => if j = 0 then H 1 else if j = 1 then H 2 else if j = 2 then C else H j
def rcn (n : Nat) : Nat := if n < 3 then n + 1 else 3
theorem rng_out {x : Int32} {n : Nat} (hn : n < 2 ^ 31) (h : ¬ rng x n) : x.toInt < 0 ∨ ((n : Int) - 1) < x.toInt := by
  rcases pk_ix x hn with h1 | h1 | ⟨j, hj, h1⟩
  · left; exact Int32.lt_iff_toInt_lt.mp h1
  · right
    have := Int32.le_iff_toInt_le.mp h1
    rw [nI_toInt hn] at this
    omega
  · exact absurd (by rw [h1]; exact (rng_nI hn (by omega)).mpr hj) h
noncomputable def cI {α : Type} (P : Prop) (a b : α) : α := @ite α P (Classical.propDecidable P) a b
theorem cI_pos {α : Type} {P : Prop} {a b : α} (h : P) : cI P a b = a := if_pos h
theorem cI_neg {α : Type} {P : Prop} {a b : α} (h : ¬ P) : cI P a b = b := if_neg h
def dv (x : Int32) : Nat := x.toNatClampNeg
theorem dv_nI {n : Nat} (h : n < 2 ^ 31) : dv (nI n) = n := nI_clamp h
set_option maxHeartbeats 4000000 in
set_option maxRecDepth 100000 in
theorem c_X2_size (l : Launch) (E : En) (y0 : Nat) (y1 : Nat) (hn : Nat)  : CtI l yX2_size wsX2_size ({ frames := 0, cells := 0, slots := 0, locals := 0 } : Room) E [.ref y0] [ob 2 y0 [.ref y1, .int (nI hn)]] (fun rr uu => rr = (nI hn) ∧ uu = [ob 2 y0 [.ref y1, .int (nI hn)]]) := by
  refine CtI.of cX2_size 1 RX2 .int rfl (by decide) rfl (Or.inl rfl) (Nat.le_of_ble_eq_true rfl) (fun h => by cases h) ?_
  intro Γ F hret
  show G Γ E 0 0 0 [(0, .ref y0)] [] [ob 2 y0 [.ref y1, .int (nI hn)]]
  refine g_aload_n F 0 dX2_size_0 rfl rfl ?_
  refine g_get F 0 1 dX2_size_1 rfl rfl (by decide) (by decide +kernel) (by decide +kernel) rfl ?_
  exact hret _ _ _ _ dX2_size_4 ⟨rfl, rfl⟩
set_option maxHeartbeats 4000000 in
set_option maxRecDepth 100000 in
theorem c_X2_dropOldest (l : Launch) (E : En) (y0 : Nat) (y1 : Nat) (hn : Nat) (p : Nat) (p1 : Nat) (p2 : Nat) (p3 : Nat) (pm : Nat) (pw : Nat) (q : Nat) (q1 : Nat) (q2 : Nat) (q3 : Nat) (qm : Nat) (qw : Nat) (r : Nat) (r1 : Nat) (r2 : Nat) (r3 : Nat) (rm : Nat) (rw : Nat)  : CtV l yX2_dropOldest wsX2_dropOldest ({ frames := 0, cells := 0, slots := 0, locals := 0 } : Room) E [.ref y0] [ob 2 y0 [.ref y1, .int (nI hn)], aq E y1 3 (h3 p q r), ob 5 p [.ref p1, .ref p2, .ref p3, .int (nI pm), .int (nI pw)], ob 5 q [.ref q1, .ref q2, .ref q3, .int (nI qm), .int (nI qw)], ob 5 r [.ref r1, .ref r2, .ref r3, .int (nI rm), .int (nI rw)]] (fun uu => uu = [ob 2 y0 [.ref y1, .int (nI 2)], aq E y1 3 (h3 q r p), ob 5 p [.ref p1, .ref p2, .ref p3, .int (nI pm), .int (nI pw)], ob 5 q [.ref q1, .ref q2, .ref q3, .int (nI qm), .int (nI qw)], ob 5 r [.ref r1, .ref r2, .ref r3, .int (nI rm), .int (nI rw)]]) := by
  refine CtV.of cX2_dropOldest 3 RX2 rfl (by decide) rfl (Nat.le_of_ble_eq_true rfl) ?_
  intro Γ F hin0 hret
  show G Γ E 0 0 0 [(0, .ref y0)] [] [ob 2 y0 [.ref y1, .int (nI hn)], aq E y1 3 (h3 p q r), ob 5 p [.ref p1, .ref p2, .ref p3, .int (nI pm), .int (nI pw)], ob 5 q [.ref q1, .ref q2, .ref q3, .int (nI qm), .int (nI qw)], ob 5 r [.ref r1, .ref r2, .ref r3, .int (nI rm), .int (nI rw)]]
  refine g_aload_n F 0 dX2_dropOldest_0 rfl rfl ?_
  refine g_get F 0 0 dX2_dropOldest_1 rfl rfl (by decide) (by decide +kernel) (by decide +kernel) rfl ?_
  refine g_iconst (v := nI 0) F dX2_dropOldest_4 (by decide) ?_
  refine g_qald (v := .ref p) F 1 dX2_dropOldest_5 rfl (by omega) (by decide) (by rfl) ?_
  refine g_astore_n (lv2 := [(1, .ref p), (0, .ref y0)]) F dX2_dropOldest_6 rfl (by decide) rfl ?_
  refine g_iconst (v := nI 1) F dX2_dropOldest_7 (by decide) ?_
  refine g_istore_n (lv2 := [(2, .int (nI 1)), (1, .ref p), (0, .ref y0)]) F dX2_dropOldest_8 rfl (by decide) rfl ?_
  refine g_iload_n F 0 dX2_dropOldest_9 rfl rfl ?_
  refine g_iconst (v := nI 3) F dX2_dropOldest_10 (by decide) ?_
  refine g_icmp_geN (tgt := 34) F dX2_dropOldest_11 (by decide) (by decide) (by decide) (fun c11 => absurd c11 (by decide)) (fun c11 => ?_)
  refine g_aload_n F 2 dX2_dropOldest_14 rfl rfl ?_
  refine g_get F 0 0 dX2_dropOldest_15 rfl rfl (by decide) (by decide +kernel) (by decide +kernel) rfl ?_
  refine g_iload_n F 0 dX2_dropOldest_18 rfl rfl ?_
  refine g_iconst (v := nI 1) F dX2_dropOldest_19 (by decide) ?_
  refine g_isubN F dX2_dropOldest_20 (by decide) ?_
  refine g_top _ (nI 0) rfl ?_
  refine g_aload_n F 2 dX2_dropOldest_21 rfl rfl ?_
  refine g_get F 0 0 dX2_dropOldest_22 rfl rfl (by decide) (by decide +kernel) (by decide +kernel) rfl ?_
  refine g_iload_n F 0 dX2_dropOldest_25 rfl rfl ?_
  refine g_qald (v := .ref q) F 1 dX2_dropOldest_26 rfl (by omega) (by decide) (by rfl) ?_
  refine g_qast F 1 3 dX2_dropOldest_27 rfl rfl (by omega) (by decide) (w2 := [ob 2 y0 [.ref y1, .int (nI hn)], aq E y1 3 (va_up (h3 p q r) 0 (some q)), ob 5 p [.ref p1, .ref p2, .ref p3, .int (nI pm), .int (nI pw)], ob 5 q [.ref q1, .ref q2, .ref q3, .int (nI qm), .int (nI qw)], ob 5 r [.ref r1, .ref r2, .ref r3, .int (nI rm), .int (nI rw)]]) rfl ?_
  refine g_iinc (k := 0) (v := nI 2) (lv2 := [(2, .int (nI 2)), (1, .ref p), (0, .ref y0)]) F dX2_dropOldest_28 rfl (by decide) (by decide) rfl ?_
  refine g_goto (tgt := 9) F dX2_dropOldest_31 (by decide) ?_
  refine g_iload_n F 0 dX2_dropOldest_9 rfl rfl ?_
  refine g_iconst (v := nI 3) F dX2_dropOldest_10 (by decide) ?_
  refine g_icmp_geN (tgt := 34) F dX2_dropOldest_11 (by decide) (by decide) (by decide) (fun c11 => absurd c11 (by decide)) (fun c11 => ?_)
  refine g_aload_n F 2 dX2_dropOldest_14 rfl rfl ?_
  refine g_get F 0 0 dX2_dropOldest_15 rfl rfl (by decide) (by decide +kernel) (by decide +kernel) rfl ?_
  refine g_iload_n F 0 dX2_dropOldest_18 rfl rfl ?_
  refine g_iconst (v := nI 1) F dX2_dropOldest_19 (by decide) ?_
  refine g_isubN F dX2_dropOldest_20 (by decide) ?_
  refine g_top _ (nI 1) rfl ?_
  refine g_aload_n F 2 dX2_dropOldest_21 rfl rfl ?_
  refine g_get F 0 0 dX2_dropOldest_22 rfl rfl (by decide) (by decide +kernel) (by decide +kernel) rfl ?_
  refine g_iload_n F 0 dX2_dropOldest_25 rfl rfl ?_
  refine g_qald (v := .ref r) F 1 dX2_dropOldest_26 rfl (by omega) (by decide) (by rfl) ?_
  refine g_qast F 1 4 dX2_dropOldest_27 rfl rfl (by omega) (by decide) (w2 := [ob 2 y0 [.ref y1, .int (nI hn)], aq E y1 3 (va_up (va_up (h3 p q r) 0 (some q)) 1 (some r)), ob 5 p [.ref p1, .ref p2, .ref p3, .int (nI pm), .int (nI pw)], ob 5 q [.ref q1, .ref q2, .ref q3, .int (nI qm), .int (nI qw)], ob 5 r [.ref r1, .ref r2, .ref r3, .int (nI rm), .int (nI rw)]]) rfl ?_
  refine g_iinc (k := 0) (v := nI 3) (lv2 := [(2, .int (nI 3)), (1, .ref p), (0, .ref y0)]) F dX2_dropOldest_28 rfl (by decide) (by decide) rfl ?_
  refine g_goto (tgt := 9) F dX2_dropOldest_31 (by decide) ?_
  refine g_iload_n F 0 dX2_dropOldest_9 rfl rfl ?_
  refine g_iconst (v := nI 3) F dX2_dropOldest_10 (by decide) ?_
  refine g_icmp_geN (tgt := 34) F dX2_dropOldest_11 (by decide) (by decide) (by decide) (fun c11 => ?_) (fun c11 => absurd c11 (by decide))
  refine g_aload_n F 2 dX2_dropOldest_34 rfl rfl ?_
  refine g_get F 0 0 dX2_dropOldest_35 rfl rfl (by decide) (by decide +kernel) (by decide +kernel) rfl ?_
  refine g_iconst (v := nI 2) F dX2_dropOldest_38 (by decide) ?_
  refine g_aload_n F 1 dX2_dropOldest_39 rfl rfl ?_
  refine g_qast F 1 2 dX2_dropOldest_40 rfl rfl (by omega) (by decide) (w2 := [ob 2 y0 [.ref y1, .int (nI hn)], aq E y1 3 (va_up (va_up (va_up (h3 p q r) 0 (some q)) 1 (some r)) 2 (some p)), ob 5 p [.ref p1, .ref p2, .ref p3, .int (nI pm), .int (nI pw)], ob 5 q [.ref q1, .ref q2, .ref q3, .int (nI qm), .int (nI qw)], ob 5 r [.ref r1, .ref r2, .ref r3, .int (nI rm), .int (nI rw)]]) rfl ?_
  refine g_aload_n F 2 dX2_dropOldest_41 rfl rfl ?_
  refine g_iconst (v := nI 2) F dX2_dropOldest_42 (by decide) ?_
  refine g_put F 0 1 dX2_dropOldest_43 rfl rfl (by decide) (by decide +kernel) (by decide +kernel) tyX2_ok nmX2 rfl (by decide +kernel) rfl rfl (Nat.le_of_ble_eq_true rfl) rfl (ty := .int) (w2 := [ob 2 y0 [.ref y1, .int (nI 2)], aq E y1 3 (va_up (va_up (va_up (h3 p q r) 0 (some q)) 1 (some r)) 2 (some p)), ob 5 p [.ref p1, .ref p2, .ref p3, .int (nI pm), .int (nI pw)], ob 5 q [.ref q1, .ref q2, .ref q3, .int (nI qm), .int (nI qw)], ob 5 r [.ref r1, .ref r2, .ref r3, .int (nI rm), .int (nI rw)]]) rfl ?_
  refine g_aqC 1 rfl (h3 q r p) (by intro j hj; rcases (show j = 0 ∨ j = 1 ∨ j = 2 by omega) with rfl | rfl | rfl <;> rfl) (w2 := [ob 2 y0 [.ref y1, .int (nI 2)], aq E y1 3 (h3 q r p), ob 5 p [.ref p1, .ref p2, .ref p3, .int (nI pm), .int (nI pw)], ob 5 q [.ref q1, .ref q2, .ref q3, .int (nI qm), .int (nI qw)], ob 5 r [.ref r1, .ref r2, .ref r3, .int (nI rm), .int (nI rw)]]) rfl ?_
  exact hret _ _ _ dX2_dropOldest_46 rfl
set_option maxHeartbeats 4000000 in
set_option maxRecDepth 100000 in
theorem c_X2_keep (l : Launch) (E : En) (y0 : Nat) (y1 : Nat) (hn : Nat) (c0 : Nat → Nat) (c1 : Nat → Nat) (c2 : Nat → Nat) (H : Nat → CS) (a : Nat → Nat) (C : CS) (hhn : hn ≤ 3) (hI : BU (sU C)) : CtV l yX2_keep wsX2_keep ({ frames := 3, cells := 0, slots := 0, locals := 66 } : Room) E [.ref y0, .ref (a 0)] [ob 2 y0 [.ref y1, .int (nI hn)], aq E y1 3 (h3 (c0 0) (c1 0) (c2 0)), ob 5 (c0 0) [.ref (c0 1), .ref (c0 2), .ref (c0 3), .int (nI (sM (H 0))), .int (nI (sW (H 0)))], ob 1 (c0 1) [.ref (c0 4)], ai E (c0 4) 768 (sN (H 0)), ob 0 (c0 2) [.ref (c0 5)], az E (c0 5) 96 (sU (H 0)), ob 3 (c0 3) [.ref (c0 6), .ref (c0 7), .ref (c0 8), .int (nI (sZ (H 0)))], ai E (c0 6) 8 (sn (H 0)), ai E (c0 7) 8 (sb (H 0)), ai E (c0 8) 8 (ss (H 0)), ob 5 (c1 0) [.ref (c1 1), .ref (c1 2), .ref (c1 3), .int (nI (sM (H 1))), .int (nI (sW (H 1)))], ob 1 (c1 1) [.ref (c1 4)], ai E (c1 4) 768 (sN (H 1)), ob 0 (c1 2) [.ref (c1 5)], az E (c1 5) 96 (sU (H 1)), ob 3 (c1 3) [.ref (c1 6), .ref (c1 7), .ref (c1 8), .int (nI (sZ (H 1)))], ai E (c1 6) 8 (sn (H 1)), ai E (c1 7) 8 (sb (H 1)), ai E (c1 8) 8 (ss (H 1)), ob 5 (c2 0) [.ref (c2 1), .ref (c2 2), .ref (c2 3), .int (nI (sM (H 2))), .int (nI (sW (H 2)))], ob 1 (c2 1) [.ref (c2 4)], ai E (c2 4) 768 (sN (H 2)), ob 0 (c2 2) [.ref (c2 5)], az E (c2 5) 96 (sU (H 2)), ob 3 (c2 3) [.ref (c2 6), .ref (c2 7), .ref (c2 8), .int (nI (sZ (H 2)))], ai E (c2 6) 8 (sn (H 2)), ai E (c2 7) 8 (sb (H 2)), ai E (c2 8) 8 (ss (H 2)), ob 5 (a 0) [.ref (a 1), .ref (a 2), .ref (a 3), .int (nI (sM C)), .int (nI (sW C))], ob 1 (a 1) [.ref (a 4)], ai E (a 4) 768 (sN C), ob 0 (a 2) [.ref (a 5)], az E (a 5) 96 (sU C), ob 3 (a 3) [.ref (a 6), .ref (a 7), .ref (a 8), .int (nI (sZ C))], ai E (a 6) 8 (sn C), ai E (a 7) 8 (sb C), ai E (a 8) 8 (ss C)] (fun uu => ∃ (d0 : Nat → Nat), ∃ (d1 : Nat → Nat), ∃ (d2 : Nat → Nat), uu = [ob 2 y0 [.ref y1, .int (nI (rcn hn))], aq E y1 3 (h3 (d0 0) (d1 0) (d2 0)), ob 5 (d0 0) [.ref (d0 1), .ref (d0 2), .ref (d0 3), .int (nI (sM (rcH C H hn 0))), .int (nI (sW (rcH C H hn 0)))], ob 1 (d0 1) [.ref (d0 4)], ai E (d0 4) 768 (sN (rcH C H hn 0)), ob 0 (d0 2) [.ref (d0 5)], az E (d0 5) 96 (sU (rcH C H hn 0)), ob 3 (d0 3) [.ref (d0 6), .ref (d0 7), .ref (d0 8), .int (nI (sZ (rcH C H hn 0)))], ai E (d0 6) 8 (sn (rcH C H hn 0)), ai E (d0 7) 8 (sb (rcH C H hn 0)), ai E (d0 8) 8 (ss (rcH C H hn 0)), ob 5 (d1 0) [.ref (d1 1), .ref (d1 2), .ref (d1 3), .int (nI (sM (rcH C H hn 1))), .int (nI (sW (rcH C H hn 1)))], ob 1 (d1 1) [.ref (d1 4)], ai E (d1 4) 768 (sN (rcH C H hn 1)), ob 0 (d1 2) [.ref (d1 5)], az E (d1 5) 96 (sU (rcH C H hn 1)), ob 3 (d1 3) [.ref (d1 6), .ref (d1 7), .ref (d1 8), .int (nI (sZ (rcH C H hn 1)))], ai E (d1 6) 8 (sn (rcH C H hn 1)), ai E (d1 7) 8 (sb (rcH C H hn 1)), ai E (d1 8) 8 (ss (rcH C H hn 1)), ob 5 (d2 0) [.ref (d2 1), .ref (d2 2), .ref (d2 3), .int (nI (sM (rcH C H hn 2))), .int (nI (sW (rcH C H hn 2)))], ob 1 (d2 1) [.ref (d2 4)], ai E (d2 4) 768 (sN (rcH C H hn 2)), ob 0 (d2 2) [.ref (d2 5)], az E (d2 5) 96 (sU (rcH C H hn 2)), ob 3 (d2 3) [.ref (d2 6), .ref (d2 7), .ref (d2 8), .int (nI (sZ (rcH C H hn 2)))], ai E (d2 6) 8 (sn (rcH C H hn 2)), ai E (d2 7) 8 (sb (rcH C H hn 2)), ai E (d2 8) 8 (ss (rcH C H hn 2)), ob 5 (a 0) [.ref (a 1), .ref (a 2), .ref (a 3), .int (nI (sM C)), .int (nI (sW C))], ob 1 (a 1) [.ref (a 4)], ai E (a 4) 768 (sN C), ob 0 (a 2) [.ref (a 5)], az E (a 5) 96 (sU C), ob 3 (a 3) [.ref (a 6), .ref (a 7), .ref (a 8), .int (nI (sZ C))], ai E (a 6) 8 (sn C), ai E (a 7) 8 (sb C), ai E (a 8) 8 (ss C)]) := by
  refine CtV.of cX2_keep 2 RX2 rfl (by decide) rfl (Nat.le_of_ble_eq_true rfl) ?_
  intro Γ F hin0 hret
  show G Γ E 0 0 0 [(0, .ref y0), (1, .ref (a 0))] [] [ob 2 y0 [.ref y1, .int (nI hn)], aq E y1 3 (h3 (c0 0) (c1 0) (c2 0)), ob 5 (c0 0) [.ref (c0 1), .ref (c0 2), .ref (c0 3), .int (nI (sM (H 0))), .int (nI (sW (H 0)))], ob 1 (c0 1) [.ref (c0 4)], ai E (c0 4) 768 (sN (H 0)), ob 0 (c0 2) [.ref (c0 5)], az E (c0 5) 96 (sU (H 0)), ob 3 (c0 3) [.ref (c0 6), .ref (c0 7), .ref (c0 8), .int (nI (sZ (H 0)))], ai E (c0 6) 8 (sn (H 0)), ai E (c0 7) 8 (sb (H 0)), ai E (c0 8) 8 (ss (H 0)), ob 5 (c1 0) [.ref (c1 1), .ref (c1 2), .ref (c1 3), .int (nI (sM (H 1))), .int (nI (sW (H 1)))], ob 1 (c1 1) [.ref (c1 4)], ai E (c1 4) 768 (sN (H 1)), ob 0 (c1 2) [.ref (c1 5)], az E (c1 5) 96 (sU (H 1)), ob 3 (c1 3) [.ref (c1 6), .ref (c1 7), .ref (c1 8), .int (nI (sZ (H 1)))], ai E (c1 6) 8 (sn (H 1)), ai E (c1 7) 8 (sb (H 1)), ai E (c1 8) 8 (ss (H 1)), ob 5 (c2 0) [.ref (c2 1), .ref (c2 2), .ref (c2 3), .int (nI (sM (H 2))), .int (nI (sW (H 2)))], ob 1 (c2 1) [.ref (c2 4)], ai E (c2 4) 768 (sN (H 2)), ob 0 (c2 2) [.ref (c2 5)], az E (c2 5) 96 (sU (H 2)), ob 3 (c2 3) [.ref (c2 6), .ref (c2 7), .ref (c2 8), .int (nI (sZ (H 2)))], ai E (c2 6) 8 (sn (H 2)), ai E (c2 7) 8 (sb (H 2)), ai E (c2 8) 8 (ss (H 2)), ob 5 (a 0) [.ref (a 1), .ref (a 2), .ref (a 3), .int (nI (sM C)), .int (nI (sW C))], ob 1 (a 1) [.ref (a 4)], ai E (a 4) 768 (sN C), ob 0 (a 2) [.ref (a 5)], az E (a 5) 96 (sU C), ob 3 (a 3) [.ref (a 6), .ref (a 7), .ref (a 8), .int (nI (sZ C))], ai E (a 6) 8 (sn C), ai E (a 7) 8 (sb C), ai E (a 8) 8 (ss C)]
  rcases (show hn = 0 ∨ hn = 1 ∨ hn = 2 ∨ hn = 3 by omega) with rfl | rfl | rfl | rfl
  · skip
    refine g_aload_n F 0 dX2_keep_0 rfl rfl ?_
    refine g_get F 0 1 dX2_keep_1 rfl rfl (by decide) (by decide +kernel) (by decide +kernel) rfl ?_
    refine g_iconst (v := nI 3) F dX2_keep_4 (by decide) ?_
    refine g_icmp_ltN (tgt := 12) F dX2_keep_5 (by decide) (by decide) (by decide) (fun c5 => ?_) (fun c5 => absurd c5 (by decide))
    refine g_aload_n F 0 dX2_keep_12 rfl rfl ?_
    refine g_get F 0 1 dX2_keep_13 rfl rfl (by decide) (by decide +kernel) (by decide +kernel) rfl ?_
    refine g_iconst (v := nI 3) F dX2_keep_16 (by decide) ?_
    refine g_callSNiR (n := 2) F [] (c_X8_below l E 0 3 (by omega) (by omega)) dX2_keep_17 rfl (by decide) rfl rfl rfl (Nat.le_of_ble_eq_true rfl) ⟨Nat.le_of_ble_eq_true rfl, Nat.le_of_ble_eq_true rfl⟩ rfl rfl ⟨Nat.le_of_ble_eq_true rfl, Nat.le_of_ble_eq_true rfl⟩ (host := "SummedParents") ggX2_keep_X8_below (by decide +kernel) (by decide +kernel) (by decide +kernel) (by decide +kernel) (fun r u hp => by obtain ⟨-, h⟩ := hp; exact h) ?_
    rintro r_17 u_17 ⟨rfl, -⟩
    refine g_if_eqB (tgt := 46) F dX2_keep_20 (by decide) (fun c20 => ?_) (fun c20 => ?_)
    · skip
      exact absurd (by decide) c20
    · skip
      refine g_aload_n F 0 dX2_keep_23 rfl rfl ?_
      refine g_get F 0 0 dX2_keep_24 rfl rfl (by decide) (by decide +kernel) (by decide +kernel) rfl ?_
      refine g_aload_n F 0 dX2_keep_27 rfl rfl ?_
      refine g_get F 0 1 dX2_keep_28 rfl rfl (by decide) (by decide +kernel) (by decide +kernel) rfl ?_
      refine g_qald (v := .ref (c0 0)) F 1 dX2_keep_31 rfl (by omega) (by decide) (by rfl) ?_
      refine g_aload_n F 1 dX2_keep_32 rfl rfl ?_
      refine g_callVvW (n := 1) F [2, 3, 4, 5, 6, 7, 8, 9, 10, 29, 30, 31, 32, 33, 34, 35, 36, 37] (c_X5_copyFrom l E (c0 0) (c0 1) (c0 2) (c0 3) (c0 4) (c0 5) (c0 6) (c0 7) (c0 8) (sM (H 0)) (sW (H 0)) (sZ (H 0)) (sN (H 0)) (sU (H 0)) (sn (H 0)) (sb (H 0)) (ss (H 0)) (a 0) (a 1) (a 2) (a 3) (a 4) (a 5) (a 6) (a 7) (a 8) (sM C) (sW C) (sZ C) (sN C) (sU C) (sn C) (sb C) (ss C) (by exact hI)) dX2_keep_33 rfl (by decide) rfl rfl rfl (Nat.le_of_ble_eq_true rfl) ⟨Nat.le_of_ble_eq_true rfl, Nat.le_of_ble_eq_true rfl⟩ rfl rfl ⟨Nat.le_of_ble_eq_true rfl, Nat.le_of_ble_eq_true rfl⟩ 2 rfl rfl gX2_keep_X5_copyFrom (by decide +kernel) (fun u hp => by obtain rfl := hp; rfl) ?_
      rintro u_33 rfl
      refine g_ws (w2 := [ob 2 y0 [.ref y1, .int (nI 0)], aq E y1 3 (h3 (c0 0) (c1 0) (c2 0)), ob 5 (c0 0) [.ref (c0 1), .ref (c0 2), .ref (c0 3), .int (nI (sM C)), .int (nI (sW C))], ob 1 (c0 1) [.ref (c0 4)], ai E (c0 4) 768 (sN C), ob 0 (c0 2) [.ref (c0 5)], az E (c0 5) 96 (sU C), ob 3 (c0 3) [.ref (c0 6), .ref (c0 7), .ref (c0 8), .int (nI (sZ C))], ai E (c0 6) 8 (sn C), ai E (c0 7) 8 (sb C), ai E (c0 8) 8 (ss C), ob 5 (c1 0) [.ref (c1 1), .ref (c1 2), .ref (c1 3), .int (nI (sM (H 1))), .int (nI (sW (H 1)))], ob 1 (c1 1) [.ref (c1 4)], ai E (c1 4) 768 (sN (H 1)), ob 0 (c1 2) [.ref (c1 5)], az E (c1 5) 96 (sU (H 1)), ob 3 (c1 3) [.ref (c1 6), .ref (c1 7), .ref (c1 8), .int (nI (sZ (H 1)))], ai E (c1 6) 8 (sn (H 1)), ai E (c1 7) 8 (sb (H 1)), ai E (c1 8) 8 (ss (H 1)), ob 5 (c2 0) [.ref (c2 1), .ref (c2 2), .ref (c2 3), .int (nI (sM (H 2))), .int (nI (sW (H 2)))], ob 1 (c2 1) [.ref (c2 4)], ai E (c2 4) 768 (sN (H 2)), ob 0 (c2 2) [.ref (c2 5)], az E (c2 5) 96 (sU (H 2)), ob 3 (c2 3) [.ref (c2 6), .ref (c2 7), .ref (c2 8), .int (nI (sZ (H 2)))], ai E (c2 6) 8 (sn (H 2)), ai E (c2 7) 8 (sb (H 2)), ai E (c2 8) 8 (ss (H 2)), ob 5 (a 0) [.ref (a 1), .ref (a 2), .ref (a 3), .int (nI (sM C)), .int (nI (sW C))], ob 1 (a 1) [.ref (a 4)], ai E (a 4) 768 (sN C), ob 0 (a 2) [.ref (a 5)], az E (a 5) 96 (sU C), ob 3 (a 3) [.ref (a 6), .ref (a 7), .ref (a 8), .int (nI (sZ C))], ai E (a 6) 8 (sn C), ai E (a 7) 8 (sb C), ai E (a 8) 8 (ss C)]) ?_ ?_
      · exact rpl_eq [0, 1, 11, 12, 13, 14, 15, 16, 17, 18, 19, 20, 21, 22, 23, 24, 25, 26, 27, 28] 38 (by decide) rfl rfl rfl (by decide) (by decide) rfl rfl
      refine g_aload_n F 0 dX2_keep_36 rfl rfl ?_
      refine g_dup F dX2_keep_37 rfl ?_
      refine g_get F 0 1 dX2_keep_38 rfl rfl (by decide) (by decide +kernel) (by decide +kernel) rfl ?_
      refine g_iconst (v := nI 1) F dX2_keep_41 (by decide) ?_
      refine g_iaddN F dX2_keep_42 ?_
      refine g_put F 0 1 dX2_keep_43 rfl rfl (by decide) (by decide +kernel) (by decide +kernel) tyX2_ok nmX2 rfl (by decide +kernel) rfl rfl (Nat.le_of_ble_eq_true rfl) rfl (ty := .int) (w2 := [ob 2 y0 [.ref y1, .int (nI (0 + 1))], aq E y1 3 (h3 (c0 0) (c1 0) (c2 0)), ob 5 (c0 0) [.ref (c0 1), .ref (c0 2), .ref (c0 3), .int (nI (sM C)), .int (nI (sW C))], ob 1 (c0 1) [.ref (c0 4)], ai E (c0 4) 768 (sN C), ob 0 (c0 2) [.ref (c0 5)], az E (c0 5) 96 (sU C), ob 3 (c0 3) [.ref (c0 6), .ref (c0 7), .ref (c0 8), .int (nI (sZ C))], ai E (c0 6) 8 (sn C), ai E (c0 7) 8 (sb C), ai E (c0 8) 8 (ss C), ob 5 (c1 0) [.ref (c1 1), .ref (c1 2), .ref (c1 3), .int (nI (sM (H 1))), .int (nI (sW (H 1)))], ob 1 (c1 1) [.ref (c1 4)], ai E (c1 4) 768 (sN (H 1)), ob 0 (c1 2) [.ref (c1 5)], az E (c1 5) 96 (sU (H 1)), ob 3 (c1 3) [.ref (c1 6), .ref (c1 7), .ref (c1 8), .int (nI (sZ (H 1)))], ai E (c1 6) 8 (sn (H 1)), ai E (c1 7) 8 (sb (H 1)), ai E (c1 8) 8 (ss (H 1)), ob 5 (c2 0) [.ref (c2 1), .ref (c2 2), .ref (c2 3), .int (nI (sM (H 2))), .int (nI (sW (H 2)))], ob 1 (c2 1) [.ref (c2 4)], ai E (c2 4) 768 (sN (H 2)), ob 0 (c2 2) [.ref (c2 5)], az E (c2 5) 96 (sU (H 2)), ob 3 (c2 3) [.ref (c2 6), .ref (c2 7), .ref (c2 8), .int (nI (sZ (H 2)))], ai E (c2 6) 8 (sn (H 2)), ai E (c2 7) 8 (sb (H 2)), ai E (c2 8) 8 (ss (H 2)), ob 5 (a 0) [.ref (a 1), .ref (a 2), .ref (a 3), .int (nI (sM C)), .int (nI (sW C))], ob 1 (a 1) [.ref (a 4)], ai E (a 4) 768 (sN C), ob 0 (a 2) [.ref (a 5)], az E (a 5) 96 (sU C), ob 3 (a 3) [.ref (a 6), .ref (a 7), .ref (a 8), .int (nI (sZ C))], ai E (a 6) 8 (sn C), ai E (a 7) 8 (sb C), ai E (a 8) 8 (ss C)]) rfl ?_
      exact hret _ _ _ dX2_keep_46 ⟨c0, c1, c2, (by rw [show rcH C H 0 0 = C from rfl, show rcH C H 0 1 = H 1 from rfl, show rcH C H 0 2 = H 2 from rfl, show rcn 0 = 0 + 1 from rfl])⟩
  · skip
    refine g_aload_n F 0 dX2_keep_0 rfl rfl ?_
    refine g_get F 0 1 dX2_keep_1 rfl rfl (by decide) (by decide +kernel) (by decide +kernel) rfl ?_
    refine g_iconst (v := nI 3) F dX2_keep_4 (by decide) ?_
    refine g_icmp_ltN (tgt := 12) F dX2_keep_5 (by decide) (by decide) (by decide) (fun c5 => ?_) (fun c5 => absurd c5 (by decide))
    refine g_aload_n F 0 dX2_keep_12 rfl rfl ?_
    refine g_get F 0 1 dX2_keep_13 rfl rfl (by decide) (by decide +kernel) (by decide +kernel) rfl ?_
    refine g_iconst (v := nI 3) F dX2_keep_16 (by decide) ?_
    refine g_callSNiR (n := 2) F [] (c_X8_below l E 1 3 (by omega) (by omega)) dX2_keep_17 rfl (by decide) rfl rfl rfl (Nat.le_of_ble_eq_true rfl) ⟨Nat.le_of_ble_eq_true rfl, Nat.le_of_ble_eq_true rfl⟩ rfl rfl ⟨Nat.le_of_ble_eq_true rfl, Nat.le_of_ble_eq_true rfl⟩ (host := "SummedParents") ggX2_keep_X8_below (by decide +kernel) (by decide +kernel) (by decide +kernel) (by decide +kernel) (fun r u hp => by obtain ⟨-, h⟩ := hp; exact h) ?_
    rintro r_17 u_17 ⟨rfl, -⟩
    refine g_if_eqB (tgt := 46) F dX2_keep_20 (by decide) (fun c20 => ?_) (fun c20 => ?_)
    · skip
      exact absurd (by decide) c20
    · skip
      refine g_aload_n F 0 dX2_keep_23 rfl rfl ?_
      refine g_get F 0 0 dX2_keep_24 rfl rfl (by decide) (by decide +kernel) (by decide +kernel) rfl ?_
      refine g_aload_n F 0 dX2_keep_27 rfl rfl ?_
      refine g_get F 0 1 dX2_keep_28 rfl rfl (by decide) (by decide +kernel) (by decide +kernel) rfl ?_
      refine g_qald (v := .ref (c1 0)) F 1 dX2_keep_31 rfl (by omega) (by decide) (by rfl) ?_
      refine g_aload_n F 1 dX2_keep_32 rfl rfl ?_
      refine g_callVvW (n := 1) F [11, 12, 13, 14, 15, 16, 17, 18, 19, 29, 30, 31, 32, 33, 34, 35, 36, 37] (c_X5_copyFrom l E (c1 0) (c1 1) (c1 2) (c1 3) (c1 4) (c1 5) (c1 6) (c1 7) (c1 8) (sM (H 1)) (sW (H 1)) (sZ (H 1)) (sN (H 1)) (sU (H 1)) (sn (H 1)) (sb (H 1)) (ss (H 1)) (a 0) (a 1) (a 2) (a 3) (a 4) (a 5) (a 6) (a 7) (a 8) (sM C) (sW C) (sZ C) (sN C) (sU C) (sn C) (sb C) (ss C) (by exact hI)) dX2_keep_33 rfl (by decide) rfl rfl rfl (Nat.le_of_ble_eq_true rfl) ⟨Nat.le_of_ble_eq_true rfl, Nat.le_of_ble_eq_true rfl⟩ rfl rfl ⟨Nat.le_of_ble_eq_true rfl, Nat.le_of_ble_eq_true rfl⟩ 11 rfl rfl gX2_keep_X5_copyFrom (by decide +kernel) (fun u hp => by obtain rfl := hp; rfl) ?_
      rintro u_33 rfl
      refine g_ws (w2 := [ob 2 y0 [.ref y1, .int (nI 1)], aq E y1 3 (h3 (c0 0) (c1 0) (c2 0)), ob 5 (c0 0) [.ref (c0 1), .ref (c0 2), .ref (c0 3), .int (nI (sM (H 0))), .int (nI (sW (H 0)))], ob 1 (c0 1) [.ref (c0 4)], ai E (c0 4) 768 (sN (H 0)), ob 0 (c0 2) [.ref (c0 5)], az E (c0 5) 96 (sU (H 0)), ob 3 (c0 3) [.ref (c0 6), .ref (c0 7), .ref (c0 8), .int (nI (sZ (H 0)))], ai E (c0 6) 8 (sn (H 0)), ai E (c0 7) 8 (sb (H 0)), ai E (c0 8) 8 (ss (H 0)), ob 5 (c1 0) [.ref (c1 1), .ref (c1 2), .ref (c1 3), .int (nI (sM C)), .int (nI (sW C))], ob 1 (c1 1) [.ref (c1 4)], ai E (c1 4) 768 (sN C), ob 0 (c1 2) [.ref (c1 5)], az E (c1 5) 96 (sU C), ob 3 (c1 3) [.ref (c1 6), .ref (c1 7), .ref (c1 8), .int (nI (sZ C))], ai E (c1 6) 8 (sn C), ai E (c1 7) 8 (sb C), ai E (c1 8) 8 (ss C), ob 5 (c2 0) [.ref (c2 1), .ref (c2 2), .ref (c2 3), .int (nI (sM (H 2))), .int (nI (sW (H 2)))], ob 1 (c2 1) [.ref (c2 4)], ai E (c2 4) 768 (sN (H 2)), ob 0 (c2 2) [.ref (c2 5)], az E (c2 5) 96 (sU (H 2)), ob 3 (c2 3) [.ref (c2 6), .ref (c2 7), .ref (c2 8), .int (nI (sZ (H 2)))], ai E (c2 6) 8 (sn (H 2)), ai E (c2 7) 8 (sb (H 2)), ai E (c2 8) 8 (ss (H 2)), ob 5 (a 0) [.ref (a 1), .ref (a 2), .ref (a 3), .int (nI (sM C)), .int (nI (sW C))], ob 1 (a 1) [.ref (a 4)], ai E (a 4) 768 (sN C), ob 0 (a 2) [.ref (a 5)], az E (a 5) 96 (sU C), ob 3 (a 3) [.ref (a 6), .ref (a 7), .ref (a 8), .int (nI (sZ C))], ai E (a 6) 8 (sn C), ai E (a 7) 8 (sb C), ai E (a 8) 8 (ss C)]) ?_ ?_
      · exact rpl_eq [0, 1, 2, 3, 4, 5, 6, 7, 8, 9, 10, 20, 21, 22, 23, 24, 25, 26, 27, 28] 38 (by decide) rfl rfl rfl (by decide) (by decide) rfl rfl
      refine g_aload_n F 0 dX2_keep_36 rfl rfl ?_
      refine g_dup F dX2_keep_37 rfl ?_
      refine g_get F 0 1 dX2_keep_38 rfl rfl (by decide) (by decide +kernel) (by decide +kernel) rfl ?_
      refine g_iconst (v := nI 1) F dX2_keep_41 (by decide) ?_
      refine g_iaddN F dX2_keep_42 ?_
      refine g_put F 0 1 dX2_keep_43 rfl rfl (by decide) (by decide +kernel) (by decide +kernel) tyX2_ok nmX2 rfl (by decide +kernel) rfl rfl (Nat.le_of_ble_eq_true rfl) rfl (ty := .int) (w2 := [ob 2 y0 [.ref y1, .int (nI (1 + 1))], aq E y1 3 (h3 (c0 0) (c1 0) (c2 0)), ob 5 (c0 0) [.ref (c0 1), .ref (c0 2), .ref (c0 3), .int (nI (sM (H 0))), .int (nI (sW (H 0)))], ob 1 (c0 1) [.ref (c0 4)], ai E (c0 4) 768 (sN (H 0)), ob 0 (c0 2) [.ref (c0 5)], az E (c0 5) 96 (sU (H 0)), ob 3 (c0 3) [.ref (c0 6), .ref (c0 7), .ref (c0 8), .int (nI (sZ (H 0)))], ai E (c0 6) 8 (sn (H 0)), ai E (c0 7) 8 (sb (H 0)), ai E (c0 8) 8 (ss (H 0)), ob 5 (c1 0) [.ref (c1 1), .ref (c1 2), .ref (c1 3), .int (nI (sM C)), .int (nI (sW C))], ob 1 (c1 1) [.ref (c1 4)], ai E (c1 4) 768 (sN C), ob 0 (c1 2) [.ref (c1 5)], az E (c1 5) 96 (sU C), ob 3 (c1 3) [.ref (c1 6), .ref (c1 7), .ref (c1 8), .int (nI (sZ C))], ai E (c1 6) 8 (sn C), ai E (c1 7) 8 (sb C), ai E (c1 8) 8 (ss C), ob 5 (c2 0) [.ref (c2 1), .ref (c2 2), .ref (c2 3), .int (nI (sM (H 2))), .int (nI (sW (H 2)))], ob 1 (c2 1) [.ref (c2 4)], ai E (c2 4) 768 (sN (H 2)), ob 0 (c2 2) [.ref (c2 5)], az E (c2 5) 96 (sU (H 2)), ob 3 (c2 3) [.ref (c2 6), .ref (c2 7), .ref (c2 8), .int (nI (sZ (H 2)))], ai E (c2 6) 8 (sn (H 2)), ai E (c2 7) 8 (sb (H 2)), ai E (c2 8) 8 (ss (H 2)), ob 5 (a 0) [.ref (a 1), .ref (a 2), .ref (a 3), .int (nI (sM C)), .int (nI (sW C))], ob 1 (a 1) [.ref (a 4)], ai E (a 4) 768 (sN C), ob 0 (a 2) [.ref (a 5)], az E (a 5) 96 (sU C), ob 3 (a 3) [.ref (a 6), .ref (a 7), .ref (a 8), .int (nI (sZ C))], ai E (a 6) 8 (sn C), ai E (a 7) 8 (sb C), ai E (a 8) 8 (ss C)]) rfl ?_
      exact hret _ _ _ dX2_keep_46 ⟨c0, c1, c2, (by rw [show rcH C H 1 0 = H 0 from rfl, show rcH C H 1 1 = C from rfl, show rcH C H 1 2 = H 2 from rfl, show rcn 1 = 1 + 1 from rfl])⟩
  · skip
    refine g_aload_n F 0 dX2_keep_0 rfl rfl ?_
    refine g_get F 0 1 dX2_keep_1 rfl rfl (by decide) (by decide +kernel) (by decide +kernel) rfl ?_
    refine g_iconst (v := nI 3) F dX2_keep_4 (by decide) ?_
    refine g_icmp_ltN (tgt := 12) F dX2_keep_5 (by decide) (by decide) (by decide) (fun c5 => ?_) (fun c5 => absurd c5 (by decide))
    refine g_aload_n F 0 dX2_keep_12 rfl rfl ?_
    refine g_get F 0 1 dX2_keep_13 rfl rfl (by decide) (by decide +kernel) (by decide +kernel) rfl ?_
    refine g_iconst (v := nI 3) F dX2_keep_16 (by decide) ?_
    refine g_callSNiR (n := 2) F [] (c_X8_below l E 2 3 (by omega) (by omega)) dX2_keep_17 rfl (by decide) rfl rfl rfl (Nat.le_of_ble_eq_true rfl) ⟨Nat.le_of_ble_eq_true rfl, Nat.le_of_ble_eq_true rfl⟩ rfl rfl ⟨Nat.le_of_ble_eq_true rfl, Nat.le_of_ble_eq_true rfl⟩ (host := "SummedParents") ggX2_keep_X8_below (by decide +kernel) (by decide +kernel) (by decide +kernel) (by decide +kernel) (fun r u hp => by obtain ⟨-, h⟩ := hp; exact h) ?_
    rintro r_17 u_17 ⟨rfl, -⟩
    refine g_if_eqB (tgt := 46) F dX2_keep_20 (by decide) (fun c20 => ?_) (fun c20 => ?_)
    · skip
      exact absurd (by decide) c20
    · skip
      refine g_aload_n F 0 dX2_keep_23 rfl rfl ?_
      refine g_get F 0 0 dX2_keep_24 rfl rfl (by decide) (by decide +kernel) (by decide +kernel) rfl ?_
      refine g_aload_n F 0 dX2_keep_27 rfl rfl ?_
      refine g_get F 0 1 dX2_keep_28 rfl rfl (by decide) (by decide +kernel) (by decide +kernel) rfl ?_
      refine g_qald (v := .ref (c2 0)) F 1 dX2_keep_31 rfl (by omega) (by decide) (by rfl) ?_
      refine g_aload_n F 1 dX2_keep_32 rfl rfl ?_
      refine g_callVvW (n := 1) F [20, 21, 22, 23, 24, 25, 26, 27, 28, 29, 30, 31, 32, 33, 34, 35, 36, 37] (c_X5_copyFrom l E (c2 0) (c2 1) (c2 2) (c2 3) (c2 4) (c2 5) (c2 6) (c2 7) (c2 8) (sM (H 2)) (sW (H 2)) (sZ (H 2)) (sN (H 2)) (sU (H 2)) (sn (H 2)) (sb (H 2)) (ss (H 2)) (a 0) (a 1) (a 2) (a 3) (a 4) (a 5) (a 6) (a 7) (a 8) (sM C) (sW C) (sZ C) (sN C) (sU C) (sn C) (sb C) (ss C) (by exact hI)) dX2_keep_33 rfl (by decide) rfl rfl rfl (Nat.le_of_ble_eq_true rfl) ⟨Nat.le_of_ble_eq_true rfl, Nat.le_of_ble_eq_true rfl⟩ rfl rfl ⟨Nat.le_of_ble_eq_true rfl, Nat.le_of_ble_eq_true rfl⟩ 20 rfl rfl gX2_keep_X5_copyFrom (by decide +kernel) (fun u hp => by obtain rfl := hp; rfl) ?_
      rintro u_33 rfl
      refine g_ws (w2 := [ob 2 y0 [.ref y1, .int (nI 2)], aq E y1 3 (h3 (c0 0) (c1 0) (c2 0)), ob 5 (c0 0) [.ref (c0 1), .ref (c0 2), .ref (c0 3), .int (nI (sM (H 0))), .int (nI (sW (H 0)))], ob 1 (c0 1) [.ref (c0 4)], ai E (c0 4) 768 (sN (H 0)), ob 0 (c0 2) [.ref (c0 5)], az E (c0 5) 96 (sU (H 0)), ob 3 (c0 3) [.ref (c0 6), .ref (c0 7), .ref (c0 8), .int (nI (sZ (H 0)))], ai E (c0 6) 8 (sn (H 0)), ai E (c0 7) 8 (sb (H 0)), ai E (c0 8) 8 (ss (H 0)), ob 5 (c1 0) [.ref (c1 1), .ref (c1 2), .ref (c1 3), .int (nI (sM (H 1))), .int (nI (sW (H 1)))], ob 1 (c1 1) [.ref (c1 4)], ai E (c1 4) 768 (sN (H 1)), ob 0 (c1 2) [.ref (c1 5)], az E (c1 5) 96 (sU (H 1)), ob 3 (c1 3) [.ref (c1 6), .ref (c1 7), .ref (c1 8), .int (nI (sZ (H 1)))], ai E (c1 6) 8 (sn (H 1)), ai E (c1 7) 8 (sb (H 1)), ai E (c1 8) 8 (ss (H 1)), ob 5 (c2 0) [.ref (c2 1), .ref (c2 2), .ref (c2 3), .int (nI (sM C)), .int (nI (sW C))], ob 1 (c2 1) [.ref (c2 4)], ai E (c2 4) 768 (sN C), ob 0 (c2 2) [.ref (c2 5)], az E (c2 5) 96 (sU C), ob 3 (c2 3) [.ref (c2 6), .ref (c2 7), .ref (c2 8), .int (nI (sZ C))], ai E (c2 6) 8 (sn C), ai E (c2 7) 8 (sb C), ai E (c2 8) 8 (ss C), ob 5 (a 0) [.ref (a 1), .ref (a 2), .ref (a 3), .int (nI (sM C)), .int (nI (sW C))], ob 1 (a 1) [.ref (a 4)], ai E (a 4) 768 (sN C), ob 0 (a 2) [.ref (a 5)], az E (a 5) 96 (sU C), ob 3 (a 3) [.ref (a 6), .ref (a 7), .ref (a 8), .int (nI (sZ C))], ai E (a 6) 8 (sn C), ai E (a 7) 8 (sb C), ai E (a 8) 8 (ss C)]) ?_ ?_
      · exact rpl_eq [0, 1, 2, 3, 4, 5, 6, 7, 8, 9, 10, 11, 12, 13, 14, 15, 16, 17, 18, 19] 38 (by decide) rfl rfl rfl (by decide) (by decide) rfl rfl
      refine g_aload_n F 0 dX2_keep_36 rfl rfl ?_
      refine g_dup F dX2_keep_37 rfl ?_
      refine g_get F 0 1 dX2_keep_38 rfl rfl (by decide) (by decide +kernel) (by decide +kernel) rfl ?_
      refine g_iconst (v := nI 1) F dX2_keep_41 (by decide) ?_
      refine g_iaddN F dX2_keep_42 ?_
      refine g_put F 0 1 dX2_keep_43 rfl rfl (by decide) (by decide +kernel) (by decide +kernel) tyX2_ok nmX2 rfl (by decide +kernel) rfl rfl (Nat.le_of_ble_eq_true rfl) rfl (ty := .int) (w2 := [ob 2 y0 [.ref y1, .int (nI (2 + 1))], aq E y1 3 (h3 (c0 0) (c1 0) (c2 0)), ob 5 (c0 0) [.ref (c0 1), .ref (c0 2), .ref (c0 3), .int (nI (sM (H 0))), .int (nI (sW (H 0)))], ob 1 (c0 1) [.ref (c0 4)], ai E (c0 4) 768 (sN (H 0)), ob 0 (c0 2) [.ref (c0 5)], az E (c0 5) 96 (sU (H 0)), ob 3 (c0 3) [.ref (c0 6), .ref (c0 7), .ref (c0 8), .int (nI (sZ (H 0)))], ai E (c0 6) 8 (sn (H 0)), ai E (c0 7) 8 (sb (H 0)), ai E (c0 8) 8 (ss (H 0)), ob 5 (c1 0) [.ref (c1 1), .ref (c1 2), .ref (c1 3), .int (nI (sM (H 1))), .int (nI (sW (H 1)))], ob 1 (c1 1) [.ref (c1 4)], ai E (c1 4) 768 (sN (H 1)), ob 0 (c1 2) [.ref (c1 5)], az E (c1 5) 96 (sU (H 1)), ob 3 (c1 3) [.ref (c1 6), .ref (c1 7), .ref (c1 8), .int (nI (sZ (H 1)))], ai E (c1 6) 8 (sn (H 1)), ai E (c1 7) 8 (sb (H 1)), ai E (c1 8) 8 (ss (H 1)), ob 5 (c2 0) [.ref (c2 1), .ref (c2 2), .ref (c2 3), .int (nI (sM C)), .int (nI (sW C))], ob 1 (c2 1) [.ref (c2 4)], ai E (c2 4) 768 (sN C), ob 0 (c2 2) [.ref (c2 5)], az E (c2 5) 96 (sU C), ob 3 (c2 3) [.ref (c2 6), .ref (c2 7), .ref (c2 8), .int (nI (sZ C))], ai E (c2 6) 8 (sn C), ai E (c2 7) 8 (sb C), ai E (c2 8) 8 (ss C), ob 5 (a 0) [.ref (a 1), .ref (a 2), .ref (a 3), .int (nI (sM C)), .int (nI (sW C))], ob 1 (a 1) [.ref (a 4)], ai E (a 4) 768 (sN C), ob 0 (a 2) [.ref (a 5)], az E (a 5) 96 (sU C), ob 3 (a 3) [.ref (a 6), .ref (a 7), .ref (a 8), .int (nI (sZ C))], ai E (a 6) 8 (sn C), ai E (a 7) 8 (sb C), ai E (a 8) 8 (ss C)]) rfl ?_
      exact hret _ _ _ dX2_keep_46 ⟨c0, c1, c2, (by rw [show rcH C H 2 0 = H 0 from rfl, show rcH C H 2 1 = H 1 from rfl, show rcH C H 2 2 = C from rfl, show rcn 2 = 2 + 1 from rfl])⟩
  · skip
    refine g_aload_n F 0 dX2_keep_0 rfl rfl ?_
    refine g_get F 0 1 dX2_keep_1 rfl rfl (by decide) (by decide +kernel) (by decide +kernel) rfl ?_
    refine g_iconst (v := nI 3) F dX2_keep_4 (by decide) ?_
    refine g_icmp_ltN (tgt := 12) F dX2_keep_5 (by decide) (by decide) (by decide) (fun c5 => absurd c5 (by decide)) (fun c5 => ?_)
    refine g_aload_n F 0 dX2_keep_8 rfl rfl ?_
    refine g_callVvW (n := 0) F [0, 1, 2, 11, 20] (c_X2_dropOldest l E y0 y1 3 (c0 0) (c0 1) (c0 2) (c0 3) (sM (H 0)) (sW (H 0)) (c1 0) (c1 1) (c1 2) (c1 3) (sM (H 1)) (sW (H 1)) (c2 0) (c2 1) (c2 2) (c2 3) (sM (H 2)) (sW (H 2)) ) dX2_keep_9 rfl (by decide) rfl rfl rfl (Nat.le_of_ble_eq_true rfl) ⟨Nat.le_of_ble_eq_true rfl, Nat.le_of_ble_eq_true rfl⟩ rfl rfl ⟨Nat.le_of_ble_eq_true rfl, Nat.le_of_ble_eq_true rfl⟩ 0 rfl rfl gX2_keep_X2_dropOldest (by decide +kernel) (fun u hp => by obtain rfl := hp; rfl) ?_
    rintro u_9 rfl
    refine g_ws (w2 := [ob 2 y0 [.ref y1, .int (nI 2)], aq E y1 3 (h3 (c1 0) (c2 0) (c0 0)), ob 5 (c0 0) [.ref (c0 1), .ref (c0 2), .ref (c0 3), .int (nI (sM (H 0))), .int (nI (sW (H 0)))], ob 1 (c0 1) [.ref (c0 4)], ai E (c0 4) 768 (sN (H 0)), ob 0 (c0 2) [.ref (c0 5)], az E (c0 5) 96 (sU (H 0)), ob 3 (c0 3) [.ref (c0 6), .ref (c0 7), .ref (c0 8), .int (nI (sZ (H 0)))], ai E (c0 6) 8 (sn (H 0)), ai E (c0 7) 8 (sb (H 0)), ai E (c0 8) 8 (ss (H 0)), ob 5 (c1 0) [.ref (c1 1), .ref (c1 2), .ref (c1 3), .int (nI (sM (H 1))), .int (nI (sW (H 1)))], ob 1 (c1 1) [.ref (c1 4)], ai E (c1 4) 768 (sN (H 1)), ob 0 (c1 2) [.ref (c1 5)], az E (c1 5) 96 (sU (H 1)), ob 3 (c1 3) [.ref (c1 6), .ref (c1 7), .ref (c1 8), .int (nI (sZ (H 1)))], ai E (c1 6) 8 (sn (H 1)), ai E (c1 7) 8 (sb (H 1)), ai E (c1 8) 8 (ss (H 1)), ob 5 (c2 0) [.ref (c2 1), .ref (c2 2), .ref (c2 3), .int (nI (sM (H 2))), .int (nI (sW (H 2)))], ob 1 (c2 1) [.ref (c2 4)], ai E (c2 4) 768 (sN (H 2)), ob 0 (c2 2) [.ref (c2 5)], az E (c2 5) 96 (sU (H 2)), ob 3 (c2 3) [.ref (c2 6), .ref (c2 7), .ref (c2 8), .int (nI (sZ (H 2)))], ai E (c2 6) 8 (sn (H 2)), ai E (c2 7) 8 (sb (H 2)), ai E (c2 8) 8 (ss (H 2)), ob 5 (a 0) [.ref (a 1), .ref (a 2), .ref (a 3), .int (nI (sM C)), .int (nI (sW C))], ob 1 (a 1) [.ref (a 4)], ai E (a 4) 768 (sN C), ob 0 (a 2) [.ref (a 5)], az E (a 5) 96 (sU C), ob 3 (a 3) [.ref (a 6), .ref (a 7), .ref (a 8), .int (nI (sZ C))], ai E (a 6) 8 (sn C), ai E (a 7) 8 (sb C), ai E (a 8) 8 (ss C)]) ?_ ?_
    · exact rpl_eq [3, 4, 5, 6, 7, 8, 9, 10, 12, 13, 14, 15, 16, 17, 18, 19, 21, 22, 23, 24, 25, 26, 27, 28, 29, 30, 31, 32, 33, 34, 35, 36, 37] 38 (by decide) rfl rfl rfl (by decide) (by decide) rfl rfl
    refine g_aload_n F 0 dX2_keep_12 rfl rfl ?_
    refine g_get F 0 1 dX2_keep_13 rfl rfl (by decide) (by decide +kernel) (by decide +kernel) rfl ?_
    refine g_iconst (v := nI 3) F dX2_keep_16 (by decide) ?_
    refine g_callSNiR (n := 2) F [] (c_X8_below l E 2 3 (by omega) (by omega)) dX2_keep_17 rfl (by decide) rfl rfl rfl (Nat.le_of_ble_eq_true rfl) ⟨Nat.le_of_ble_eq_true rfl, Nat.le_of_ble_eq_true rfl⟩ rfl rfl ⟨Nat.le_of_ble_eq_true rfl, Nat.le_of_ble_eq_true rfl⟩ (host := "SummedParents") ggX2_keep_X8_below (by decide +kernel) (by decide +kernel) (by decide +kernel) (by decide +kernel) (fun r u hp => by obtain ⟨-, h⟩ := hp; exact h) ?_
    rintro r_17 u_17 ⟨rfl, -⟩
    refine g_if_eqB (tgt := 46) F dX2_keep_20 (by decide) (fun c20 => ?_) (fun c20 => ?_)
    · skip
      exact absurd (by decide) c20
    · skip
      refine g_aload_n F 0 dX2_keep_23 rfl rfl ?_
      refine g_get F 0 0 dX2_keep_24 rfl rfl (by decide) (by decide +kernel) (by decide +kernel) rfl ?_
      refine g_aload_n F 0 dX2_keep_27 rfl rfl ?_
      refine g_get F 0 1 dX2_keep_28 rfl rfl (by decide) (by decide +kernel) (by decide +kernel) rfl ?_
      refine g_qald (v := .ref (c0 0)) F 1 dX2_keep_31 rfl (by omega) (by decide) (by rfl) ?_
      refine g_aload_n F 1 dX2_keep_32 rfl rfl ?_
      refine g_callVvW (n := 1) F [2, 3, 4, 5, 6, 7, 8, 9, 10, 29, 30, 31, 32, 33, 34, 35, 36, 37] (c_X5_copyFrom l E (c0 0) (c0 1) (c0 2) (c0 3) (c0 4) (c0 5) (c0 6) (c0 7) (c0 8) (sM (H 0)) (sW (H 0)) (sZ (H 0)) (sN (H 0)) (sU (H 0)) (sn (H 0)) (sb (H 0)) (ss (H 0)) (a 0) (a 1) (a 2) (a 3) (a 4) (a 5) (a 6) (a 7) (a 8) (sM C) (sW C) (sZ C) (sN C) (sU C) (sn C) (sb C) (ss C) (by exact hI)) dX2_keep_33 rfl (by decide) rfl rfl rfl (Nat.le_of_ble_eq_true rfl) ⟨Nat.le_of_ble_eq_true rfl, Nat.le_of_ble_eq_true rfl⟩ rfl rfl ⟨Nat.le_of_ble_eq_true rfl, Nat.le_of_ble_eq_true rfl⟩ 2 rfl rfl gX2_keep_X5_copyFrom (by decide +kernel) (fun u hp => by obtain rfl := hp; rfl) ?_
      rintro u_33 rfl
      refine g_ws (w2 := [ob 2 y0 [.ref y1, .int (nI 2)], aq E y1 3 (h3 (c1 0) (c2 0) (c0 0)), ob 5 (c0 0) [.ref (c0 1), .ref (c0 2), .ref (c0 3), .int (nI (sM C)), .int (nI (sW C))], ob 1 (c0 1) [.ref (c0 4)], ai E (c0 4) 768 (sN C), ob 0 (c0 2) [.ref (c0 5)], az E (c0 5) 96 (sU C), ob 3 (c0 3) [.ref (c0 6), .ref (c0 7), .ref (c0 8), .int (nI (sZ C))], ai E (c0 6) 8 (sn C), ai E (c0 7) 8 (sb C), ai E (c0 8) 8 (ss C), ob 5 (c1 0) [.ref (c1 1), .ref (c1 2), .ref (c1 3), .int (nI (sM (H 1))), .int (nI (sW (H 1)))], ob 1 (c1 1) [.ref (c1 4)], ai E (c1 4) 768 (sN (H 1)), ob 0 (c1 2) [.ref (c1 5)], az E (c1 5) 96 (sU (H 1)), ob 3 (c1 3) [.ref (c1 6), .ref (c1 7), .ref (c1 8), .int (nI (sZ (H 1)))], ai E (c1 6) 8 (sn (H 1)), ai E (c1 7) 8 (sb (H 1)), ai E (c1 8) 8 (ss (H 1)), ob 5 (c2 0) [.ref (c2 1), .ref (c2 2), .ref (c2 3), .int (nI (sM (H 2))), .int (nI (sW (H 2)))], ob 1 (c2 1) [.ref (c2 4)], ai E (c2 4) 768 (sN (H 2)), ob 0 (c2 2) [.ref (c2 5)], az E (c2 5) 96 (sU (H 2)), ob 3 (c2 3) [.ref (c2 6), .ref (c2 7), .ref (c2 8), .int (nI (sZ (H 2)))], ai E (c2 6) 8 (sn (H 2)), ai E (c2 7) 8 (sb (H 2)), ai E (c2 8) 8 (ss (H 2)), ob 5 (a 0) [.ref (a 1), .ref (a 2), .ref (a 3), .int (nI (sM C)), .int (nI (sW C))], ob 1 (a 1) [.ref (a 4)], ai E (a 4) 768 (sN C), ob 0 (a 2) [.ref (a 5)], az E (a 5) 96 (sU C), ob 3 (a 3) [.ref (a 6), .ref (a 7), .ref (a 8), .int (nI (sZ C))], ai E (a 6) 8 (sn C), ai E (a 7) 8 (sb C), ai E (a 8) 8 (ss C)]) ?_ ?_
      · exact rpl_eq [0, 1, 11, 12, 13, 14, 15, 16, 17, 18, 19, 20, 21, 22, 23, 24, 25, 26, 27, 28] 38 (by decide) rfl rfl rfl (by decide) (by decide) rfl rfl
      refine g_aload_n F 0 dX2_keep_36 rfl rfl ?_
      refine g_dup F dX2_keep_37 rfl ?_
      refine g_get F 0 1 dX2_keep_38 rfl rfl (by decide) (by decide +kernel) (by decide +kernel) rfl ?_
      refine g_iconst (v := nI 1) F dX2_keep_41 (by decide) ?_
      refine g_iaddN F dX2_keep_42 ?_
      refine g_put F 0 1 dX2_keep_43 rfl rfl (by decide) (by decide +kernel) (by decide +kernel) tyX2_ok nmX2 rfl (by decide +kernel) rfl rfl (Nat.le_of_ble_eq_true rfl) rfl (ty := .int) (w2 := [ob 2 y0 [.ref y1, .int (nI (2 + 1))], aq E y1 3 (h3 (c1 0) (c2 0) (c0 0)), ob 5 (c0 0) [.ref (c0 1), .ref (c0 2), .ref (c0 3), .int (nI (sM C)), .int (nI (sW C))], ob 1 (c0 1) [.ref (c0 4)], ai E (c0 4) 768 (sN C), ob 0 (c0 2) [.ref (c0 5)], az E (c0 5) 96 (sU C), ob 3 (c0 3) [.ref (c0 6), .ref (c0 7), .ref (c0 8), .int (nI (sZ C))], ai E (c0 6) 8 (sn C), ai E (c0 7) 8 (sb C), ai E (c0 8) 8 (ss C), ob 5 (c1 0) [.ref (c1 1), .ref (c1 2), .ref (c1 3), .int (nI (sM (H 1))), .int (nI (sW (H 1)))], ob 1 (c1 1) [.ref (c1 4)], ai E (c1 4) 768 (sN (H 1)), ob 0 (c1 2) [.ref (c1 5)], az E (c1 5) 96 (sU (H 1)), ob 3 (c1 3) [.ref (c1 6), .ref (c1 7), .ref (c1 8), .int (nI (sZ (H 1)))], ai E (c1 6) 8 (sn (H 1)), ai E (c1 7) 8 (sb (H 1)), ai E (c1 8) 8 (ss (H 1)), ob 5 (c2 0) [.ref (c2 1), .ref (c2 2), .ref (c2 3), .int (nI (sM (H 2))), .int (nI (sW (H 2)))], ob 1 (c2 1) [.ref (c2 4)], ai E (c2 4) 768 (sN (H 2)), ob 0 (c2 2) [.ref (c2 5)], az E (c2 5) 96 (sU (H 2)), ob 3 (c2 3) [.ref (c2 6), .ref (c2 7), .ref (c2 8), .int (nI (sZ (H 2)))], ai E (c2 6) 8 (sn (H 2)), ai E (c2 7) 8 (sb (H 2)), ai E (c2 8) 8 (ss (H 2)), ob 5 (a 0) [.ref (a 1), .ref (a 2), .ref (a 3), .int (nI (sM C)), .int (nI (sW C))], ob 1 (a 1) [.ref (a 4)], ai E (a 4) 768 (sN C), ob 0 (a 2) [.ref (a 5)], az E (a 5) 96 (sU C), ob 3 (a 3) [.ref (a 6), .ref (a 7), .ref (a 8), .int (nI (sZ C))], ai E (a 6) 8 (sn C), ai E (a 7) 8 (sb C), ai E (a 8) 8 (ss C)]) rfl ?_
      refine g_w (w2 := [ob 2 y0 [.ref y1, .int (nI (2 + 1))], aq E y1 3 (h3 (c1 0) (c2 0) (c0 0)), ob 5 (c1 0) [.ref (c1 1), .ref (c1 2), .ref (c1 3), .int (nI (sM (H 1))), .int (nI (sW (H 1)))], ob 1 (c1 1) [.ref (c1 4)], ai E (c1 4) 768 (sN (H 1)), ob 0 (c1 2) [.ref (c1 5)], az E (c1 5) 96 (sU (H 1)), ob 3 (c1 3) [.ref (c1 6), .ref (c1 7), .ref (c1 8), .int (nI (sZ (H 1)))], ai E (c1 6) 8 (sn (H 1)), ai E (c1 7) 8 (sb (H 1)), ai E (c1 8) 8 (ss (H 1)), ob 5 (c2 0) [.ref (c2 1), .ref (c2 2), .ref (c2 3), .int (nI (sM (H 2))), .int (nI (sW (H 2)))], ob 1 (c2 1) [.ref (c2 4)], ai E (c2 4) 768 (sN (H 2)), ob 0 (c2 2) [.ref (c2 5)], az E (c2 5) 96 (sU (H 2)), ob 3 (c2 3) [.ref (c2 6), .ref (c2 7), .ref (c2 8), .int (nI (sZ (H 2)))], ai E (c2 6) 8 (sn (H 2)), ai E (c2 7) 8 (sb (H 2)), ai E (c2 8) 8 (ss (H 2)), ob 5 (c0 0) [.ref (c0 1), .ref (c0 2), .ref (c0 3), .int (nI (sM C)), .int (nI (sW C))], ob 1 (c0 1) [.ref (c0 4)], ai E (c0 4) 768 (sN C), ob 0 (c0 2) [.ref (c0 5)], az E (c0 5) 96 (sU C), ob 3 (c0 3) [.ref (c0 6), .ref (c0 7), .ref (c0 8), .int (nI (sZ C))], ai E (c0 6) 8 (sn C), ai E (c0 7) 8 (sb C), ai E (c0 8) 8 (ss C), ob 5 (a 0) [.ref (a 1), .ref (a 2), .ref (a 3), .int (nI (sM C)), .int (nI (sW C))], ob 1 (a 1) [.ref (a 4)], ai E (a 4) 768 (sN C), ob 0 (a 2) [.ref (a 5)], az E (a 5) 96 (sU C), ob 3 (a 3) [.ref (a 6), .ref (a 7), .ref (a 8), .int (nI (sZ C))], ai E (a 6) 8 (sn C), ai E (a 7) 8 (sb C), ai E (a 8) 8 (ss C)]) [0, 1, 11, 12, 13, 14, 15, 16, 17, 18, 19, 20, 21, 22, 23, 24, 25, 26, 27, 28, 2, 3, 4, 5, 6, 7, 8, 9, 10, 29, 30, 31, 32, 33, 34, 35, 36, 37] (by decide) rfl ?_
      exact hret _ _ _ dX2_keep_46 ⟨c1, c2, c0, (by rw [show rcH C H 3 0 = H 1 from rfl, show rcH C H 3 1 = H 2 from rfl, show rcH C H 3 2 = C from rfl, show rcn 3 = 2 + 1 from rfl])⟩
